/-! THE WORLD: cells by numbers k (gad gives the address), each cell's whole numbers in M k. Trials: 8*q, their arrays behind them; 152.. the rest of the class; 169.. the reference; 178 the law's out -/
def q_up (f : Nat → Int) (j : Nat) (v : Int) : Nat → Int := fun b => if b = j then v else f b
def q_wr (M : Nat → Nat → Int) (k j : Nat) (v : Int) : Nat → Nat → Int := fun a => if a = k then q_up (M k) j v else M a
theorem up_eq (f : Nat → Int) (j : Nat) (v : Int) : q_up f j v j = v := if_pos rfl
theorem up_ne (f : Nat → Int) {j b : Nat} (v : Int) (h : b ≠ j) : q_up f j v b = f b := if_neg h
theorem wr_at (M : Nat → Nat → Int) (k j : Nat) (v : Int) : q_wr M k j v k = q_up (M k) j v := if_pos rfl
theorem wr_off (M : Nat → Nat → Int) {k a : Nat} (j : Nat) (v : Int) (h : a ≠ k) : q_wr M k j v a = M a := if_neg h
theorem wr_eq (M : Nat → Nat → Int) (k j : Nat) (v : Int) : q_wr M k j v k j = v := by rw [wr_at, up_eq]
theorem wr_ne (M : Nat → Nat → Int) (k : Nat) {j b : Nat} (v : Int) (h : b ≠ j) : q_wr M k j v k b = M k b := by rw [wr_at, up_ne _ _ h]
abbrev gG : Type := va_G × (Nat → ClassId) × (Nat → Nat) × (Nat → Prop) × Nat × Nat
def gad (G : gG) (k : Nat) : Nat := G.2.2.1 k
def gdm (G : gG) (k : Nat) : Prop := G.2.2.2.1 k
def gA (G : gG) : Nat → Prop := fun q => G.2.2.2.2.1 ≤ q
abbrev gty (G : gG) : List (ClassId × FieldType) := [(G.2.1 0, .int), (G.2.1 1, .boolean), (G.2.1 2, .object "DogTrials$Trial")]
abbrev gI (G : gG) (n : Nat) (f : Nat → Int) : va_E := .inl (G.2.1 0, n, .inl (fun j => iZ (f j)))
abbrev gZ (G : gG) (n : Nat) (f : Nat → Int) : va_E := .inl (G.2.1 1, n, .inl (fun j => iZ (f j)))
abbrev gR (G : gG) (n : Nat) (g : Nat → Nat) : va_E := .inl (G.2.1 2, n, .inr (.inr (.inr (.inr (fun j => some (gad G (g j)))))))
abbrev gL (G : gG) (n : Nat) (f : Nat → Int) : va_E := .inl (G.2.1 3, n, .inr (.inl (fun j => lZ (f j))))
abbrev oT (G : gG) (f : Nat → Int) (t : Nat) : List Value := [.int (iZ (f 0)), .ref (gad G (t + 1)), .ref (gad G (t + 2)), .ref (gad G (t + 3)), .ref (gad G (t + 4)), .ref (gad G (t + 5)), .ref (gad G (t + 6)), .ref (gad G (t + 7)), .int (iZ (f 8)), .int (iZ (f 9)), .int (iZ (f 10)), .int (iZ (f 11)), .int (iZ (f 12)), .int (iZ (f 13)), .int (iZ (f 14))]
abbrev oC (G : gG) (f : Nat → Int) (q : Nat) : List Value := [.ref (gad G (q + 1)), .ref (gad G (q + 2)), .int (iZ (f 2)), .ref (gad G (q + 3))]
abbrev oX (G : gG) : List Value := [.ref (gad G 0), .ref (gad G 8), .ref (gad G 155), .ref (gad G 163), .ref (gad G 165), .ref (gad G 167), .ref (gad G 153), .ref (gad G 154)]
abbrev oH (G : gG) : List Value := [.ref (gad G 16), .ref (gad G 159), .ref (gad G 164)]
abbrev oM (G : gG) (f : Nat → Int) : List Value := [.ref (gad G 166), .int (iZ (f 1)), .int (iZ (f 2))]
abbrev oS (G : gG) (f : Nat → Int) : List Value := [.ref (gad G 168), .int (iZ (f 1)), .int (iZ (f 2))]
def gE0 (G : gG) (f : Nat → Int) (k : Nat) : va_E :=
  if k < 152 then (if k % 8 = 0 then .inr (3, oT G f k) else if k % 8 = 4 then gZ G 12 f else gI G (if k % 8 = 6 then 72 else if k % 8 = 7 then 6 else 12) f)
  else match k with
  | 152 => .inr (5, oX G)
  | 153 => gR G 2 (fun j => 8 * (3 + j))
  | 154 => gZ G 2 f
  | 155 => .inr (0, oC G f 155)
  | 156 => gI G 12 f
  | 157 => gZ G 12 f
  | 158 => gI G 6 f
  | 159 => .inr (0, oC G f 159)
  | 160 => gI G 12 f
  | 161 => gZ G 12 f
  | 162 => gI G 6 f
  | 163 => .inr (2, oH G)
  | 164 => gI G 4 f
  | 165 => .inr (1, oM G f)
  | 166 => gR G 14 (fun j => 8 * (5 + j))
  | 167 => .inr (4, oS G f)
  | 168 => gI G 70 f
  | _ => gL G 1 f
/-- two objects of the class: the second one's cells are the first one's numbers and 256 -/
def q_s (k : Nat) : Nat := if k < 256 then k + 256 else if k < 512 then k - 256 else k
theorem q_s_s (k : Nat) : q_s (q_s k) = k := by unfold q_s; (repeat' split) <;> omega
theorem q_s_inj {i j : Nat} (h : q_s i = q_s j) : i = j := by rw [← q_s_s i, h, q_s_s]
theorem q_s_lo {k : Nat} (h : k < 256) : q_s k = k + 256 := by unfold q_s; rw [if_pos h]
theorem q_s_hi {k : Nat} (h : k < 256) : q_s (k + 256) = k := by unfold q_s; rw [if_neg (by omega), if_pos (by omega)]; omega
def gSw (G : gG) : gG := (G.1, G.2.1, fun k => gad G (q_s k), fun k => gdm G (q_s k), G.2.2.2.2)
theorem gSw_gad (G : gG) (k : Nat) : gad (gSw G) k = gad G (q_s k) := rfl
theorem gSw_gdm (G : gG) (k : Nat) : gdm (gSw G) k = gdm G (q_s k) := rfl
theorem gSw_gA (G : gG) : gA (gSw G) = gA G := rfl
theorem gSw_gSw (G : gG) : gSw (gSw G) = G := by
  obtain ⟨a, b, c, d, e⟩ := G
  show (a, b, (fun k => c (q_s (q_s k))), (fun k => d (q_s (q_s k))), e) = _
  simp only [q_s_s]
def gE (G : gG) (f : Nat → Int) (k : Nat) : va_E := if k < 256 then gE0 G f k else if k < 512 then gE0 (gSw G) f (k - 256) else gL G 1 f
theorem gE_lo (G : gG) (f : Nat → Int) {k : Nat} (h : k < 256) : gE G f k = gE0 G f k := if_pos h
theorem gE_sw (G : gG) (f : Nat → Int) (k : Nat) : gE (gSw G) f k = gE G f (q_s k) := by
  unfold gE
  by_cases h : k < 256
  · rw [if_pos h, q_s_lo h, if_neg (by omega), if_pos (by omega), Nat.add_sub_cancel]
  · by_cases h2 : k < 512
    · have e : q_s k = k - 256 := by unfold q_s; rw [if_neg h, if_pos h2]
      rw [if_neg h, if_pos h2, e, if_pos (by omega), gSw_gSw]
    · have e : q_s k = k := by unfold q_s; rw [if_neg h, if_neg h2]
      rw [if_neg h, if_neg h2, e, if_neg h, if_neg h2]; rfl
/-- t is a trial's number -/
def isT (t : Nat) : Prop := t < 152 ∧ t % 8 = 0
def isC (q : Nat) : Prop := q = 155 ∨ q = 159
theorem gE_T {t : Nat} (h : isT t) (G : gG) (f : Nat → Int) : gE G f t = .inr (3, oT G f t) := by
  obtain ⟨a, b⟩ := h
  rw [gE_lo G f (by omega)]; unfold gE0; rw [if_pos (by omega), if_pos (by omega)]
theorem gE_tI {t : Nat} (h : isT t) (r : Nat) (h1 : r = 1 ∨ r = 2 ∨ r = 3 ∨ r = 5) (G : gG) (f : Nat → Int) : gE G f (t + r) = gI G 12 f := by
  obtain ⟨a, b⟩ := h
  rw [gE_lo G f (by omega)]; unfold gE0; rw [if_pos (by omega), if_neg (by omega), if_neg (by omega), if_neg (by omega), if_neg (by omega)]
theorem gE_tZ {t : Nat} (h : isT t) (G : gG) (f : Nat → Int) : gE G f (t + 4) = gZ G 12 f := by
  obtain ⟨a, b⟩ := h
  rw [gE_lo G f (by omega)]; unfold gE0; rw [if_pos (by omega), if_neg (by omega), if_pos (by omega)]
theorem gE_t6 {t : Nat} (h : isT t) (G : gG) (f : Nat → Int) : gE G f (t + 6) = gI G 72 f := by
  obtain ⟨a, b⟩ := h
  rw [gE_lo G f (by omega)]; unfold gE0; rw [if_pos (by omega), if_neg (by omega), if_neg (by omega), if_pos (by omega)]
theorem gE_t7 {t : Nat} (h : isT t) (G : gG) (f : Nat → Int) : gE G f (t + 7) = gI G 6 f := by
  obtain ⟨a, b⟩ := h
  rw [gE_lo G f (by omega)]; unfold gE0; rw [if_pos (by omega), if_neg (by omega), if_neg (by omega), if_neg (by omega), if_pos (by omega)]
theorem gE_C {q : Nat} (h : isC q) (G : gG) (f : Nat → Int) : gE G f q = .inr (0, oC G f q) := by rcases h with rfl | rfl <;> rfl
theorem gE_c1 {q : Nat} (h : isC q) (G : gG) (f : Nat → Int) : gE G f (q + 1) = gI G 12 f := by rcases h with rfl | rfl <;> rfl
theorem gE_c2 {q : Nat} (h : isC q) (G : gG) (f : Nat → Int) : gE G f (q + 2) = gZ G 12 f := by rcases h with rfl | rfl <;> rfl
theorem gE_c3 {q : Nat} (h : isC q) (G : gG) (f : Nat → Int) : gE G f (q + 3) = gI G 6 f := by rcases h with rfl | rfl <;> rfl
/-- the class's table of what each phase is worth -/
def q_wth (p : Nat) : Int := if p = 0 then 20 else if p = 1 then 10 else if p = 2 then 20 else if p = 3 then 30 else 10
/-- links between nest mates, by the tables -/
def gNst (s : State) : Prop := va_Nw (.fieldLinkNest RX3 72 "DogTrials" "WORTH" "[I" "DogTrials") s ∧ va_Nw (.fieldLinkNest RX0 56 "DogTrials" "WORTH" "[I" "DogTrials") s ∧ va_Nw (.fieldLinkNest RX2 130 "DogTrials" "WORTH" "[I" "DogTrials") s ∧ va_Nw (.methodLinkNest RX2 77 yX5_isMinutes "DogTrials") s ∧ va_Nw (.methodLinkNest RX2 91 yX5_isPhase "DogTrials") s ∧ va_Nw (.methodLinkNest RX2 98 yX5_isSunset "DogTrials") s ∧ va_Nw (.methodLinkNest RX4 55 yX5_isOwner "DogTrials") s ∧ va_Nw (.methodLinkNest RX4 70 yX5_isDraw "DogTrials") s ∧ va_Nw (.methodLinkNest RX4 77 yX5_isPhase "DogTrials") s
theorem gNst.warm {s U : State} (hW : s.WarmedH U.vm) (h : gNst s) : gNst U := ⟨va_Nw.warmF hW h.1, va_Nw.warmF hW h.2.1, va_Nw.warmF hW h.2.2.1, va_Nw.warmM hW h.2.2.2.1, va_Nw.warmM hW h.2.2.2.2.1, va_Nw.warmM hW h.2.2.2.2.2.1, va_Nw.warmM hW h.2.2.2.2.2.2.1, va_Nw.warmM hW h.2.2.2.2.2.2.2.1, va_Nw.warmM hW h.2.2.2.2.2.2.2.2⟩
theorem gNst.same {u U : State} (e : u.vm = U.vm) (h : gNst u) : gNst U := ⟨va_Nw.same rfl e h.1, va_Nw.same rfl e h.2.1, va_Nw.same rfl e h.2.2.1, va_Nw.same rfl e h.2.2.2.1, va_Nw.same rfl e h.2.2.2.2.1, va_Nw.same rfl e h.2.2.2.2.2.1, va_Nw.same rfl e h.2.2.2.2.2.2.1, va_Nw.same rfl e h.2.2.2.2.2.2.2.1, va_Nw.same rfl e h.2.2.2.2.2.2.2.2⟩
def gCells (G : gG) (M : Nat → Nat → Int) (H : Heap) : Prop := ∀ k, gdm G k → va_at G.1 vwCl (gad G k, gE G (M k) k) H
/-- what stays as it is: the tables, the addresses, the statics -/
def gFix (G : gG) (s : State) (H : Heap) : Prop := va_K G.1 vwCl (gty G) s ∧ (∀ i j, gdm G i → gdm G j → gad G i = gad G j → i = j) ∧ (∀ k, gdm G k → gA G (gad G k)) ∧ G.2.2.2.2.1 ≤ H.size ∧ va_Z "DogTrials" "WORTH" "[I" (.ref G.2.2.2.2.2) (gA G) s H ∧ va_T .int G.2.2.2.2.2 6 (fun j => .int (iZ (q_wth j))) (gA G) s H ∧ gNst s
def gB (G : gG) (M : Nat → Nat → Int) (U : State) : Prop := gCells G M U.heap ∧ gFix G U U.heap
def gH (G : gG) (M : Nat → Nat → Int) (s : State) (H : Heap) (locs : List Loc) : Prop := gCells G M H ∧ gFix G s s.heap ∧ va_S (gA G) s.heap H locs
theorem gFix.moved {G : gG} {s U : State} {H : Heap} (hW : s.WarmedH U.vm) (h : gFix G s H) : gFix G U H := ⟨h.1.moved hW.alike, h.2.1, h.2.2.1, h.2.2.2.1, h.2.2.2.2.1.moved hW.alike, h.2.2.2.2.2.1.moved hW.alike, h.2.2.2.2.2.2.warm hW⟩
theorem gFix.kept {G : gG} {s : State} {H H1 : Heap} (h : gFix G s H) (hz : H.size ≤ H1.size) (hq : ∀ a : Nat, a < H.size → ¬ gA G a → H1[a]? = H[a]?) : gFix G s H1 := ⟨h.1, h.2.1, h.2.2.1, Nat.le_trans h.2.2.2.1 hz, h.2.2.2.2.1.kept hq, h.2.2.2.2.2.1.kept hq, h.2.2.2.2.2.2⟩
theorem gB.blind {G : gG} {M : Nat → Nat → Int} {U : State} {g : JFrame} {mk : MethodId} {a : Array Value} (h : gB G M U) : gB G M (U.calling g mk a) := ⟨h.1, va_K.moved (u := U) (U := U.calling g mk a) (Vm.Alike.refl U.vm) h.2.1, h.2.2.1, h.2.2.2.1, h.2.2.2.2.1, va_Z.moved (u := U) (U := U.calling g mk a) (Vm.Alike.refl U.vm) h.2.2.2.2.2.1, va_T.moved (u := U) (U := U.calling g mk a) (Vm.Alike.refl U.vm) h.2.2.2.2.2.2.1, gNst.same (U := U.calling g mk a) rfl h.2.2.2.2.2.2.2⟩
theorem gB.start {G : gG} {M : Nat → Nat → Int} {s : State} (h : gB G M s) : gH G M s s.heap [] := ⟨h.1, h.2, va_S.rf⟩
theorem gH.out {G : gG} {M : Nat → Nat → Int} {s : State} {H : Heap} {locs : List Loc} (h : gH G M s H locs) {U : State} (hU : U.heap = H) (hW : s.WarmedH U.vm) : gB G M U := by
  obtain ⟨h1, h2, h3⟩ := h
  refine ⟨by rw [hU]; exact h1, ?_⟩
  rw [hU]
  exact (h2.moved hW).kept h3.1 h3.2.1
theorem gCells.put {G : gG} {M : Nat → Nat → Int} {H H1 : Heap} {k j : Nat} {v : Int} (h : gCells G M H) (inj : ∀ i j, gdm G i → gdm G j → gad G i = gad G j → i = j) (hk : gdm G k) (he : va_at G.1 vwCl (gad G k, gE G (q_up (M k) j v) k) H1) (oq : ∀ q : Nat, q ≠ gad G k → H1[q]? = H[q]?) : gCells G (q_wr M k j v) H1 := by
  intro i hi
  by_cases hik : i = k
  · subst hik
    rw [wr_at]
    exact he
  · rw [wr_off _ _ _ hik]
    exact (h i hi).kept (oq _ (fun z => hik (inj _ _ hi hk z)))
theorem gH.put {G : gG} {M : Nat → Nat → Int} {s : State} {H H1 : Heap} {locs : List Loc} {k j n : Nat} {v : Int} (h : gH G M s H locs) (hk : gdm G k) (he : va_at G.1 vwCl (gad G k, gE G (q_up (M k) j v) k) H1) (z : H1.size = H.size) (oq : ∀ q : Nat, q ≠ gad G k → H1[q]? = H[q]?) : gH G (q_wr M k j v) s H1 (locs ++ [⟨gad G k, n⟩]) :=
  ⟨h.1.put h.2.1.2.1 hk he oq, h.2.1, h.2.2.put z oq (h.2.1.2.2.1 k hk)⟩
/-- a contract: an int back, the world M before, what post says of the answer and the world behind it -/
def gMi (l : Launch) (y : MethodName) (ws : List Cond) (rm : Room) (G : gG) (M : Nat → Nat → Int) (av : List Value) (post : Int → (Nat → Nat → Int) → Prop) : Prop :=
  Met l y ws rm (va_Pc av (gB G M)) (va_Qi (fun r (u : Int × (Nat → Nat → Int)) => r = iZ u.1 ∧ post u.1 u.2) (fun u U => gB G u.2 U) (gA G)) 0 0 (gA G)
def gMv (l : Launch) (y : MethodName) (ws : List Cond) (rm : Room) (G : gG) (M : Nat → Nat → Int) (av : List Value) (post : (Nat → Nat → Int) → Prop) : Prop :=
  Met l y ws rm (va_Pc av (gB G M)) (va_Qv (fun (u : Nat → Nat → Int) => post u) (fun u U => gB G u U) (gA G)) 0 0 (gA G)
theorem gMi.mono {l : Launch} {y : MethodName} {ws : List Cond} {rm : Room} {G : gG} {M : Nat → Nat → Int} {av : List Value} {post post' : Int → (Nat → Nat → Int) → Prop} (h : gMi l y ws rm G M av post) (hp : ∀ z u, post z u → post' z u) : gMi l y ws rm G M av post' := by
  intro p e ha hc hk s m args below hf happ hpre hK
  obtain ⟨k, o, h1, h2, h3, ⟨⟨r, u, q1, ⟨q2, q3⟩, q4⟩, q5⟩, q6⟩ := h p e ha hc hk s m args below hf happ hpre hK
  exact ⟨k, o, h1, h2, h3, ⟨⟨r, u, q1, ⟨q2, hp _ _ q3⟩, q4⟩, q5⟩, q6⟩
section GR
variable {p : Program} {l : Launch} {e : Env} {R : Room} {s : State} {m : MethodId} {args : Array Value} {below : List Frame} {meth : Method} {c : Code} {H : Heap} {locs : List Loc} {cells slots : Nat} {Q : State → Prop}
variable {cc : ByteArray} {pc : Nat} {ls : Array Slot} {rest : List Value} {G : gG} {M : Nat → Nat → Int}
theorem g_get (hx : p.tables.exec = Jvm.exec) (hb : c.code = cc) {own ref C : String} {T : u_T} {N ci index : Nat} {Ts : List Cond} (hts : ∀ w ∈ Ts, w.before args s = true) (hin : ∀ w ∈ u_ws C T N, w ∈ Ts) (hown : s.vm.findClass own = some m.cls) (hG : gH G M s H locs) {o : Nat} (ho : gdm G o) {fs : List Value} (he : gE G (M o) o = .inr (ci, fs)) (hc : vwCl[ci]? = some (C, T, N)) (k : Nat) (hk : k < N) (hlink : (Cond.fieldLink own index ref (T k).2.1 (T k).2.2.1).before args s = true) (hsame : ∀ x, s.fieldFound? (T k).1 (T k).2.1 (T k).2.2.1 = some x → s.fieldFound? ref (T k).2.1 (T k).2.2.1 = some x) {v : Value} (hv : fs[k]? = some v) (hdg : decode cc pc = .ok (.getfield index, 3))
    (kk : W p l e R s m args below meth c H locs cells slots Q (F0 m (pc + 3) ls (v :: rest))) : W p l e R s m args below meth c H locs cells slots Q (F0 m pc ls (.ref (gad G o) :: rest)) := by
  have hP : va_P G.1 vwCl [(gad G o, .inr (ci, fs))] H := by
    intro i q hi
    match i, hi with
    | 0, hi => cases hi; rw [← he]; exact hG.1 o ho
    | i + 1, hi => simp at hi
  exact va_get hx hb hts hin hown hG.2.1.1 hP 0 rfl hc k hk hlink hsame hv hdg kk
theorem g_geti (hx : p.tables.exec = Jvm.exec) (hb : c.code = cc) {own ref C : String} {T : u_T} {N ci index : Nat} {Ts : List Cond} (hts : ∀ w ∈ Ts, w.before args s = true) (hin : ∀ w ∈ u_ws C T N, w ∈ Ts) (hown : s.vm.findClass own = some m.cls) (hG : gH G M s H locs) {o : Nat} (ho : gdm G o) {fs : List Value} (he : gE G (M o) o = .inr (ci, fs)) (hc : vwCl[ci]? = some (C, T, N)) (k : Nat) (hk : k < N) (hlink : (Cond.fieldLink own index ref (T k).2.1 (T k).2.2.1).before args s = true) (hsame : ∀ x, s.fieldFound? (T k).1 (T k).2.1 (T k).2.2.1 = some x → s.fieldFound? ref (T k).2.1 (T k).2.2.1 = some x) (hv : fs[k]? = some (.int (iZ (M o k)))) {z : Int} (hz : M o k = z) (hdg : decode cc pc = .ok (.getfield index, 3))
    (kk : W p l e R s m args below meth c H locs cells slots Q (F0 m (pc + 3) ls (.int (iZ z) :: rest))) : W p l e R s m args below meth c H locs cells slots Q (F0 m pc ls (.ref (gad G o) :: rest)) := by
  subst hz
  exact g_get hx hb hts hin hown hG ho he hc k hk hlink hsame hv hdg kk
theorem g_iald (hx : p.tables.exec = Jvm.exec) (hb : c.code = cc) (hG : gH G M s H locs) {o : Nat} (ho : gdm G o) {n : Nat} (he : gE G (M o) o = gI G n (M o)) {i z : Int} {j : Nat} (hi : i = (j : Int)) (hj : j < n) (hn : n < 2147483648) (hz : M o j = z) (hdg : decode cc pc = .ok (.iaload, 1))
    (kk : W p l e R s m args below meth c H locs cells slots Q (F0 m (pc + 1) ls (.int (iZ z) :: rest))) : W p l e R s m args below meth c H locs cells slots Q (F0 m pc ls (.int (iZ i) :: .ref (gad G o) :: rest)) := by
  have hP : va_P G.1 vwCl [(gad G o, gI G n (M o))] H := by
    intro i q hi
    match i, hi with
    | 0, hi => cases hi; rw [← he]; exact hG.1 o ho
    | i + 1, hi => simp at hi
  refine va_iald hx hb hG.2.1.1 hP 0 0 rfl rfl (iZ_in hi hj hn) hdg ?_
  show W p l e R s m args below meth c H locs cells slots Q (F0 m (pc + 1) ls (.int (iZ (M o (iZ i).toNatClampNeg)) :: rest))
  rw [iZ_cl hi (by omega), hz]
  exact kk
theorem g_zald (hx : p.tables.exec = Jvm.exec) (hb : c.code = cc) (hG : gH G M s H locs) {o : Nat} (ho : gdm G o) {n : Nat} (he : gE G (M o) o = gZ G n (M o)) {i z : Int} {j : Nat} (hi : i = (j : Int)) (hj : j < n) (hn : n < 2147483648) (hz : M o j = z) (hdg : decode cc pc = .ok (.baload, 1))
    (kk : W p l e R s m args below meth c H locs cells slots Q (F0 m (pc + 1) ls (.int (iZ z) :: rest))) : W p l e R s m args below meth c H locs cells slots Q (F0 m pc ls (.int (iZ i) :: .ref (gad G o) :: rest)) := by
  have hP : va_P G.1 vwCl [(gad G o, gZ G n (M o))] H := by
    intro i q hi
    match i, hi with
    | 0, hi => cases hi; rw [← he]; exact hG.1 o ho
    | i + 1, hi => simp at hi
  refine va_zald hx hb hG.2.1.1 hP 0 1 rfl rfl (iZ_in hi hj hn) hdg ?_
  show W p l e R s m args below meth c H locs cells slots Q (F0 m (pc + 1) ls (.int (iZ (M o (iZ i).toNatClampNeg)) :: rest))
  rw [iZ_cl hi (by omega), hz]
  exact kk
theorem g_aald (hx : p.tables.exec = Jvm.exec) (hb : c.code = cc) (hG : gH G M s H locs) {o : Nat} (ho : gdm G o) {n : Nat} {g : Nat → Nat} (he : gE G (M o) o = gR G n g) {i : Int} {j t : Nat} (hi : i = (j : Int)) (hj : j < n) (hn : n < 2147483648) (ht : g j = t) (hdg : decode cc pc = .ok (.aaload, 1))
    (kk : W p l e R s m args below meth c H locs cells slots Q (F0 m (pc + 1) ls (.ref (gad G t) :: rest))) : W p l e R s m args below meth c H locs cells slots Q (F0 m pc ls (.int (iZ i) :: .ref (gad G o) :: rest)) := by
  have hP : va_P G.1 vwCl [(gad G o, gR G n g)] H := by
    intro i q hi
    match i, hi with
    | 0, hi => cases hi; rw [← he]; exact hG.1 o ho
    | i + 1, hi => simp at hi
  refine va_aldq hx hb hG.2.1.1 hP 0 2 rfl rfl (iZ_in hi hj hn) hdg ?_
  show W p l e R s m args below meth c H locs cells slots Q (F0 m (pc + 1) ls (.ref (gad G (g (iZ i).toNatClampNeg)) :: rest))
  rw [iZ_cl hi (by omega), ht]
  exact kk
theorem g_worth (hx : p.tables.exec = Jvm.exec) (hb : c.code = cc) {own : String} {index : Nat} (hG : gH G M s H locs) (hown : s.vm.findClass own = some m.cls) (hlink : va_Nw (.fieldLinkNest own index "DogTrials" "WORTH" "[I" "DogTrials") s) (hdg : decode cc pc = .ok (.getstatic index, 3))
    (kk : W p l e R s m args below meth c H locs cells slots Q (F0 m (pc + 3) ls (.ref G.2.2.2.2.2 :: rest))) : W p l e R s m args below meth c H locs cells slots Q (F0 m pc ls rest) :=
  va_getsN hx hb hG.2.1.2.2.2.2.1 hG.2.2 hown (va_Nw.use rfl hlink) (fun _ h => h) hdg kk
theorem g_wald (hx : p.tables.exec = Jvm.exec) (hb : c.code = cc) (hG : gH G M s H locs) {i : Int} {j : Nat} (hi : i = (j : Int)) (hj : j < 6) (hdg : decode cc pc = .ok (.iaload, 1))
    (kk : W p l e R s m args below meth c H locs cells slots Q (F0 m (pc + 1) ls (.int (iZ (q_wth j)) :: rest))) : W p l e R s m args below meth c H locs cells slots Q (F0 m pc ls (.int (iZ i) :: .ref G.2.2.2.2.2 :: rest)) :=
  va_ti hx hb hG.2.1.2.2.2.2.2.1 hG.2.2 (iZ_in hi hj (by omega)) (by rw [iZ_cl hi (by omega)]) hdg kk
theorem g_put (hx : p.tables.exec = Jvm.exec) (hb : c.code = cc) {own ref C : String} {T : u_T} {N ci index : Nat} {Ts : List Cond} (hts : ∀ w ∈ Ts, w.before args s = true) (hin : ∀ w ∈ u_ws C T N, w ∈ Ts) (ty0 : Nat → FieldType) (hty : ∀ k, k < N → parseFieldDescriptor (T k).2.2.1 = some (ty0 k)) (hnm : ∀ a, a < N → ∀ b, b < N → a ≠ b → (T a).2.1 ≠ (T b).2.1) (hown : s.vm.findClass own = some m.cls) (hG : gH G M s H locs) {o : Nat} (ho : gdm G o) {F : (Nat → Int) → List Value} (he : ∀ f, gE G f o = .inr (ci, F f)) (hc : vwCl[ci]? = some (C, T, N)) (k : Nat) (hk : k < N) (hlink : (Cond.fieldLink own index ref (T k).2.1 (T k).2.2.1).before args s = true) (hsame : ∀ x, s.fieldFound? (T k).1 (T k).2.1 (T k).2.2.1 = some x → s.fieldFound? ref (T k).2.1 (T k).2.2.1 = some x) (hfin : (T k).2.2.2 = false) (hd : parseFieldDescriptor (T k).2.2.1 = some .int) (hl : ∀ f, k < (F f).length) {v : Int} (hu : ∀ f, (F f).set k (.int (iZ v)) = F (q_up f k v))
    (hdg : decode cc pc = .ok (.putfield index, 3)) (kk : ∀ (H1 : Heap) (locs1 : List Loc), gH G (q_wr M o k v) s H1 locs1 → W p l e R s m args below meth c H1 locs1 cells slots Q (F0 m (pc + 3) ls rest)) : W p l e R s m args below meth c H locs cells slots Q (F0 m pc ls (.int (iZ v) :: .ref (gad G o) :: rest)) := by
  have hap := va_apart (own := own) hts hin ty0 hty hnm hG.2.1.1 hc
  have he0 := hG.1 o ho
  rw [he] at he0
  obtain ⟨r, h1, cell, q1, q2, q3, q4⟩ := he0
  have hr : r = (C, T, N) := Option.some.inj (h1.symm.trans hc)
  subst hr
  obtain ⟨hS, hfc, kC, hkC, hkind⟩ := hG.2.1.1.1 ci _ hc
  obtain ⟨cf, kf, fi, f, hi, hsl⟩ := hS k hk
  have hlay := hts _ (hin _ (u_in_lay hk))
  unfold u_lay at hlay
  rw [if_neg (by rw [hfin]; decide)] at hlay
  have hst := (u_facts hfc hkC (u_lays hts hin hk) hi).1
  have h6 := u_store hfc hkC hkind hlay hi hd (v := .int (iZ v)) rfl rfl
  refine W.putK hx hb (f := f) ⟨hown, hlink, ⟨_, _, _, hsame _ hi⟩, hst⟩ (by rw [q2]; exact h6) q1 q3 (by rw [hsl]; exact k2_hasslot (q4 k hk)) rfl rfl hdg fun H' e1 e2 e3 => ?_
  rw [hsl] at e1 ⊢
  refine kk H' _ (hG.put ho ?_ e2 e3)
  rw [he]
  exact ⟨_, hc, t_OB.to (V := updV (vp_V (F (M o))) k (.int (iZ v))) ⟨_, e1, q2, q3, t_set q4 hap hk _⟩ (fun j _ => by rw [← hu]; exact vp_updV_set (hl _) _ j)⟩
theorem g_iast (hx : p.tables.exec = Jvm.exec) (hb : c.code = cc) (hG : gH G M s H locs) {o : Nat} (ho : gdm G o) {n : Nat} (he : ∀ f, gE G f o = gI G n f) {i v : Int} {j : Nat} (hi : i = (j : Int)) (hj : j < n) (hn : n < 2147483648) (hdg : decode cc pc = .ok (.iastore, 1))
    (kk : ∀ (H1 : Heap) (locs1 : List Loc), gH G (q_wr M o j v) s H1 locs1 → W p l e R s m args below meth c H1 locs1 cells slots Q (F0 m (pc + 1) ls rest)) : W p l e R s m args below meth c H locs cells slots Q (F0 m pc ls (.int (iZ v) :: .int (iZ i) :: .ref (gad G o) :: rest)) := by
  have he0 := hG.1 o ho
  rw [he] at he0
  have hin := iZ_in hi hj hn
  refine W.iast hx hb he0 ((hG.2.1.1.2 0 _ rfl).1 n (fun j => .int (iZ (M o j)))) (fun q => by cases q) (by show ¬ (iZ i < 0 ∨ (arrV _ _ _).slots.size ≤ _); rw [arrV_size]; exact hin) rfl rfl hdg fun H1 e z oq => ?_
  refine kk H1 _ (hG.put ho ?_ z oq)
  rw [he]
  show H1[gad G o]? = some (vp_cell _ _)
  rw [e]
  rw [vp_cell_i, vp_cell_i, arrV_store, iZ_cl hi (by omega)]
  congr 2
  funext q
  by_cases hq : q = j
  · subst hq
    simp [updV, q_up]
  · simp [updV, q_up, hq]
theorem g_zast (hx : p.tables.exec = Jvm.exec) (hb : c.code = cc) (hG : gH G M s H locs) {o : Nat} (ho : gdm G o) {n : Nat} (he : ∀ f, gE G f o = gZ G n f) {i v : Int} {j : Nat} (hi : i = (j : Int)) (hj : j < n) (hn : n < 2147483648) (h01 : v = 0 ∨ v = 1) (hdg : decode cc pc = .ok (.bastore, 1))
    (kk : ∀ (H1 : Heap) (locs1 : List Loc), gH G (q_wr M o j v) s H1 locs1 → W p l e R s m args below meth c H1 locs1 cells slots Q (F0 m (pc + 1) ls rest)) : W p l e R s m args below meth c H locs cells slots Q (F0 m pc ls (.int (iZ v) :: .int (iZ i) :: .ref (gad G o) :: rest)) := by
  have he0 := hG.1 o ho
  rw [he] at he0
  have hin := iZ_in hi hj hn
  have hnar : narrow .boolean (.int (iZ v)) = .int (iZ v) := by rcases h01 with rfl | rfl <;> rfl
  refine W.zast hx hb he0 ((hG.2.1.1.2 1 _ rfl).1 n (fun j => .int (iZ (M o j)))) (fun q => by cases q) (by show ¬ (iZ i < 0 ∨ (arrV _ _ _).slots.size ≤ _); rw [arrV_size]; exact hin) rfl rfl hdg fun H1 e z oq => ?_
  refine kk H1 _ (hG.put ho ?_ z oq)
  rw [he]
  show H1[gad G o]? = some (vp_cell _ _)
  rw [e]
  rw [vp_cell_i, vp_cell_i, arrV_store, iZ_cl hi (by omega)]
  congr 2
  funext q
  by_cases hq : q = j
  · subst hq
    simp [updV, q_up, hnar]
  · simp [updV, q_up, hq]
end GR
theorem gCells.sw {G : gG} {M : Nat → Nat → Int} {H : Heap} (h : gCells G M H) : gCells (gSw G) (fun k => M (q_s k)) H := by
  intro k hk
  rw [gE_sw]
  exact h (q_s k) hk
theorem gFix.sw {G : gG} {s : State} {H : Heap} (h : gFix G s H) : gFix (gSw G) s H :=
  ⟨h.1, fun i j hi hj e => q_s_inj (h.2.1 _ _ hi hj e), fun k hk => h.2.2.1 _ hk, h.2.2.2.1, h.2.2.2.2.1, h.2.2.2.2.2.1, h.2.2.2.2.2.2⟩
theorem gB.sw {G : gG} {M : Nat → Nat → Int} {U : State} (h : gB G M U) : gB (gSw G) (fun k => M (q_s k)) U := ⟨h.1.sw, h.2.sw⟩
theorem gB.ws {G : gG} {M : Nat → Nat → Int} {U : State} (h : gB (gSw G) M U) : gB G (fun k => M (q_s k)) U := by
  have h1 := h.sw
  rw [gSw_gSw] at h1
  exact h1
