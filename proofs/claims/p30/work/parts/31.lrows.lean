/-! THE LAW'S METHODS: contracts over one object, its state told by a predicate on the numbers of its cells; so many thrown exceptions at most -/
abbrev gP : Type := (Nat → Nat → Int) → Prop
def kS (σ : gS) : gP := fun M => q_K M σ
def gKU (G : gG) (M0 : Nat → Nat → Int) (K : gP) (U : State) : Prop := ∃ M, gB G M U ∧ gXt G U ∧ K M ∧ q_bd M0 M
def gKH (G : gG) (M0 : Nat → Nat → Int) (K : gP) (s : State) (H : Heap) (locs : List Loc) : Prop := ∃ M, gH G M s H locs ∧ gXt G s ∧ K M ∧ q_bd M0 M
theorem gKU.blind {G : gG} {M0 : Nat → Nat → Int} {K : gP} {U : State} {g : JFrame} {mk : MethodId} {a : Array Value} (h : gKU G M0 K U) : gKU G M0 K (U.calling g mk a) := by
  obtain ⟨M, h1, h2, h3⟩ := h
  exact ⟨M, h1.blind, h2.blind, h3⟩
theorem gKU.start {G : gG} {M0 : Nat → Nat → Int} {K : gP} {s : State} (h : gKU G M0 K s) : gKH G M0 K s s.heap [] := by
  obtain ⟨M, h1, h2, h3⟩ := h
  exact ⟨M, h1.start, h2, h3⟩
theorem gKH.out {G : gG} {M0 : Nat → Nat → Int} {K : gP} {s : State} {H : Heap} {locs : List Loc} (h : gKH G M0 K s H locs) {U : State} (hU : U.heap = H) (hW : s.WarmedH U.vm) : gKU G M0 K U := by
  obtain ⟨M, h1, h2, h3⟩ := h
  exact ⟨M, h1.out hU hW, h2.out h1 hU hW, h3⟩
theorem gKH.vs {G : gG} {M0 : Nat → Nat → Int} {K : gP} {s : State} {H : Heap} {locs : List Loc} (h : gKH G M0 K s H locs) : va_S (gA G) s.heap H locs := by
  obtain ⟨M, h1, -⟩ := h
  exact h1.2.2
def gML (l : Launch) (y : MethodName) (ws : List Cond) (rm : Room) (mc : Nat) (G : gG) (M0 : Nat → Nat → Int) (K : gP) (av : List Value) (post : Int → gP → Prop) : Prop :=
  Met l y ws rm (va_Pc av (gKU G M0 K)) (va_Qi (fun r (u : Int × gP) => r = iZ u.1 ∧ post u.1 u.2) (fun u U => gKU G M0 u.2 U) (gA G)) mc (6 * mc) (gA G)
def gMLl (l : Launch) (y : MethodName) (ws : List Cond) (rm : Room) (mc : Nat) (G : gG) (M0 : Nat → Nat → Int) (K : gP) (av : List Value) (post : Int → gP → Prop) : Prop :=
  Met l y ws rm (va_Pc av (gKU G M0 K)) (va_Ql (fun r (u : Int × gP) => r = lZ u.1 ∧ post u.1 u.2) (fun u U => gKU G M0 u.2 U) (gA G)) mc (6 * mc) (gA G)
/-- a method's end -/
def gLQ (below : List Frame) (G : gG) (M0 : Nat → Nat → Int) (post : Int → gP → Prop) (av : List Value) (s : State) (mc : Nat) : State → Prop :=
  MQ below (va_Qi (fun r (u : Int × gP) => r = iZ u.1 ∧ post u.1 u.2) (fun u U => gKU G M0 u.2 U) (gA G)) av.toArray s mc (6 * mc) (gA G)
def gLQl (below : List Frame) (G : gG) (M0 : Nat → Nat → Int) (post : Int → gP → Prop) (av : List Value) (s : State) (mc : Nat) : State → Prop :=
  MQ below (va_Ql (fun r (u : Int × gP) => r = lZ u.1 ∧ post u.1 u.2) (fun u U => gKU G M0 u.2 U) (gA G)) av.toArray s mc (6 * mc) (gA G)
theorem gML_of {l : Launch} {y : MethodName} {ws ws' : List Cond} {rm : Room} {mc : Nat} {G : gG} {M0 : Nat → Nat → Int} {K : gP} {av : List Value} {post : Int → gP → Prop} {cc : ByteArray} {maxL : Nat} {ret : Option FieldType} (hy : plainName y.cls = true) (hw : ws = Cond.code y cc maxL ret :: ws') (hL : (lg_sl av).length ≤ maxL)
    (body : ∀ (p : Program) (e : Env) (s : State) (m : MethodId) (below : List Frame) (meth : Method) (c : Code) (ls : Array Slot), p.tables.exec = Jvm.exec → c.code = cc → meth.sig.returnType = ret → c.maxLocals = maxL → s.vm.findClass y.cls = some m.cls → (∀ w ∈ ws, w.before av.toArray s = true) → meth.locks = false → lv_has ls maxL (lv_args 0 av) → gKH G M0 K s s.heap [] →
      W p l e rm s m av.toArray below meth c s.heap [] 0 0 (gLQ below G M0 post av s mc) (F0 m 0 ls [])) : gML l y ws rm mc G M0 K av post := by
  refine Met.ofW (cc := cc) (maxL := maxL) (ret := ret) hy hw ?_
  intro p e s m args below meth c s₁ B hml hv
  obtain ⟨rfl, hB⟩ := hv
  rw [lg_entry_eq]
  exact body p e s m below meth c _ B.exec B.bytes B.returns hml (findClass_of_methodNamed B.named) (atoms_spec (ws := ws) B.pre) B.notSynchronized (lv_entry av hL) hB.start
theorem gMLl_of {l : Launch} {y : MethodName} {ws ws' : List Cond} {rm : Room} {mc : Nat} {G : gG} {M0 : Nat → Nat → Int} {K : gP} {av : List Value} {post : Int → gP → Prop} {cc : ByteArray} {maxL : Nat} {ret : Option FieldType} (hy : plainName y.cls = true) (hw : ws = Cond.code y cc maxL ret :: ws') (hL : (lg_sl av).length ≤ maxL)
    (body : ∀ (p : Program) (e : Env) (s : State) (m : MethodId) (below : List Frame) (meth : Method) (c : Code) (ls : Array Slot), p.tables.exec = Jvm.exec → c.code = cc → meth.sig.returnType = ret → c.maxLocals = maxL → s.vm.findClass y.cls = some m.cls → (∀ w ∈ ws, w.before av.toArray s = true) → meth.locks = false → lv_has ls maxL (lv_args 0 av) → gKH G M0 K s s.heap [] →
      W p l e rm s m av.toArray below meth c s.heap [] 0 0 (gLQl below G M0 post av s mc) (F0 m 0 ls [])) : gMLl l y ws rm mc G M0 K av post := by
  refine Met.ofW (cc := cc) (maxL := maxL) (ret := ret) hy hw ?_
  intro p e s m args below meth c s₁ B hml hv
  obtain ⟨rfl, hB⟩ := hv
  rw [lg_entry_eq]
  exact body p e s m below meth c _ B.exec B.bytes B.returns hml (findClass_of_methodNamed B.named) (atoms_spec (ws := ws) B.pre) B.notSynchronized (lv_entry av hL) hB.start
theorem gML_ofW {l : Launch} {y : MethodName} {ws ws' : List Cond} {rm : Room} {mc : Nat} {G : gG} {M0 : Nat → Nat → Int} {K : gP} {av : List Value} {post : Int → gP → Prop} {cc : ByteArray} {maxL : Nat} {ret : Option FieldType} {hh : List (Nat × Nat × Nat × Nat)} (hy : plainName y.cls = true) (hw : ws = Cond.codeWith y cc maxL ret hh :: ws') (hL : (lg_sl av).length ≤ maxL)
    (body : ∀ (p : Program) (e : Env) (s : State) (m : MethodId) (below : List Frame) (meth : Method) (c : Code) (ls : Array Slot), p.tables.exec = Jvm.exec → c.code = cc → meth.sig.returnType = ret → c.maxLocals = maxL → s.vm.findClass y.cls = some m.cls → (∀ w ∈ ws, w.before av.toArray s = true) → meth.locks = false → c.exceptionTable.toList = tableOf hh → lv_has ls maxL (lv_args 0 av) → gKH G M0 K s s.heap [] →
      W p l e rm s m av.toArray below meth c s.heap [] 0 0 (gLQ below G M0 post av s mc) (F0 m 0 ls [])) : gML l y ws rm mc G M0 K av post := by
  unfold gML Met
  refine MetFree.of_bodyS (code := cc) (maxLocals := maxL) (ret := ret) hy ?_ ?_
  · intro args s m h hn
    obtain ⟨m9, meth, c, hn9, h1, h2, h3, h4, -, h5, h6, -⟩ := Cond.codeWith_spec (atoms_spec (ws := ws) h _ (by rw [hw]; exact List.mem_cons_self))
    cases hn.symm.trans hn9
    exact ⟨meth, c, h1, h2, h3, h4, h5, h6⟩
  · intro p e s m args below meth c s₁ B hml hP _
    obtain ⟨rfl, hB⟩ := hP
    have hh0 : s₁.heap = s.heap := by rw [B.state]; rfl
    have htb := vx_table (x := y) B (atoms_spec (ws := ws) B.pre _ (by rw [hw]; exact List.mem_cons_self))
    have K := body p e s m below meth c _ B.exec B.bytes B.returns hml (findClass_of_methodNamed B.named) (atoms_spec (ws := ws) B.pre) B.notSynchronized htb (lv_entry av hL) hB.start
    rw [← lg_entry_eq] at K
    obtain ⟨t, a1, o, b1, b2, b3⟩ := K s₁ hh0 (Stand.of_body B)
    exact ⟨t, o, a1, b1, b2, b3⟩
theorem gML.mono {l : Launch} {y : MethodName} {ws : List Cond} {rm : Room} {mc : Nat} {G : gG} {M0 : Nat → Nat → Int} {K : gP} {av : List Value} {post post' : Int → gP → Prop} (h : gML l y ws rm mc G M0 K av post) (hp : ∀ z u, post z u → post' z u) : gML l y ws rm mc G M0 K av post' := by
  intro p e ha hc hk s m args below hf happ hpre hK
  obtain ⟨k, o, h1, h2, h3, ⟨⟨r, u, q1, ⟨q2, q3⟩, q4⟩, q5⟩, q6⟩ := h p e ha hc hk s m args below hf happ hpre hK
  exact ⟨k, o, h1, h2, h3, ⟨⟨r, u, q1, ⟨q2, hp _ _ q3⟩, q4⟩, q5⟩, q6⟩
section GL
variable {p : Program} {l : Launch} {e : Env} {R : Room} {s : State} {m : MethodId} {args : Array Value} {below : List Frame} {meth : Method} {c : Code} {H : Heap} {locs : List Loc} {cells slots : Nat} {Q : State → Prop}
variable {cc : ByteArray} {pc : Nat} {ls : Array Slot} {rest st0 As av : List Value} {G : gG} {M0 M : Nat → Nat → Int} {K : gP}
variable {y : MethodName} {bytes : ByteArray} {maxL nL n index mc : Nat} {ret : Option FieldType} {ws ws' Ts : List Cond} {rm : Room} {own C host : String} {b : Nat} {hh : List (Nat × Nat × Nat × Nat)} {post : Int → gP → Prop}
theorem g_callL (S : CallFix p m c cc nL s args Ts own) (hM : gML l y ws rm mc G M0 K As post) (cw : CallB R s args own index y bytes maxL ret ws rm mc (6 * mc) n ∧ (Cond.static y).before args s = true) (hG : gKH G M0 K s H locs) (hn : As.length = n) (hsize : ls.size = nL) (hstack : st0 = As.reverse ++ rest) (hroom : (rest.map fun v => v.category).sum ≤ 8) (hdg : decode cc pc = .ok (.invokestatic index, 3)) (hf : cells + mc ≤ R.cells ∧ slots + 6 * mc ≤ R.slots)
    (kk : ∀ (z : Int) (K1 : gP) (H1 : Heap) (locs1 : List Loc), post z K1 → gKH G M0 K1 s H1 locs1 → W p l e R s m args below meth c H1 locs1 (cells + mc) (slots + 6 * mc) Q (F0 m (pc + 3) ls (.int (iZ z) :: rest))) : W p l e R s m args below meth c H locs cells slots Q (F0 m pc ls st0) := by
  obtain ⟨M, h1, h2, h3, h4⟩ := hG
  refine va_calli (A1 := gA G) (A0 := gA G) (va_runS (As := As) (rest := rest) S hM cw ⟨fun a U g mk q => ⟨q.1, q.2.blind⟩, fun U hU hW => ⟨rfl, M, h1.out hU hW, h2.out h1 hU hW, h3, h4⟩⟩ rfl hn hsize hstack (lv_room hroom) hdg hf) h1.2.2 (fun _ _ h => h) (fun _ h => h) (fun r u t H1 locs1 ht hvm hw hB hz hk hS => ?_)
  obtain ⟨rfl, hp⟩ := hw
  obtain ⟨M1, b1, b2, b3, b4⟩ := hB
  exact kk u.1 u.2 H1 locs1 hp ⟨M1, ⟨by rw [← ht]; exact b1.1, h1.2.1, hS⟩, h2, b3, b4⟩
theorem g_callLl (S : CallFix p m c cc nL s args Ts own) (hM : gMLl l y ws rm mc G M0 K As post) (cw : CallB R s args own index y bytes maxL ret ws rm mc (6 * mc) n ∧ (Cond.static y).before args s = true) (hG : gKH G M0 K s H locs) (hn : As.length = n) (hsize : ls.size = nL) (hstack : st0 = As.reverse ++ rest) (hroom : (rest.map fun v => v.category).sum ≤ 8) (hdg : decode cc pc = .ok (.invokestatic index, 3)) (hf : cells + mc ≤ R.cells ∧ slots + 6 * mc ≤ R.slots)
    (kk : ∀ (z : Int) (K1 : gP) (H1 : Heap) (locs1 : List Loc), post z K1 → gKH G M0 K1 s H1 locs1 → W p l e R s m args below meth c H1 locs1 (cells + mc) (slots + 6 * mc) Q (F0 m (pc + 3) ls (.long (lZ z) :: rest))) : W p l e R s m args below meth c H locs cells slots Q (F0 m pc ls st0) := by
  obtain ⟨M, h1, h2, h3, h4⟩ := hG
  refine va_calll (A1 := gA G) (A0 := gA G) (va_runS (As := As) (rest := rest) S hM cw ⟨fun a U g mk q => ⟨q.1, q.2.blind⟩, fun U hU hW => ⟨rfl, M, h1.out hU hW, h2.out h1 hU hW, h3, h4⟩⟩ rfl hn hsize hstack (lv_room hroom) hdg hf) h1.2.2 (fun _ _ h => h) (fun _ h => h) (fun r u t H1 locs1 ht hvm hw hB hz hk hS => ?_)
  obtain ⟨rfl, hp⟩ := hw
  obtain ⟨M1, b1, b2, b3, b4⟩ := hB
  exact kk u.1 u.2 H1 locs1 hp ⟨M1, ⟨by rw [← ht]; exact b1.1, h1.2.1, hS⟩, h2, b3, b4⟩
theorem g_callLW (S : CallFix p m c cc nL s args Ts own) (hM : gML l y ws rm mc G M0 K As post) (cw : vx_CSW R s args own index y bytes maxL ret hh ws rm mc (6 * mc) n) (hG : gKH G M0 K s H locs) (hn : As.length = n) (hsize : ls.size = nL) (hstack : st0 = As.reverse ++ rest) (hroom : (rest.map fun v => v.category).sum ≤ 8) (hdg : decode cc pc = .ok (.invokestatic index, 3)) (hf : cells + mc ≤ R.cells ∧ slots + 6 * mc ≤ R.slots)
    (kk : ∀ (z : Int) (K1 : gP) (H1 : Heap) (locs1 : List Loc), post z K1 → gKH G M0 K1 s H1 locs1 → W p l e R s m args below meth c H1 locs1 (cells + mc) (slots + 6 * mc) Q (F0 m (pc + 3) ls (.int (iZ z) :: rest))) : W p l e R s m args below meth c H locs cells slots Q (F0 m pc ls st0) := by
  obtain ⟨M, h1, h2, h3, h4⟩ := hG
  refine va_calli (A1 := gA G) (A0 := gA G) (vx_runSW (As := As) (rest := rest) S hM cw ⟨fun a U g mk q => ⟨q.1, q.2.blind⟩, fun U hU hW => ⟨rfl, M, h1.out hU hW, h2.out h1 hU hW, h3, h4⟩⟩ rfl hn hsize hstack (lv_room hroom) hdg hf) h1.2.2 (fun _ _ h => h) (fun _ h => h) (fun r u t H1 locs1 ht hvm hw hB hz hk hS => ?_)
  obtain ⟨rfl, hp⟩ := hw
  obtain ⟨M1, b1, b2, b3, b4⟩ := hB
  exact kk u.1 u.2 H1 locs1 hp ⟨M1, ⟨by rw [← ht]; exact b1.1, h1.2.1, hS⟩, h2, b3, b4⟩
theorem g_iretL (hx : p.tables.exec = Jvm.exec) (hb : c.code = cc) (hr : meth.sig.returnType = some .int) (hG : gKH G M0 K s H locs) (hlocks : meth.locks = false) {z : Int} (hp : post z K) (hc : cells ≤ mc ∧ slots ≤ 6 * mc) (hdg : decode cc pc = .ok (.ireturn, 1)) : W p l e R s m av.toArray below meth c H locs cells slots (gLQ below G M0 post av s mc) (F0 m pc ls [.int (iZ z)]) := by
  have hv := hG.vs
  exact W.widen hc.1 hc.2 (W.iret hx hb hr (fun t ht hW => ⟨⟨iZ z, (z, K), rfl, ⟨rfl, hp⟩, hG.out ht hW⟩, hv.F ht⟩) hv.2.2 hdg hlocks)
theorem g_zretL (hx : p.tables.exec = Jvm.exec) (hb : c.code = cc) (hr : meth.sig.returnType = some .boolean) (hG : gKH G M0 K s H locs) (hlocks : meth.locks = false) {z : Int} (h01 : z = 0 ∨ z = 1) (hp : post z K) (hc : cells ≤ mc ∧ slots ≤ 6 * mc) (hdg : decode cc pc = .ok (.ireturn, 1)) : W p l e R s m av.toArray below meth c H locs cells slots (gLQ below G M0 post av s mc) (F0 m pc ls [.int (iZ z)]) := by
  have hv := hG.vs
  exact W.widen hc.1 hc.2 (W.zret hx hb hr (by rcases h01 with rfl | rfl <;> rfl) (fun t ht hW => ⟨⟨iZ z, (z, K), rfl, ⟨rfl, hp⟩, hG.out ht hW⟩, hv.F ht⟩) hv.2.2 hdg hlocks)
theorem g_lretL (hx : p.tables.exec = Jvm.exec) (hb : c.code = cc) (hr : meth.sig.returnType = some .long) (hG : gKH G M0 K s H locs) (hlocks : meth.locks = false) {z : Int} (hp : post z K) (hc : cells ≤ mc ∧ slots ≤ 6 * mc) (hdg : decode cc pc = .ok (.lreturn, 1)) : W p l e R s m av.toArray below meth c H locs cells slots (gLQl below G M0 post av s mc) (F0 m pc ls [.long (lZ z)]) := by
  have hv := hG.vs
  exact W.widen hc.1 hc.2 (W.lret hx hb hr (fun t ht hW => ⟨⟨lZ z, (z, K), rfl, ⟨rfl, hp⟩, hG.out ht hW⟩, hv.F ht⟩) hv.2.2 hdg hlocks)
/-- a call of a method of the class that throws nothing -/
theorem g_callK {postM : Int → (Nat → Nat → Int) → Prop} (S : CallFix p m c cc nL s args Ts own) (hm : gdm G b) {ci : Nat} {fs : (Nat → Int) → List Value} {q : vw_C} (he : ∀ f, gE G f b = .inr (ci, fs f)) (hc : vwCl[ci]? = some q) (hC : q.1 = C) (hM : ∀ M, K M → gMi l y ws rm G M (.ref (gad G b) :: As) postM) (cw : CallW R s args own C index y bytes maxL ret ws rm 0 0 n) (hG : gKH G M0 K s H locs) (hn : As.length = n) (hsize : ls.size = nL) (hstack : st0 = As.reverse ++ .ref (gad G b) :: rest) (hroom : (rest.map fun v => v.category).sum ≤ 8) (hdg : decode cc pc = .ok (.invokevirtual index, 3)) (hf : cells + 0 ≤ R.cells ∧ slots + 0 ≤ R.slots)
    (hk : ∀ M z M1, K M → postM z M1 → q_bd M0 M → K M1 ∧ q_bd M0 M1)
    (kk : ∀ (z : Int) (H1 : Heap) (locs1 : List Loc), (∃ M M1, K M ∧ postM z M1) → gKH G M0 K s H1 locs1 → W p l e R s m args below meth c H1 locs1 cells slots Q (F0 m (pc + 3) ls (.int (iZ z) :: rest))) : W p l e R s m args below meth c H locs cells slots Q (F0 m pc ls st0) := by
  obtain ⟨M, h1, h2, h3, h4⟩ := hG
  have hr : ∃ cell : Cell, H[gad G b]? = some cell ∧ cell.vm.isStatics = false ∧ s.vm.findClass C = some cell.cls := by rw [← hC]; exact g_recv h1 hm (he _) hc
  refine g_callV S (hM M h3) cw h1 hr hn hsize hstack hroom hdg hf (fun z M1 H1 locs1 hp hG1 => ?_)
  exact kk z H1 locs1 ⟨M, M1, h3, hp⟩ ⟨M1, hG1, h2, hk M z M1 h3 hp h4⟩
/-- the same answer twice -/
theorem z_lcmp_same (hx : p.tables.exec = Jvm.exec) (hb : c.code = cc) {x : Int64} (hdg : decode cc pc = .ok (.lcmp, 1)) (k : W p l e R s m args below meth c H locs cells slots Q (F0 m (pc + 1) ls (.int (iZ 0) :: rest))) : W p l e R s m args below meth c H locs cells slots Q (F0 m pc ls (.long x :: .long x :: rest)) := by
  refine W.lcmp hx hb hdg ?_
  have e : lg_cmp x x = iZ 0 := by
    unfold lg_cmp
    simp [iZ_0]
  rw [e]
  exact k
theorem z_iand_b (hx : p.tables.exec = Jvm.exec) (hb : c.code = cc) {a : Int} (ha : a = 0 ∨ a = 1) (hdg : decode cc pc = .ok (.iand, 1)) (k : W p l e R s m args below meth c H locs cells slots Q (F0 m (pc + 1) ls (.int (iZ a) :: rest))) : W p l e R s m args below meth c H locs cells slots Q (F0 m pc ls (.int (iZ 1) :: .int (iZ a) :: rest)) := by
  refine lv_iand hx hb hdg ?_
  have e : iZ a &&& iZ 1 = iZ a := by rcases ha with rfl | rfl <;> decide
  rw [e]
  exact k
end GL
