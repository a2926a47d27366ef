/-! THE LAW'S WRAPPERS: a call of a method that may throw, caught -/
theorem lZ_iw (a : Int) : (iZ a).toInt64 = lZ (iZ a).toInt := by
  have h := iZ_of (iZ a)
  have h1 := Int32.le_toInt (iZ a)
  have h2 := Int32.toInt_lt (iZ a)
  rw [← lZ_i (a := (iZ a).toInt) (by omega), h]
def gMw (l : Launch) (y : MethodName) (ws : List Cond) (rm : Room) (G : gG) (M : Nat → Nat → Int) (av : List Value) (post : Int → (Nat → Nat → Int) → Prop) : Prop :=
  Met l y ws rm (va_Pc av (fun U => gB G M U ∧ gXt G U)) (va_Qi (fun r (u : Int × (Nat → Nat → Int)) => r = iZ u.1 ∧ post u.1 u.2) (fun u U => gB G u.2 U) (gA G)) 1 6 (gA G)
theorem gMw_of {l : Launch} {y : MethodName} {ws ws' : List Cond} {rm : Room} {G : gG} {M : Nat → Nat → Int} {av : List Value} {post : Int → (Nat → Nat → Int) → Prop} {cc : ByteArray} {maxL : Nat} {ret : Option FieldType} {hh : List (Nat × Nat × Nat × Nat)} (hy : plainName y.cls = true) (hw : ws = Cond.codeWith y cc maxL ret hh :: ws') (hL : (lg_sl av).length ≤ maxL)
    (body : ∀ (p : Program) (e : Env) (s : State) (m : MethodId) (below : List Frame) (meth : Method) (c : Code) (ls : Array Slot), p.tables.exec = Jvm.exec → c.code = cc → meth.sig.returnType = ret → c.maxLocals = maxL → s.vm.findClass y.cls = some m.cls → (∀ w ∈ ws, w.before av.toArray s = true) → meth.locks = false → c.exceptionTable.toList = tableOf hh → lv_has ls maxL (lv_args 0 av) → gXt G s → gH G M s s.heap [] →
      W p l e rm s m av.toArray below meth c s.heap [] 0 0 (MQ below (va_Qi (fun r (u : Int × (Nat → Nat → Int)) => r = iZ u.1 ∧ post u.1 u.2) (fun u U => gB G u.2 U) (gA G)) av.toArray s 1 6 (gA G)) (F0 m 0 ls [])) : gMw l y ws rm G M av post := by
  unfold gMw Met
  refine MetFree.of_bodyS (code := cc) (maxLocals := maxL) (ret := ret) hy ?_ ?_
  · intro args s m h hn
    obtain ⟨m9, meth, c, hn9, h1, h2, h3, h4, -, h5, h6, -⟩ := Cond.codeWith_spec (atoms_spec (ws := ws) h _ (by rw [hw]; exact List.mem_cons_self))
    cases hn.symm.trans hn9
    exact ⟨meth, c, h1, h2, h3, h4, h5, h6⟩
  · intro p e s m args below meth c s₁ B hml hP _
    obtain ⟨rfl, hB, hX⟩ := hP
    have hh0 : s₁.heap = s.heap := by rw [B.state]; rfl
    have htb := vx_table (x := y) B (atoms_spec (ws := ws) B.pre _ (by rw [hw]; exact List.mem_cons_self))
    have K := body p e s m below meth c _ B.exec B.bytes B.returns hml (findClass_of_methodNamed B.named) (atoms_spec (ws := ws) B.pre) B.notSynchronized htb (lv_entry av hL) hX hB.start
    rw [← lg_entry_eq] at K
    obtain ⟨t, a1, o, b1, b2, b3⟩ := K s₁ hh0 (Stand.of_body B)
    exact ⟨t, o, a1, b1, b2, b3⟩
section GW
variable {p : Program} {l : Launch} {e : Env} {R : Room} {s : State} {m : MethodId} {args : Array Value} {below : List Frame} {meth : Method} {c : Code} {H : Heap} {locs : List Loc} {cells slots : Nat} {Q : State → Prop}
variable {cc : ByteArray} {pc : Nat} {ls : Array Slot} {rest st0 As : List Value} {G : gG} {M : Nat → Nat → Int}
variable {y : MethodName} {bytes : ByteArray} {maxL nL n index : Nat} {ret : Option FieldType} {ws ws' Ts : List Cond} {rm : Room} {own C host : String} {b : Nat}
theorem z_i2lw (hx : p.tables.exec = Jvm.exec) (hb : c.code = cc) {a : Int} (hdg : decode cc pc = .ok (.i2l, 1)) (k : W p l e R s m args below meth c H locs cells slots Q (F0 m (pc + 1) ls (.long (lZ (iZ a).toInt) :: rest))) : W p l e R s m args below meth c H locs cells slots Q (F0 m pc ls (.int (iZ a) :: rest)) := lv_i2l hx hb hdg (lZ_iw a) k
theorem g_iretW (hx : p.tables.exec = Jvm.exec) (hb : c.code = cc) (hr : meth.sig.returnType = some .int) {post : Int → (Nat → Nat → Int) → Prop} (hG : gH G M s H locs) (hlocks : meth.locks = false) {z : Int} (hp : post z M) (hdg : decode cc pc = .ok (.ireturn, 1)) : W p l e R s m args below meth c H locs cells slots (MQ below (va_Qi (fun r (u : Int × (Nat → Nat → Int)) => r = iZ u.1 ∧ post u.1 u.2) (fun u U => gB G u.2 U) (gA G)) args s cells slots (gA G)) (F0 m pc ls [.int (iZ z)]) :=
  W.iret hx hb hr (fun t ht hW => ⟨⟨iZ z, (z, M), rfl, ⟨rfl, hp⟩, hG.out ht hW⟩, hG.2.2.F ht⟩) hG.2.2.2.2 hdg hlocks
theorem g_last (hx : p.tables.exec = Jvm.exec) (hb : c.code = cc) (hG : gH G M s H locs) {o : Nat} (ho : gdm G o) {n : Nat} (he : ∀ f, gE G f o = gL G n f) {i v : Int} {j : Nat} (hi : i = (j : Int)) (hj : j < n) (hn : n < 2147483648) (hdg : decode cc pc = .ok (.lastore, 1))
    (kk : ∀ (H1 : Heap) (locs1 : List Loc), gH G (q_wr M o j v) s H1 locs1 → W p l e R s m args below meth c H1 locs1 cells slots Q (F0 m (pc + 1) ls rest)) : W p l e R s m args below meth c H locs cells slots Q (F0 m pc ls (.long (lZ v) :: .int (iZ i) :: .ref (gad G o) :: rest)) := by
  have he0 := hG.1 o ho
  rw [he] at he0
  have hin := iZ_in hi hj hn
  refine W.last hx hb he0 ((hG.2.1.1.2 3 _ rfl).1 n (fun j => .long (lZ (M o j)))) (fun q => by cases q) (by show ¬ (iZ i < 0 ∨ (arrV _ _ _).slots.size ≤ _); rw [arrV_size]; exact hin) rfl rfl hdg fun H1 e z oq => ?_
  refine kk H1 _ (hG.put ho ?_ z oq)
  rw [he]
  show H1[gad G o]? = some (vp_cell _ _)
  rw [e]
  rw [vp_cell_l, vp_cell_l, arrV_store, iZ_cl hi (by omega)]
  congr 2
  funext q
  by_cases hq : q = j
  · subst hq
    simp [updV, q_up]
  · simp [updV, q_up, hq]
theorem g_lald (hx : p.tables.exec = Jvm.exec) (hb : c.code = cc) (hG : gH G M s H locs) {o : Nat} (ho : gdm G o) {n : Nat} (he : gE G (M o) o = gL G n (M o)) {i z : Int} {j : Nat} (hi : i = (j : Int)) (hj : j < n) (hn : n < 2147483648) (hz : M o j = z) (hdg : decode cc pc = .ok (.laload, 1))
    (kk : W p l e R s m args below meth c H locs cells slots Q (F0 m (pc + 1) ls (.long (lZ z) :: rest))) : W p l e R s m args below meth c H locs cells slots Q (F0 m pc ls (.int (iZ i) :: .ref (gad G o) :: rest)) := by
  have hP : va_P G.1 vwCl [(gad G o, gL G n (M o))] H := by
    intro i q hi
    match i, hi with
    | 0, hi => cases hi; rw [← he]; exact hG.1 o ho
    | i + 1, hi => simp at hi
  refine va_lald hx hb hG.2.1.1 hP 0 3 rfl rfl (iZ_in hi hj hn) hdg ?_
  show W p l e R s m args below meth c H locs cells slots Q (F0 m (pc + 1) ls (.long (lZ (M o (iZ i).toNatClampNeg)) :: rest))
  rw [iZ_cl hi (by omega), hz]
  exact kk
theorem g_callX {post : Int → (Nat → Nat → Int) → Prop} {px : String → (Nat → Nat → Int) → Prop} (S : CallFix p m c cc nL s args Ts own) (hM : gMx l y ws rm G M (.ref (gad G b) :: As) post px) (cw : CallW R s args own C index y bytes maxL ret ws rm 1 6 n) (hX : gXt G s) (hG : gH G M s H locs) (hr : ∃ cell : Cell, H[gad G b]? = some cell ∧ cell.vm.isStatics = false ∧ s.vm.findClass C = some cell.cls) (hn : As.length = n) (hsize : ls.size = nL) (hstack : st0 = As.reverse ++ .ref (gad G b) :: rest) (hroom : (rest.map fun v => v.category).sum ≤ 8) (hdg : decode cc pc = .ok (.invokevirtual index, 3)) (hf : cells + 1 ≤ R.cells ∧ slots + 6 ≤ R.slots)
    (kx : ∀ (E : String) (M1 : Nat → Nat → Int) (H1 : Heap) (locs1 : List Loc) (ce : Cell) (q9 : Addr), px E M1 → gH G M1 s H1 locs1 → H1[q9]? = some ce → ce.vm = .none → s.vm.findClass E = some ce.cls → vx_W p l e R s m args below meth c H1 locs1 (cells + 1) (slots + 6) Q (F0 m pc ls rest) q9)
    (kk : ∀ (z : Int) (M1 : Nat → Nat → Int) (H1 : Heap) (locs1 : List Loc), post z M1 → gH G M1 s H1 locs1 → W p l e R s m args below meth c H1 locs1 (cells + 1) (slots + 6) Q (F0 m (pc + 3) ls (.int (iZ z) :: rest))) : W p l e R s m args below meth c H locs cells slots Q (F0 m pc ls st0) := by
  refine vx_calli (A1 := gA G) (A0 := gA G) (AX := gA G) (vx_runV (As := As) (rest := rest) S hM cw ⟨fun a U g mk q => ⟨q.1, q.2.1.blind, q.2.2.blind⟩, hr, fun U hU hW => ⟨rfl, hG.out hU hW, hX.out hG hU hW⟩⟩ rfl hn hsize hstack (lv_room hroom) hdg hf) hG.2.2 (fun _ _ h => h) (fun _ h => h) (fun _ _ h => h) (fun E ce q9 u t H1 locs1 ht hvm hp hB hz hk hS hce hcv hcl => ?_) (fun r u t H1 locs1 ht hvm hw hB hz hk hS => ?_)
  · obtain ⟨rfl, hC⟩ := hB
    exact kx u.1 u.2 H1 locs1 ce q9 hp ⟨by rw [← ht]; exact hC, hG.2.1, hS⟩ hce hcv hcl
  · obtain ⟨rfl, hp⟩ := hw
    exact kk u.1 u.2 H1 locs1 hp ⟨by rw [← ht]; exact hB.1, hG.2.1, hS⟩
end GW
