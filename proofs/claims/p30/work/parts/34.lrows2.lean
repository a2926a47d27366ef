/-! THE LAW'S ROWS: calls with the room rounded up, masks of twelve bits, answers told twice -/
section GL2
variable {p : Program} {l : Launch} {e : Env} {R : Room} {s : State} {m : MethodId} {args : Array Value} {below : List Frame} {meth : Method} {c : Code} {H : Heap} {locs : List Loc} {cells slots : Nat} {Q : State → Prop}
variable {cc : ByteArray} {pc : Nat} {ls : Array Slot} {rest st0 As av : List Value} {G : gG} {M0 M : Nat → Nat → Int} {K : gP}
variable {y : MethodName} {bytes : ByteArray} {maxL nL n index mc : Nat} {ret : Option FieldType} {ws ws' Ts : List Cond} {rm : Room} {own C host : String} {b : Nat} {hh : List (Nat × Nat × Nat × Nat)} {post : Int → gP → Prop}
theorem g_cL (C1 : Nat) (S : CallFix p m c cc nL s args Ts own) (hM : gML l y ws rm mc G M0 K As post) (cw : CallB R s args own index y bytes maxL ret ws rm mc (6 * mc) n ∧ (Cond.static y).before args s = true) (hG : gKH G M0 K s H locs) (hn : As.length = n) (hsize : ls.size = nL) (hstack : st0 = As.reverse ++ rest) (hroom : (rest.map fun v => v.category).sum ≤ 8) (hdg : decode cc pc = .ok (.invokestatic index, 3)) (hC : cells + mc ≤ C1 ∧ slots + 6 * mc ≤ 6 * C1) (hR : C1 ≤ R.cells ∧ 6 * C1 ≤ R.slots)
    (kk : ∀ (z : Int) (K1 : gP) (H1 : Heap) (locs1 : List Loc), post z K1 → gKH G M0 K1 s H1 locs1 → W p l e R s m args below meth c H1 locs1 C1 (6 * C1) Q (F0 m (pc + 3) ls (.int (iZ z) :: rest))) : W p l e R s m args below meth c H locs cells slots Q (F0 m pc ls st0) :=
  g_callL S hM cw hG hn hsize hstack hroom hdg ⟨by omega, by omega⟩ (fun z K1 H1 locs1 hp hG1 => W.widen hC.1 hC.2 (kk z K1 H1 locs1 hp hG1))
theorem g_cLl (C1 : Nat) (S : CallFix p m c cc nL s args Ts own) (hM : gMLl l y ws rm mc G M0 K As post) (cw : CallB R s args own index y bytes maxL ret ws rm mc (6 * mc) n ∧ (Cond.static y).before args s = true) (hG : gKH G M0 K s H locs) (hn : As.length = n) (hsize : ls.size = nL) (hstack : st0 = As.reverse ++ rest) (hroom : (rest.map fun v => v.category).sum ≤ 8) (hdg : decode cc pc = .ok (.invokestatic index, 3)) (hC : cells + mc ≤ C1 ∧ slots + 6 * mc ≤ 6 * C1) (hR : C1 ≤ R.cells ∧ 6 * C1 ≤ R.slots)
    (kk : ∀ (z : Int) (K1 : gP) (H1 : Heap) (locs1 : List Loc), post z K1 → gKH G M0 K1 s H1 locs1 → W p l e R s m args below meth c H1 locs1 C1 (6 * C1) Q (F0 m (pc + 3) ls (.long (lZ z) :: rest))) : W p l e R s m args below meth c H locs cells slots Q (F0 m pc ls st0) :=
  g_callLl S hM cw hG hn hsize hstack hroom hdg ⟨by omega, by omega⟩ (fun z K1 H1 locs1 hp hG1 => W.widen hC.1 hC.2 (kk z K1 H1 locs1 hp hG1))
theorem g_cLW (C1 : Nat) (S : CallFix p m c cc nL s args Ts own) (hM : gML l y ws rm mc G M0 K As post) (cw : vx_CSW R s args own index y bytes maxL ret hh ws rm mc (6 * mc) n) (hG : gKH G M0 K s H locs) (hn : As.length = n) (hsize : ls.size = nL) (hstack : st0 = As.reverse ++ rest) (hroom : (rest.map fun v => v.category).sum ≤ 8) (hdg : decode cc pc = .ok (.invokestatic index, 3)) (hC : cells + mc ≤ C1 ∧ slots + 6 * mc ≤ 6 * C1) (hR : C1 ≤ R.cells ∧ 6 * C1 ≤ R.slots)
    (kk : ∀ (z : Int) (K1 : gP) (H1 : Heap) (locs1 : List Loc), post z K1 → gKH G M0 K1 s H1 locs1 → W p l e R s m args below meth c H1 locs1 C1 (6 * C1) Q (F0 m (pc + 3) ls (.int (iZ z) :: rest))) : W p l e R s m args below meth c H locs cells slots Q (F0 m pc ls st0) :=
  g_callLW S hM cw hG hn hsize hstack hroom hdg ⟨by omega, by omega⟩ (fun z K1 H1 locs1 hp hG1 => W.widen hC.1 hC.2 (kk z K1 H1 locs1 hp hG1))
/-- a call of a method of the class that could throw but doesn't -/
theorem g_cX (C1 : Nat) {postM : (Nat → Nat → Int) → Int → (Nat → Nat → Int) → Prop} {px : (Nat → Nat → Int) → String → (Nat → Nat → Int) → Prop} (S : CallFix p m c cc nL s args Ts own) (hm : gdm G b) {ci : Nat} {fs : (Nat → Int) → List Value} {q : vw_C} (he : ∀ f, gE G f b = .inr (ci, fs f)) (hc : vwCl[ci]? = some q) (hC : q.1 = C) (hM : ∀ M, K M → gMx l y ws rm G M (.ref (gad G b) :: As) (postM M) (px M)) (cw : CallW R s args own C index y bytes maxL ret ws rm 1 6 n) (hG : gKH G M0 K s H locs) (hn : As.length = n) (hsize : ls.size = nL) (hstack : st0 = As.reverse ++ .ref (gad G b) :: rest) (hroom : (rest.map fun v => v.category).sum ≤ 8) (hdg : decode cc pc = .ok (.invokevirtual index, 3)) (hC1 : cells + 1 ≤ C1 ∧ slots + 6 ≤ 6 * C1) (hR : C1 ≤ R.cells ∧ 6 * C1 ≤ R.slots)
    (hx : ∀ M E M1, K M → px M E M1 → False) (hk : ∀ M z M1, K M → postM M z M1 → q_bd M0 M → K M1 ∧ q_bd M0 M1)
    (kk : ∀ (z : Int) (H1 : Heap) (locs1 : List Loc), (∃ M M1, K M ∧ postM M z M1) → gKH G M0 K s H1 locs1 → W p l e R s m args below meth c H1 locs1 C1 (6 * C1) Q (F0 m (pc + 3) ls (.int (iZ z) :: rest))) : W p l e R s m args below meth c H locs cells slots Q (F0 m pc ls st0) := by
  obtain ⟨M, h1, h2, h3, h4⟩ := hG
  have hr : ∃ cell : Cell, H[gad G b]? = some cell ∧ cell.vm.isStatics = false ∧ s.vm.findClass C = some cell.cls := by rw [← hC]; exact g_recv h1 hm (he _) hc
  refine g_callX S (hM M h3) cw h2 h1 hr hn hsize hstack hroom hdg ⟨by omega, by omega⟩ (fun E M1 H1 locs1 ce q9 hp hG1 _ _ _ => (hx M E M1 h3 hp).elim) (fun z M1 H1 locs1 hp hG1 => ?_)
  exact W.widen hC1.1 hC1.2 (kk z H1 locs1 ⟨M, M1, h3, hp⟩ ⟨M1, hG1, h2, hk M z M1 h3 hp h4⟩)
end GL2
/-! twelve bits -/
set_option maxRecDepth 100000 in
theorem iZ_or12a : ∀ a, a < 64 → ∀ b, b < 64 → ∀ q, q < 12 → iZ ((64 * a + b : Nat) : Int) ||| iZ ((2 ^ q : Nat) : Int) = iZ (((64 * a + b) ||| 2 ^ q : Nat) : Int) := by decide +kernel
set_option maxRecDepth 100000 in
theorem iZ_shr12a : ∀ a, a < 64 → ∀ b, b < 64 → ∀ q, q < 12 → iZ ((64 * a + b : Nat) : Int) >>> (iZ (q : Nat) &&& 31) = iZ (((64 * a + b) / 2 ^ q : Nat) : Int) := by decide +kernel
set_option maxRecDepth 100000 in
theorem iZ_and12a : ∀ a, a < 64 → ∀ b, b < 64 → iZ ((64 * a + b : Nat) : Int) &&& iZ 1 = iZ (((64 * a + b) % 2 : Nat) : Int) := by decide +kernel
theorem iZ_shl12 : ∀ q, q < 12 → iZ 1 <<< (iZ (q : Nat) &&& 31) = iZ ((2 ^ q : Nat) : Int) := by decide +kernel
theorem q_pw12 : ∀ q, q < 12 → 2 ^ q < 4096 := by decide
set_option maxRecDepth 100000 in
theorem q_or12a : ∀ a, a < 64 → ∀ b, b < 64 → ∀ q, q < 12 → ((64 * a + b) ||| 2 ^ q) < 4096 ∧ ((64 * a + b) ||| 2 ^ q) / 2 ^ q % 2 = 1 := by decide +kernel
theorem m_split {m : Nat} : m = 64 * (m / 64) + m % 64 := by omega
theorem iZ_or12 {m q : Nat} (hm : m < 4096) (hq : q < 12) : iZ (m : Int) ||| iZ ((2 ^ q : Nat) : Int) = iZ ((m ||| 2 ^ q : Nat) : Int) := by
  have h := iZ_or12a (m / 64) (by omega) (m % 64) (by omega) q hq
  rwa [← m_split] at h
theorem iZ_shr12 {m q : Nat} (hm : m < 4096) (hq : q < 12) : iZ (m : Int) >>> (iZ (q : Nat) &&& 31) = iZ ((m / 2 ^ q : Nat) : Int) := by
  have h := iZ_shr12a (m / 64) (by omega) (m % 64) (by omega) q hq
  rwa [← m_split] at h
theorem iZ_and12 {m : Nat} (hm : m < 4096) : iZ (m : Int) &&& iZ 1 = iZ ((m % 2 : Nat) : Int) := by
  have h := iZ_and12a (m / 64) (by omega) (m % 64) (by omega)
  rwa [← m_split] at h
theorem q_or12 {m q : Nat} (hm : m < 4096) (hq : q < 12) : (m ||| 2 ^ q) < 4096 := by
  have h := (q_or12a (m / 64) (by omega) (m % 64) (by omega) q hq).1
  rwa [← m_split] at h
theorem q_bit_or {m q j : Nat} : (m ||| 2 ^ q) / 2 ^ j % 2 = if j = q then 1 else m / 2 ^ j % 2 := by
  have h := Nat.testBit_or m (2 ^ q) j
  rw [Nat.testBit_two_pow] at h
  have e : ∀ x : Nat, x / 2 ^ j % 2 = if x.testBit j = true then 1 else 0 := fun x => by
    rw [Nat.testBit_eq_decide_div_mod_eq]
    by_cases h9 : x / 2 ^ j % 2 = 1
    · rw [h9]; simp
    · rw [if_neg (by simpa using h9)]; omega
  rw [e, e, h]
  by_cases hj : j = q
  · subst hj; simp
  · rw [if_neg hj, show decide (q = j) = false from decide_eq_false (fun h9 => hj h9.symm), Bool.or_false]
section GM
variable {p : Program} {l : Launch} {e : Env} {R : Room} {s : State} {m : MethodId} {args : Array Value} {below : List Frame} {meth : Method} {c : Code} {H : Heap} {locs : List Loc} {cells slots : Nat} {Q : State → Prop}
variable {cc : ByteArray} {pc : Nat} {ls : Array Slot} {rest : List Value}
theorem z12_orm (hx : p.tables.exec = Jvm.exec) (hb : c.code = cc) {m9 q9 : Nat} (h1 : m9 < 4096) (h2 : q9 < 12) (hdg : decode cc pc = .ok (.ior, 1)) (k : W p l e R s m args below meth c H locs cells slots Q (F0 m (pc + 1) ls (.int (iZ ((m9 ||| 2 ^ q9 : Nat) : Int)) :: rest))) : W p l e R s m args below meth c H locs cells slots Q (F0 m pc ls (.int (iZ ((2 ^ q9 : Nat) : Int)) :: .int (iZ (m9 : Int)) :: rest)) := by
  refine lv_ior hx hb hdg ?_
  rw [iZ_or12 h1 h2]; exact k
theorem z12_shl1 (hx : p.tables.exec = Jvm.exec) (hb : c.code = cc) {q9 : Nat} (h1 : q9 < 12) {a : Int} (ha : a = (q9 : Int)) (hdg : decode cc pc = .ok (.ishl, 1)) (k : W p l e R s m args below meth c H locs cells slots Q (F0 m (pc + 1) ls (.int (iZ ((2 ^ q9 : Nat) : Int)) :: rest))) : W p l e R s m args below meth c H locs cells slots Q (F0 m pc ls (.int (iZ a) :: .int (iZ 1) :: rest)) := by
  subst ha
  refine lv_ishl hx hb hdg ?_
  rw [iZ_shl12 q9 h1]; exact k
theorem z12_shrm (hx : p.tables.exec = Jvm.exec) (hb : c.code = cc) {m9 q9 : Nat} (h1 : m9 < 4096) (h2 : q9 < 12) {a : Int} (ha : a = (q9 : Int)) (hdg : decode cc pc = .ok (.ishr, 1)) (k : W p l e R s m args below meth c H locs cells slots Q (F0 m (pc + 1) ls (.int (iZ ((m9 / 2 ^ q9 : Nat) : Int)) :: rest))) : W p l e R s m args below meth c H locs cells slots Q (F0 m pc ls (.int (iZ a) :: .int (iZ (m9 : Int)) :: rest)) := by
  subst ha
  refine lv_ishr hx hb hdg ?_
  rw [iZ_shr12 h1 h2]; exact k
theorem z12_andm (hx : p.tables.exec = Jvm.exec) (hb : c.code = cc) {m9 : Nat} (h1 : m9 < 4096) (hdg : decode cc pc = .ok (.iand, 1)) (k : W p l e R s m args below meth c H locs cells slots Q (F0 m (pc + 1) ls (.int (iZ ((m9 % 2 : Nat) : Int)) :: rest))) : W p l e R s m args below meth c H locs cells slots Q (F0 m pc ls (.int (iZ 1) :: .int (iZ (m9 : Int)) :: rest)) := by
  refine lv_iand hx hb hdg ?_
  rw [iZ_and12 h1]; exact k
end GM
