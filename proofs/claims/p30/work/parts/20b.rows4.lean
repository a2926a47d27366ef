/-! PAGES ANEW: what stands beyond a page's end may be chosen; long answers; bits -/
theorem gI_to {G : gG} {n : Nat} {f f' : Nat → Int} {a : Nat} {H : Heap} (h : ∀ j, j < n → f j = f' j) (hA : va_at G.1 vwCl (a, gI G n f) H) : va_at G.1 vwCl (a, gI G n f') H := by
  have e : arrV (G.2.1 0) n (fun j => Value.int (iZ (f j))) = arrV (G.2.1 0) n (fun j => Value.int (iZ (f' j))) := by
    unfold arrV
    congr 1
    congr 1
    funext j
    show Value.int (iZ (f j.val)) = Value.int (iZ (f' j.val))
    rw [h j.val j.isLt]
  show H[a]? = some (arrV (G.2.1 0) n (fun j => Value.int (iZ (f' j))))
  rw [← e]
  exact hA
theorem gMv.to {l : Launch} {y : MethodName} {ws : List Cond} {rm : Room} {G : gG} {M : Nat → Nat → Int} {av : List Value} {post post' : (Nat → Nat → Int) → Prop} (h : gMv l y ws rm G M av post) (hp : ∀ u, post u → ∃ u', post' u' ∧ ∀ U, gB G u U → gB G u' U) : gMv l y ws rm G M av post' := by
  intro p e ha hc hk s m args below hf happ hpre hK
  obtain ⟨k, o, h1, h2, h3, ⟨⟨u, q1, q2, q3⟩, q5⟩, q6⟩ := h p e ha hc hk s m args below hf happ hpre hK
  obtain ⟨u', p1, p2⟩ := hp u q2
  exact ⟨k, o, h1, h2, h3, ⟨⟨u', q1, p1, p2 _ q3⟩, q5⟩, q6⟩
def gMl (l : Launch) (y : MethodName) (ws : List Cond) (rm : Room) (G : gG) (M : Nat → Nat → Int) (av : List Value) (post : Int → (Nat → Nat → Int) → Prop) : Prop :=
  Met l y ws rm (va_Pc av (gB G M)) (va_Ql (fun r (u : Int × (Nat → Nat → Int)) => r = lZ u.1 ∧ post u.1 u.2) (fun u U => gB G u.2 U) (gA G)) 0 0 (gA G)
theorem gMl_of {l : Launch} {y : MethodName} {ws ws' : List Cond} {rm : Room} {G : gG} {M : Nat → Nat → Int} {av : List Value} {post : Int → (Nat → Nat → Int) → Prop} {cc : ByteArray} {maxL : Nat} {ret : Option FieldType} (hy : plainName y.cls = true) (hw : ws = Cond.code y cc maxL ret :: ws') (hL : (lg_sl av).length ≤ maxL)
    (body : ∀ (p : Program) (e : Env) (s : State) (m : MethodId) (below : List Frame) (meth : Method) (c : Code) (ls : Array Slot), p.tables.exec = Jvm.exec → c.code = cc → meth.sig.returnType = ret → c.maxLocals = maxL → s.vm.findClass y.cls = some m.cls → (∀ w ∈ ws, w.before av.toArray s = true) → meth.locks = false → lv_has ls maxL (lv_args 0 av) → gH G M s s.heap [] →
      W p l e rm s m av.toArray below meth c s.heap [] 0 0 (MQ below (va_Ql (fun r (u : Int × (Nat → Nat → Int)) => r = lZ u.1 ∧ post u.1 u.2) (fun u U => gB G u.2 U) (gA G)) av.toArray s 0 0 (gA G)) (F0 m 0 ls [])) : gMl l y ws rm G M av post := by
  refine Met.ofW (cc := cc) (maxL := maxL) (ret := ret) hy hw ?_
  intro p e s m args below meth c s₁ B hml hv
  obtain ⟨rfl, hB⟩ := hv
  rw [lg_entry_eq]
  exact body p e s m below meth c _ B.exec B.bytes B.returns hml (findClass_of_methodNamed B.named) (atoms_spec (ws := ws) B.pre) B.notSynchronized (lv_entry av hL) hB.start
section GL
variable {p : Program} {l : Launch} {e : Env} {R : Room} {s : State} {m : MethodId} {args : Array Value} {below : List Frame} {meth : Method} {c : Code} {H : Heap} {locs : List Loc} {cells slots : Nat} {Q : State → Prop}
variable {cc : ByteArray} {pc : Nat} {ls : Array Slot} {rest st0 As : List Value} {G : gG} {M : Nat → Nat → Int}
variable {y : MethodName} {bytes : ByteArray} {maxL nL n index : Nat} {ret : Option FieldType} {ws ws' Ts : List Cond} {rm : Room} {own C host : String} {b : Nat}
theorem g_lcallS {post : Int → (Nat → Nat → Int) → Prop} (S : CallFix p m c cc nL s args Ts own) (hM : gMl l y ws rm G M As post) (cw : CallB R s args own index y bytes maxL ret ws rm 0 0 n ∧ (Cond.static y).before args s = true) (hG : gH G M s H locs) (hn : As.length = n) (hsize : ls.size = nL) (hstack : st0 = As.reverse ++ rest) (hroom : (rest.map fun v => v.category).sum ≤ 8) (hdg : decode cc pc = .ok (.invokestatic index, 3)) (hf : cells + 0 ≤ R.cells ∧ slots + 0 ≤ R.slots)
    (kk : ∀ (z : Int) (M1 : Nat → Nat → Int) (H1 : Heap) (locs1 : List Loc), post z M1 → gH G M1 s H1 locs1 → W p l e R s m args below meth c H1 locs1 cells slots Q (F0 m (pc + 3) ls (.long (lZ z) :: rest))) : W p l e R s m args below meth c H locs cells slots Q (F0 m pc ls st0) := by
  refine va_calll (A1 := gA G) (A0 := gA G) (va_runS (As := As) (rest := rest) S hM cw ⟨fun a U g mk q => ⟨q.1, q.2.blind⟩, fun U hU hW => ⟨rfl, hG.out hU hW⟩⟩ rfl hn hsize hstack (lv_room hroom) hdg hf) hG.2.2 (fun _ _ h => h) (fun _ h => h) (fun r u t H1 locs1 ht hvm hw hB hz hk hS => ?_)
  obtain ⟨rfl, hp⟩ := hw
  exact kk u.1 u.2 H1 locs1 hp ⟨by rw [← ht]; exact hB.1, hG.2.1, hS⟩
theorem g_lret (hx : p.tables.exec = Jvm.exec) (hb : c.code = cc) (hr : meth.sig.returnType = some .long) {post : Int → (Nat → Nat → Int) → Prop} (hG : gH G M s H locs) (hlocks : meth.locks = false) {z : Int} (hp : post z M) (hdg : decode cc pc = .ok (.lreturn, 1)) : W p l e R s m args below meth c H locs 0 0 (MQ below (va_Ql (fun r (u : Int × (Nat → Nat → Int)) => r = lZ u.1 ∧ post u.1 u.2) (fun u U => gB G u.2 U) (gA G)) args s 0 0 (gA G)) (F0 m pc ls [.long (lZ z)]) :=
  W.lret hx hb hr (fun t ht hW => ⟨⟨lZ z, (z, M), rfl, ⟨rfl, hp⟩, hG.out ht hW⟩, hG.2.2.F ht⟩) hG.2.2.2.2 hdg hlocks
theorem z_iand0 (hx : p.tables.exec = Jvm.exec) (hb : c.code = cc) {a : Int} (hdg : decode cc pc = .ok (.iand, 1)) (k : W p l e R s m args below meth c H locs cells slots Q (F0 m (pc + 1) ls (.int (iZ 0) :: rest))) : W p l e R s m args below meth c H locs cells slots Q (F0 m pc ls (.int (iZ 0) :: .int (iZ a) :: rest)) := by
  refine lv_iand hx hb hdg ?_
  rw [show iZ a &&& iZ 0 = iZ 0 by rw [iZ_0, Int32.and_zero]]; exact k
theorem z_iand1 (hx : p.tables.exec = Jvm.exec) (hb : c.code = cc) {a : Int} (ha : a = 0 ∨ a = 1) (hdg : decode cc pc = .ok (.iand, 1)) (k : W p l e R s m args below meth c H locs cells slots Q (F0 m (pc + 1) ls (.int (iZ a) :: rest))) : W p l e R s m args below meth c H locs cells slots Q (F0 m pc ls (.int (iZ 1) :: .int (iZ a) :: rest)) := by
  refine lv_iand hx hb hdg ?_
  have h : iZ a &&& iZ 1 = iZ a := by rcases ha with rfl | rfl <;> decide
  rw [h]; exact k
theorem iZ_or : ∀ m, m < 64 → ∀ b, b < 64 → iZ (m : Nat) ||| iZ (b : Nat) = iZ ((m ||| b : Nat) : Int) := by decide +kernel
theorem iZ_shl : ∀ q, q < 6 → iZ 1 <<< (iZ (q : Nat) &&& 31) = iZ ((2 ^ q : Nat) : Int) := by decide +kernel
theorem iZ_shr : ∀ m, m < 64 → ∀ q, q < 6 → iZ (m : Nat) >>> (iZ (q : Nat) &&& 31) = iZ ((m / 2 ^ q : Nat) : Int) := by decide +kernel
theorem iZ_and1 : ∀ m, m < 64 → iZ (m : Nat) &&& iZ 1 = iZ ((m % 2 : Nat) : Int) := by decide +kernel
theorem q_pw6 : ∀ q, q < 6 → 2 ^ q < 64 := by decide
theorem q_or6 : ∀ m, m < 64 → ∀ b, b < 64 → m ||| b < 64 := by decide +kernel
theorem z_orm (hx : p.tables.exec = Jvm.exec) (hb : c.code = cc) {m9 b9 : Nat} (h1 : m9 < 64) (h2 : b9 < 64) (hdg : decode cc pc = .ok (.ior, 1)) (k : W p l e R s m args below meth c H locs cells slots Q (F0 m (pc + 1) ls (.int (iZ ((m9 ||| b9 : Nat) : Int)) :: rest))) : W p l e R s m args below meth c H locs cells slots Q (F0 m pc ls (.int (iZ (b9 : Int)) :: .int (iZ (m9 : Int)) :: rest)) := by
  refine lv_ior hx hb hdg ?_
  rw [iZ_or m9 h1 b9 h2]; exact k
theorem z_shl1 (hx : p.tables.exec = Jvm.exec) (hb : c.code = cc) {q9 : Nat} (h1 : q9 < 6) {a : Int} (ha : a = (q9 : Int)) (hdg : decode cc pc = .ok (.ishl, 1)) (k : W p l e R s m args below meth c H locs cells slots Q (F0 m (pc + 1) ls (.int (iZ ((2 ^ q9 : Nat) : Int)) :: rest))) : W p l e R s m args below meth c H locs cells slots Q (F0 m pc ls (.int (iZ a) :: .int (iZ 1) :: rest)) := by
  subst ha
  refine lv_ishl hx hb hdg ?_
  rw [iZ_shl q9 h1]; exact k
theorem z_shrm (hx : p.tables.exec = Jvm.exec) (hb : c.code = cc) {m9 q9 : Nat} (h1 : m9 < 64) (h2 : q9 < 6) {a : Int} (ha : a = (q9 : Int)) (hdg : decode cc pc = .ok (.ishr, 1)) (k : W p l e R s m args below meth c H locs cells slots Q (F0 m (pc + 1) ls (.int (iZ ((m9 / 2 ^ q9 : Nat) : Int)) :: rest))) : W p l e R s m args below meth c H locs cells slots Q (F0 m pc ls (.int (iZ a) :: .int (iZ (m9 : Int)) :: rest)) := by
  subst ha
  refine lv_ishr hx hb hdg ?_
  rw [iZ_shr m9 h1 q9 h2]; exact k
theorem z_andm (hx : p.tables.exec = Jvm.exec) (hb : c.code = cc) {m9 : Nat} (h1 : m9 < 64) (hdg : decode cc pc = .ok (.iand, 1)) (k : W p l e R s m args below meth c H locs cells slots Q (F0 m (pc + 1) ls (.int (iZ ((m9 % 2 : Nat) : Int)) :: rest))) : W p l e R s m args below meth c H locs cells slots Q (F0 m pc ls (.int (iZ 1) :: .int (iZ (m9 : Int)) :: rest)) := by
  refine lv_iand hx hb hdg ?_
  rw [iZ_and1 m9 h1]; exact k
theorem iZ_tdiv {a b : Int} (ha : -2147483648 ≤ a ∧ a < 2147483648) (hb : -2147483648 ≤ b ∧ b < 2147483648) : iZ a / iZ b = iZ (a.tdiv b) :=
  Int32.ofInt_tdiv (by simp [Int32.toInt_minValue]; omega) (by simp [Int32.toInt_maxValue]; omega) (by simp [Int32.toInt_minValue]; omega) (by simp [Int32.toInt_maxValue]; omega) |>.symm
theorem z_idivT (hx : p.tables.exec = Jvm.exec) (hb : c.code = cc) {a b z : Int} (ha : -2147483648 ≤ a ∧ a < 2147483648) (hbb : 0 < b ∧ b < 2147483648) (hz : a.tdiv b = z) (hdg : decode cc pc = .ok (.idiv, 1)) (k : W p l e R s m args below meth c H locs cells slots Q (F0 m (pc + 1) ls (.int (iZ z) :: rest))) : W p l e R s m args below meth c H locs cells slots Q (F0 m pc ls (.int (iZ b) :: .int (iZ a) :: rest)) := by
  subst hz; refine lv_idiv hx hb hdg (iZ_ne0 hbb) ?_; rw [iZ_tdiv ha (by omega)]; exact k
/-- the upper 31 bits of a long, as the class and the reference draw them -/
def q_up31 (x : Int) : Int := (((lZ x).toUInt64 >>> 33).toInt64.toInt32).toInt
theorem z_up31 (hx : p.tables.exec = Jvm.exec) (hb : c.code = cc) {x : Int} (hdg : decode cc pc = .ok (.lushr, 1)) (hdg2 : decode cc (pc + 1) = .ok (.l2i, 1)) (k : W p l e R s m args below meth c H locs cells slots Q (F0 m (pc + 1 + 1) ls (.int (iZ (q_up31 x)) :: rest))) : W p l e R s m args below meth c H locs cells slots Q (F0 m pc ls (.int (iZ 33) :: .long (lZ x) :: rest)) := by
  have e : ((lZ x).toUInt64 >>> ((iZ 33).toInt64.toUInt64 &&& Int64.toUInt64 63)).toInt64 = ((lZ x).toUInt64 >>> 33).toInt64 := by
    rw [show ((iZ 33).toInt64.toUInt64 &&& Int64.toUInt64 63) = 33 by decide]
  refine lv_lushr hx hb hdg e (lv_l2i hx hb hdg2 rfl ?_)
  rw [show ((lZ x).toUInt64 >>> 33).toInt64.toInt32 = iZ (q_up31 x) from (iZ_of _).symm]
  exact k
theorem q_up31_in (x : Int) : 0 ≤ q_up31 x ∧ q_up31 x < 2147483648 := by
  unfold q_up31
  have h2 := Int32.toInt_lt (((lZ x).toUInt64 >>> 33).toInt64.toInt32)
  refine ⟨?_, by omega⟩
  have h : (((lZ x).toUInt64 >>> 33).toInt64.toInt32).toBitVec.msb = false := by
    generalize (lZ x).toUInt64 = u
    have e9 : (u >>> 33).toInt64.toInt32.toBitVec = BitVec.setWidth 32 (u.toBitVec >>> 33) := by first | rfl | (simp; first | exact BitVec.signExtend_eq_setWidth_of_le _ (by decide) | exact BitVec.signExtend_eq_setWidth_of_lt _ (by decide) | (ext i hi; simp [BitVec.getLsbD_signExtend, BitVec.getElem_signExtend]; omega))
    rw [e9, BitVec.msb_eq_getLsbD_last]
    simp
  rw [← Int32.toInt_toBitVec, BitVec.toInt_eq_msb_cond, h]
  simp
end GL
