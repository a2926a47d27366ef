section GC
variable {p : Program} {l : Launch} {e : Env} {R : Room} {s : State} {m : MethodId} {args : Array Value} {below : List Frame} {meth : Method} {c : Code} {H : Heap} {locs : List Loc} {cells slots : Nat} {Q : State → Prop}
variable {cc : ByteArray} {pc : Nat} {ls : Array Slot} {rest st0 As : List Value} {G : gG} {M : Nat → Nat → Int}
variable {y : MethodName} {bytes : ByteArray} {maxL nL n index : Nat} {ret : Option FieldType} {ws ws' Ts : List Cond} {rm : Room} {own C host : String} {b : Nat}
theorem g_recv (hG : gH G M s H locs) (hb : gdm G b) {ci : Nat} {fs : List Value} {q : vw_C} (he : gE G (M b) b = .inr (ci, fs)) (hc : vwCl[ci]? = some q) : ∃ cell : Cell, H[gad G b]? = some cell ∧ cell.vm.isStatics = false ∧ s.vm.findClass q.1 = some cell.cls := by
  have h := hG.1 b hb
  rw [he] at h
  obtain ⟨q', h1, cell, g1, g2, g3, -⟩ := h
  exact ⟨cell, g1, by rw [g3]; rfl, by rw [g2]; exact (hG.2.1.1.1 ci q hc).2.1⟩
theorem g_callV {post : Int → (Nat → Nat → Int) → Prop} (S : CallFix p m c cc nL s args Ts own) (hM : gMi l y ws rm G M (.ref (gad G b) :: As) post) (cw : CallW R s args own C index y bytes maxL ret ws rm 0 0 n) (hG : gH G M s H locs) (hr : ∃ cell : Cell, H[gad G b]? = some cell ∧ cell.vm.isStatics = false ∧ s.vm.findClass C = some cell.cls) (hn : As.length = n) (hsize : ls.size = nL) (hstack : st0 = As.reverse ++ .ref (gad G b) :: rest) (hroom : (rest.map fun v => v.category).sum ≤ 8) (hdg : decode cc pc = .ok (.invokevirtual index, 3)) (hf : cells + 0 ≤ R.cells ∧ slots + 0 ≤ R.slots)
    (kk : ∀ (z : Int) (M1 : Nat → Nat → Int) (H1 : Heap) (locs1 : List Loc), post z M1 → gH G M1 s H1 locs1 → W p l e R s m args below meth c H1 locs1 cells slots Q (F0 m (pc + 3) ls (.int (iZ z) :: rest))) : W p l e R s m args below meth c H locs cells slots Q (F0 m pc ls st0) := by
  refine va_calli (A1 := gA G) (A0 := gA G) (va_runV (As := As) (rest := rest) S hM cw ⟨fun a U g mk q => ⟨q.1, q.2.blind⟩, hr, fun U hU hW => ⟨rfl, hG.out hU hW⟩⟩ rfl hn hsize hstack (lv_room hroom) hdg hf) hG.2.2 (fun _ _ h => h) (fun _ h => h) (fun r u t H1 locs1 ht hvm hw hB hz hk hS => ?_)
  obtain ⟨rfl, hp⟩ := hw
  exact kk u.1 u.2 H1 locs1 hp ⟨by rw [← ht]; exact hB.1, hG.2.1, hS⟩
theorem g_callS {post : Int → (Nat → Nat → Int) → Prop} (S : CallFix p m c cc nL s args Ts own) (hM : gMi l y ws rm G M As post) (cw : CallB R s args own index y bytes maxL ret ws rm 0 0 n ∧ (Cond.static y).before args s = true) (hG : gH G M s H locs) (hn : As.length = n) (hsize : ls.size = nL) (hstack : st0 = As.reverse ++ rest) (hroom : (rest.map fun v => v.category).sum ≤ 8) (hdg : decode cc pc = .ok (.invokestatic index, 3)) (hf : cells + 0 ≤ R.cells ∧ slots + 0 ≤ R.slots)
    (kk : ∀ (z : Int) (M1 : Nat → Nat → Int) (H1 : Heap) (locs1 : List Loc), post z M1 → gH G M1 s H1 locs1 → W p l e R s m args below meth c H1 locs1 cells slots Q (F0 m (pc + 3) ls (.int (iZ z) :: rest))) : W p l e R s m args below meth c H locs cells slots Q (F0 m pc ls st0) := by
  refine va_calli (A1 := gA G) (A0 := gA G) (va_runS (As := As) (rest := rest) S hM cw ⟨fun a U g mk q => ⟨q.1, q.2.blind⟩, fun U hU hW => ⟨rfl, hG.out hU hW⟩⟩ rfl hn hsize hstack (lv_room hroom) hdg hf) hG.2.2 (fun _ _ h => h) (fun _ h => h) (fun r u t H1 locs1 ht hvm hw hB hz hk hS => ?_)
  obtain ⟨rfl, hp⟩ := hw
  exact kk u.1 u.2 H1 locs1 hp ⟨by rw [← ht]; exact hB.1, hG.2.1, hS⟩
theorem g_callSN {post : Int → (Nat → Nat → Int) → Prop} (S : CallFix p m c cc nL s args Ts own) (hM : gMi l y ws rm G M As post) (cw : va_CN R s args own index y host bytes maxL ret ws rm 0 0 n ∧ (Cond.static y).before args s = true ∧ True) (hG : gH G M s H locs) (hn : As.length = n) (hsize : ls.size = nL) (hstack : st0 = As.reverse ++ rest) (hroom : (rest.map fun v => v.category).sum ≤ 8) (hdg : decode cc pc = .ok (.invokestatic index, 3)) (hf : cells + 0 ≤ R.cells ∧ slots + 0 ≤ R.slots)
    (kk : ∀ (z : Int) (M1 : Nat → Nat → Int) (H1 : Heap) (locs1 : List Loc), post z M1 → gH G M1 s H1 locs1 → W p l e R s m args below meth c H1 locs1 cells slots Q (F0 m (pc + 3) ls (.int (iZ z) :: rest))) : W p l e R s m args below meth c H locs cells slots Q (F0 m pc ls st0) := by
  refine va_calli (A1 := gA G) (A0 := gA G) (va_runSN (As := As) (rest := rest) S hM cw ⟨fun a U g mk q => ⟨q.1, q.2.blind⟩, fun U hU hW => ⟨rfl, hG.out hU hW⟩⟩ rfl hn hsize hstack (lv_room hroom) hdg hf) hG.2.2 (fun _ _ h => h) (fun _ h => h) (fun r u t H1 locs1 ht hvm hw hB hz hk hS => ?_)
  obtain ⟨rfl, hp⟩ := hw
  exact kk u.1 u.2 H1 locs1 hp ⟨by rw [← ht]; exact hB.1, hG.2.1, hS⟩
theorem g_vcallV {post : (Nat → Nat → Int) → Prop} (S : CallFix p m c cc nL s args Ts own) (hM : gMv l y ws rm G M (.ref (gad G b) :: As) post) (cw : CallW R s args own C index y bytes maxL ret ws rm 0 0 n) (hG : gH G M s H locs) (hr : ∃ cell : Cell, H[gad G b]? = some cell ∧ cell.vm.isStatics = false ∧ s.vm.findClass C = some cell.cls) (hn : As.length = n) (hsize : ls.size = nL) (hstack : st0 = As.reverse ++ .ref (gad G b) :: rest) (hroom : (rest.map fun v => v.category).sum ≤ 8) (hdg : decode cc pc = .ok (.invokevirtual index, 3)) (hf : cells + 0 ≤ R.cells ∧ slots + 0 ≤ R.slots)
    (kk : ∀ (M1 : Nat → Nat → Int) (H1 : Heap) (locs1 : List Loc), post M1 → gH G M1 s H1 locs1 → W p l e R s m args below meth c H1 locs1 cells slots Q (F0 m (pc + 3) ls rest)) : W p l e R s m args below meth c H locs cells slots Q (F0 m pc ls st0) := by
  refine va_callv (A1 := gA G) (A0 := gA G) (va_runV (As := As) (rest := rest) S hM cw ⟨fun a U g mk q => ⟨q.1, q.2.blind⟩, hr, fun U hU hW => ⟨rfl, hG.out hU hW⟩⟩ rfl hn hsize hstack (lv_room hroom) hdg hf) hG.2.2 (fun _ _ h => h) (fun _ h => h) (fun u t H1 locs1 ht hvm hw hB hz hk hS => ?_)
  exact kk u H1 locs1 hw ⟨by rw [← ht]; exact hB.1, hG.2.1, hS⟩
theorem g_vcallS {post : (Nat → Nat → Int) → Prop} (S : CallFix p m c cc nL s args Ts own) (hM : gMv l y ws rm G M As post) (cw : CallB R s args own index y bytes maxL ret ws rm 0 0 n ∧ (Cond.static y).before args s = true) (hG : gH G M s H locs) (hn : As.length = n) (hsize : ls.size = nL) (hstack : st0 = As.reverse ++ rest) (hroom : (rest.map fun v => v.category).sum ≤ 8) (hdg : decode cc pc = .ok (.invokestatic index, 3)) (hf : cells + 0 ≤ R.cells ∧ slots + 0 ≤ R.slots)
    (kk : ∀ (M1 : Nat → Nat → Int) (H1 : Heap) (locs1 : List Loc), post M1 → gH G M1 s H1 locs1 → W p l e R s m args below meth c H1 locs1 cells slots Q (F0 m (pc + 3) ls rest)) : W p l e R s m args below meth c H locs cells slots Q (F0 m pc ls st0) := by
  refine va_callv (A1 := gA G) (A0 := gA G) (va_runS (As := As) (rest := rest) S hM cw ⟨fun a U g mk q => ⟨q.1, q.2.blind⟩, fun U hU hW => ⟨rfl, hG.out hU hW⟩⟩ rfl hn hsize hstack (lv_room hroom) hdg hf) hG.2.2 (fun _ _ h => h) (fun _ h => h) (fun u t H1 locs1 ht hvm hw hB hz hk hS => ?_)
  exact kk u H1 locs1 hw ⟨by rw [← ht]; exact hB.1, hG.2.1, hS⟩
theorem g_iret (hx : p.tables.exec = Jvm.exec) (hb : c.code = cc) (hr : meth.sig.returnType = some .int) {post : Int → (Nat → Nat → Int) → Prop} (hG : gH G M s H locs) (hlocks : meth.locks = false) {z : Int} (hp : post z M) (hdg : decode cc pc = .ok (.ireturn, 1)) : W p l e R s m args below meth c H locs 0 0 (MQ below (va_Qi (fun r (u : Int × (Nat → Nat → Int)) => r = iZ u.1 ∧ post u.1 u.2) (fun u U => gB G u.2 U) (gA G)) args s 0 0 (gA G)) (F0 m pc ls [.int (iZ z)]) :=
  W.iret hx hb hr (fun t ht hW => ⟨⟨iZ z, (z, M), rfl, ⟨rfl, hp⟩, hG.out ht hW⟩, hG.2.2.F ht⟩) hG.2.2.2.2 hdg hlocks
theorem g_zret (hx : p.tables.exec = Jvm.exec) (hb : c.code = cc) (hr : meth.sig.returnType = some .boolean) {post : Int → (Nat → Nat → Int) → Prop} (hG : gH G M s H locs) (hlocks : meth.locks = false) {z : Int} (h01 : z = 0 ∨ z = 1) (hp : post z M) (hdg : decode cc pc = .ok (.ireturn, 1)) : W p l e R s m args below meth c H locs 0 0 (MQ below (va_Qi (fun r (u : Int × (Nat → Nat → Int)) => r = iZ u.1 ∧ post u.1 u.2) (fun u U => gB G u.2 U) (gA G)) args s 0 0 (gA G)) (F0 m pc ls [.int (iZ z)]) :=
  W.zret hx hb hr (by rcases h01 with rfl | rfl <;> rfl) (fun t ht hW => ⟨⟨iZ z, (z, M), rfl, ⟨rfl, hp⟩, hG.out ht hW⟩, hG.2.2.F ht⟩) hG.2.2.2.2 hdg hlocks
theorem g_vret (hx : p.tables.exec = Jvm.exec) (hb : c.code = cc) (hr : meth.sig.returnType = none) {post : (Nat → Nat → Int) → Prop} (hG : gH G M s H locs) (hlocks : meth.locks = false) (hp : post M) (hdg : decode cc pc = .ok (.return_, 1)) : W p l e R s m args below meth c H locs 0 0 (MQ below (va_Qv (fun (u : Nat → Nat → Int) => post u) (fun u U => gB G u U) (gA G)) args s 0 0 (gA G)) (F0 m pc ls []) :=
  W.vret hx hb hr (fun t ht hW => ⟨⟨M, rfl, hp, hG.out ht hW⟩, hG.2.2.F ht⟩) hG.2.2.2.2 hdg hlocks
theorem g_mmax (hx : p.tables.exec = Jvm.exec) (hb : c.code = cc) (hml : c.maxLocals = ls.size) (hown : s.vm.findClass own = some m.cls) (hlink : (Cond.methodLink own index Lib.Math.max.name).before args s = true) (hstat : (Cond.static Lib.Math.max.name).before args s = true) (hini : (Cond.initialized "java/lang/Math").before args s = true) (hcode : (Cond.code Lib.Math.max.name Lib.Math.max.code 2 (some .int)).before args s = true) (hframes : 1 ≤ R.frames) (hlocals : (rest.map fun v => v.category).sum + 13 ≤ R.locals) (hc : cells ≤ R.cells) (hs : slots ≤ R.slots) {a b : Int} (ha : -2147483648 ≤ a ∧ a < 2147483648) (hbb : -2147483648 ≤ b ∧ b < 2147483648) (hdg : decode cc pc = .ok (.invokestatic index, 3))
    (kk : W p l e R s m args below meth c H locs cells slots Q (F0 m (pc + 3) ls (.int (iZ (max a b)) :: rest))) : W p l e R s m args below meth c H locs cells slots Q (F0 m pc ls (.int (iZ b) :: .int (iZ a) :: rest)) := by
  refine va_mmax hx hb hml hown hlink hstat hini hcode hframes hlocals hc hs hdg ?_
  have h : (if iZ a < iZ b then iZ b else iZ a) = iZ (max a b) := by
    by_cases q : a < b
    · rw [if_pos ((iZ_lt ha hbb).mpr q)]; congr 1; omega
    · rw [if_neg (fun z => q ((iZ_lt ha hbb).mp z))]; congr 1; omega
  rw [h]; exact kk
theorem g_mmin (hx : p.tables.exec = Jvm.exec) (hb : c.code = cc) (hml : c.maxLocals = ls.size) (hown : s.vm.findClass own = some m.cls) (hlink : (Cond.methodLink own index Lib.Math.min.name).before args s = true) (hstat : (Cond.static Lib.Math.min.name).before args s = true) (hini : (Cond.initialized "java/lang/Math").before args s = true) (hcode : (Cond.code Lib.Math.min.name Lib.Math.min.code 2 (some .int)).before args s = true) (hframes : 1 ≤ R.frames) (hlocals : (rest.map fun v => v.category).sum + 13 ≤ R.locals) (hc : cells ≤ R.cells) (hs : slots ≤ R.slots) {a b : Int} (ha : -2147483648 ≤ a ∧ a < 2147483648) (hbb : -2147483648 ≤ b ∧ b < 2147483648) (hdg : decode cc pc = .ok (.invokestatic index, 3))
    (kk : W p l e R s m args below meth c H locs cells slots Q (F0 m (pc + 3) ls (.int (iZ (min a b)) :: rest))) : W p l e R s m args below meth c H locs cells slots Q (F0 m pc ls (.int (iZ b) :: .int (iZ a) :: rest)) := by
  refine va_mmin hx hb hml hown hlink hstat hini hcode hframes hlocals hc hs hdg ?_
  first
  | (have h : (if iZ b < iZ a then iZ b else iZ a) = iZ (min a b) := by
      by_cases q : b < a
      · rw [if_pos ((iZ_lt hbb ha).mpr q)]; congr 1; omega
      · rw [if_neg (fun z => q ((iZ_lt hbb ha).mp z))]; congr 1; omega
     rw [h]; exact kk)
  | (have h : (if iZ a > iZ b then iZ b else iZ a) = iZ (min a b) := by
      by_cases q : b < a
      · rw [if_pos ((iZ_lt hbb ha).mpr q)]; congr 1; omega
      · rw [if_neg (fun z => q ((iZ_lt hbb ha).mp z))]; congr 1; omega
     rw [h]; exact kk)
end GC
theorem gMi_of {l : Launch} {y : MethodName} {ws ws' : List Cond} {rm : Room} {G : gG} {M : Nat → Nat → Int} {av : List Value} {post : Int → (Nat → Nat → Int) → Prop} {cc : ByteArray} {maxL : Nat} {ret : Option FieldType} (hy : plainName y.cls = true) (hw : ws = Cond.code y cc maxL ret :: ws') (hL : (lg_sl av).length ≤ maxL)
    (body : ∀ (p : Program) (e : Env) (s : State) (m : MethodId) (below : List Frame) (meth : Method) (c : Code) (ls : Array Slot), p.tables.exec = Jvm.exec → c.code = cc → meth.sig.returnType = ret → c.maxLocals = maxL → s.vm.findClass y.cls = some m.cls → (∀ w ∈ ws, w.before av.toArray s = true) → meth.locks = false → lv_has ls maxL (lv_args 0 av) → gH G M s s.heap [] →
      W p l e rm s m av.toArray below meth c s.heap [] 0 0 (MQ below (va_Qi (fun r (u : Int × (Nat → Nat → Int)) => r = iZ u.1 ∧ post u.1 u.2) (fun u U => gB G u.2 U) (gA G)) av.toArray s 0 0 (gA G)) (F0 m 0 ls [])) : gMi l y ws rm G M av post := by
  refine Met.ofW (cc := cc) (maxL := maxL) (ret := ret) hy hw ?_
  intro p e s m args below meth c s₁ B hml hv
  obtain ⟨rfl, hB⟩ := hv
  rw [lg_entry_eq]
  exact body p e s m below meth c _ B.exec B.bytes B.returns hml (findClass_of_methodNamed B.named) (atoms_spec (ws := ws) B.pre) B.notSynchronized (lv_entry av hL) hB.start
theorem gMv_of {l : Launch} {y : MethodName} {ws ws' : List Cond} {rm : Room} {G : gG} {M : Nat → Nat → Int} {av : List Value} {post : (Nat → Nat → Int) → Prop} {cc : ByteArray} {maxL : Nat} {ret : Option FieldType} (hy : plainName y.cls = true) (hw : ws = Cond.code y cc maxL ret :: ws') (hL : (lg_sl av).length ≤ maxL)
    (body : ∀ (p : Program) (e : Env) (s : State) (m : MethodId) (below : List Frame) (meth : Method) (c : Code) (ls : Array Slot), p.tables.exec = Jvm.exec → c.code = cc → meth.sig.returnType = ret → c.maxLocals = maxL → s.vm.findClass y.cls = some m.cls → (∀ w ∈ ws, w.before av.toArray s = true) → meth.locks = false → lv_has ls maxL (lv_args 0 av) → gH G M s s.heap [] →
      W p l e rm s m av.toArray below meth c s.heap [] 0 0 (MQ below (va_Qv (fun (u : Nat → Nat → Int) => post u) (fun u U => gB G u U) (gA G)) av.toArray s 0 0 (gA G)) (F0 m 0 ls [])) : gMv l y ws rm G M av post := by
  refine Met.ofW (cc := cc) (maxL := maxL) (ret := ret) hy hw ?_
  intro p e s m args below meth c s₁ B hml hv
  obtain ⟨rfl, hB⟩ := hv
  rw [lg_entry_eq]
  exact body p e s m below meth c _ B.exec B.bytes B.returns hml (findClass_of_methodNamed B.named) (atoms_spec (ws := ws) B.pre) B.notSynchronized (lv_entry av hL) hB.start
