/-! A call of a method that may throw, caught (as in whole, 32b) -/
theorem lZ_iw (a : Int) : (iZ a).toInt64 = lZ (iZ a).toInt := by
  have h := iZ_of (iZ a)
  have h1 := Int32.le_toInt (iZ a)
  have h2 := Int32.toInt_lt (iZ a)
  rw [← lZ_i (a := (iZ a).toInt) (by omega), h]
section GW
variable {p : Program} {l : Launch} {e : Env} {R : Room} {s : State} {m : MethodId} {args : Array Value} {below : List Frame} {meth : Method} {c : Code} {H : Heap} {locs : List Loc} {cells slots : Nat} {Q : State → Prop}
variable {cc : ByteArray} {pc : Nat} {ls : Array Slot} {rest st0 As : List Value} {G : gG} {M : Nat → Nat → Int}
variable {y : MethodName} {bytes : ByteArray} {maxL nL n index : Nat} {ret : Option FieldType} {ws ws' Ts : List Cond} {rm : Room} {own C host : String} {b : Nat}
theorem z_i2lw (hx : p.tables.exec = Jvm.exec) (hb : c.code = cc) {a : Int} (hdg : decode cc pc = .ok (.i2l, 1)) (k : W p l e R s m args below meth c H locs cells slots Q (F0 m (pc + 1) ls (.long (lZ (iZ a).toInt) :: rest))) : W p l e R s m args below meth c H locs cells slots Q (F0 m pc ls (.int (iZ a) :: rest)) := lv_i2l hx hb hdg (lZ_iw a) k
theorem g_callX {post : Int → (Nat → Nat → Int) → Prop} {px : String → (Nat → Nat → Int) → Prop} (S : CallFix p m c cc nL s args Ts own) (hM : gMx l y ws rm G M (.ref (gad G b) :: As) post px) (cw : CallW R s args own C index y bytes maxL ret ws rm 1 6 n) (hX : gXt G s) (hG : gH G M s H locs) (hr : ∃ cell : Cell, H[gad G b]? = some cell ∧ cell.vm.isStatics = false ∧ s.vm.findClass C = some cell.cls) (hn : As.length = n) (hsize : ls.size = nL) (hstack : st0 = As.reverse ++ .ref (gad G b) :: rest) (hroom : (rest.map fun v => v.category).sum ≤ 8) (hdg : decode cc pc = .ok (.invokevirtual index, 3)) (hf : cells + 1 ≤ R.cells ∧ slots + 6 ≤ R.slots)
    (kx : ∀ (E : String) (M1 : Nat → Nat → Int) (H1 : Heap) (locs1 : List Loc) (ce : Cell) (q9 : Addr), px E M1 → gH G M1 s H1 locs1 → H1[q9]? = some ce → ce.vm = .none → s.vm.findClass E = some ce.cls → vx_W p l e R s m args below meth c H1 locs1 (cells + 1) (slots + 6) Q (F0 m pc ls rest) q9)
    (kk : ∀ (z : Int) (M1 : Nat → Nat → Int) (H1 : Heap) (locs1 : List Loc), post z M1 → gH G M1 s H1 locs1 → W p l e R s m args below meth c H1 locs1 (cells + 1) (slots + 6) Q (F0 m (pc + 3) ls (.int (iZ z) :: rest))) : W p l e R s m args below meth c H locs cells slots Q (F0 m pc ls st0) := by
  refine vx_calli (A1 := gA G) (A0 := gA G) (AX := gA G) (vx_runV (As := As) (rest := rest) S hM cw ⟨fun a U g mk q => ⟨q.1, q.2.1.blind, q.2.2.blind⟩, hr, fun U hU hW => ⟨rfl, hG.out hU hW, hX.out hG hU hW⟩⟩ rfl hn hsize hstack (lv_room hroom) hdg hf) hG.2.2 (fun _ _ h => h) (fun _ h => h) (fun _ _ h => h) (fun E ce q9 u t H1 locs1 ht hvm hp hB hz hk hS hce hcv hcl => ?_) (fun r u t H1 locs1 ht hvm hw hB hz hk hS => ?_)
  · obtain ⟨rfl, hC⟩ := hB
    exact kx u.1 u.2 H1 locs1 ce q9 hp ⟨by rw [← ht]; exact hC, hG.2.1, hS⟩ hce hcv hcl
  · obtain ⟨rfl, hp⟩ := hw
    exact kk u.1 u.2 H1 locs1 hp ⟨by rw [← ht]; exact hB.1, hG.2.1, hS⟩
end GW
