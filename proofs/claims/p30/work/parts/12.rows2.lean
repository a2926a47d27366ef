/-- System.arraycopy between two int rows, both from their beginnings -/
def q_cpa (M : Nat → Nat → Int) (d s n : Nat) : Nat → Nat → Int := fun a => if a = d then (fun b => if b < n then M s b else M d b) else M a
section GCP
variable {p : Program} {l : Launch} {e : Env} {R : Room} {s : State} {m : MethodId} {args : Array Value} {below : List Frame} {meth : Method} {c : Code} {H : Heap} {locs : List Loc} {cells slots : Nat} {Q : State → Prop}
variable {cc : ByteArray} {pc : Nat} {ls : Array Slot} {rest : List Value} {G : gG} {M : Nat → Nat → Int}
theorem g_copy (hx : p.tables.exec = Jvm.exec) (hb : c.code = cc) (hml : c.maxLocals = ls.size) {own : String} {index : Nat} (hown : s.vm.findClass own = some m.cls) (hlink : (Cond.methodLink own index arraycopyName).before args s = true) (hnat : (Cond.native arraycopyName).before args s = true) (hstat : (Cond.static arraycopyName).before args s = true) (hini : (Cond.initialized "java/lang/System").before args s = true)
    (hG : gH G M s H locs) {o1 o2 n1 n2 : Nat} (ho1 : gdm G o1) (ho2 : gdm G o2) (he1 : gE G (M o1) o1 = gI G n1 (M o1)) (he2 : ∀ f, gE G f o2 = gI G n2 f) {k : Nat} (hk1 : k ≤ n1) (hk2 : k ≤ n2) (hn : n1 < 2147483648)
    (hframes : 1 ≤ R.frames) (hlocals : (rest.map fun v => v.category).sum + (nativeFrameWords "java/lang/System" "arraycopy" 5 + 11) ≤ R.locals) (hdg : decode cc pc = .ok (.invokestatic index, 3))
    (kk : ∀ (H1 : Heap) (locs1 : List Loc), gH G (q_cpa M o2 o1 k) s H1 locs1 → W p l e R s m args below meth c H1 locs1 cells slots Q (F0 m (pc + 3) ls rest)) : W p l e R s m args below meth c H locs cells slots Q (F0 m pc ls (.int (iZ (k : Int)) :: .int (iZ 0) :: .ref (gad G o2) :: .int (iZ 0) :: .ref (gad G o1) :: rest)) := by
  intro T hT X
  have hc0 : H[gad G o1]? = some (vp_cell (G.2.1 0) (n1, .inl (fun j => iZ (M o1 j)))) := by have h := hG.1 o1 ho1; rw [he1] at h; exact h
  have hc1 : H[gad G o2]? = some (vp_cell (G.2.1 0) (n2, .inl (fun j => iZ (M o2 j)))) := by have h := hG.1 o2 ho2; rw [he2] at h; exact h
  obtain ⟨-, k0, hk0, cm0, hkk0⟩ := (hG.2.1.1.2 0 _ rfl).1 n1 (fun j => .int (iZ (M o1 j)))
  obtain ⟨-, k1, hk3, cm1, hkk1⟩ := (hG.2.1.1.2 0 _ rfl).1 n2 (fun j => .int (iZ (M o2 j)))
  have h0 : ¬ iZ 0 < 0 := by decide
  have hkn : ¬ iZ (k : Int) < 0 := by rw [iZ_nat]; exact nI_pos (by omega)
  have hki : (iZ (k : Int)).toInt = (k : Int) := iZ_int (by omega)
  have hkc : (iZ (k : Int)).toNatClampNeg = k := iZ_cl rfl (by omega)
  have hz0 : (iZ 0).toNatClampNeg = 0 := by decide
  have hzi : (iZ 0).toInt = 0 := by decide
  obtain ⟨vm', X', step⟩ := X.arraycopy hx hown hlink hnat hstat hini (src := gad G o1) (dst := gad G o2) (cs := vp_cell (G.2.1 0) (n1, .inl (fun j => iZ (M o1 j)))) (cd := vp_cell (G.2.1 0) (n2, .inl (fun j => iZ (M o2 j)))) (srcPos := iZ 0) (destPos := iZ 0) (n := iZ (k : Int)) (by rw [hT]; exact hc0) (by rw [hT]; exact hc1)
    (fun _ h => by cases h) (fun _ h => by cases h) (fun h => by cases h) (fun h => by cases h) hk0 hk3 hkk0 hkk1 (by simp [refKind]) h0 h0 hkn
    (by rw [hki, hzi]; show ¬ _ > ((arrV (G.2.1 0) n1 (fun j => .int (iZ (M o1 j)))).slots.size : Int); rw [arrV_size]; omega)
    (by rw [hki, hzi]; show ¬ _ > ((arrV (G.2.1 0) n2 (fun j => .int (iZ (M o2 j)))).slots.size : Int); rw [arrV_size]; omega)
    (fun vm₁ _ i hi => by
      rw [hkc] at hi
      have e : (vp_cell (G.2.1 0) (n1, .inl (fun j => iZ (M o1 j)))).slots.getD ((iZ 0).toNatClampNeg + i) .null = .int (iZ (M o1 ((iZ 0).toNatClampNeg + i))) := by
        show (arrV (G.2.1 0) n1 (fun j => .int (iZ (M o1 j)))).slots.getD _ _ = _
        rw [Array.getD_eq_getD_getElem?, arrV_read _ _ (by rw [hz0]; omega)]
        rfl
      refine ⟨?_, ?_⟩
      · rw [e]; rfl
      · rw [e]; exact trivial)
    (g := F0 m pc ls (.int (iZ (k : Int)) :: .int (iZ 0) :: .ref (gad G o2) :: .int (iZ 0) :: .ref (gad G o1) :: rest)) rfl (by rw [hml]) (rest := rest) rfl (by rw [hb]; exact hdg) hframes (by show 2 * 0 + _ + _ ≤ _; omega)
  have e1 : copied (vp_cell (G.2.1 0) (n1, .inl (fun j => iZ (M o1 j)))) (vp_cell (G.2.1 0) (n2, .inl (fun j => iZ (M o2 j)))) (iZ 0) (iZ 0) (iZ (k : Int)) = vp_cell (G.2.1 0) (n2, .inl (va_cpy (fun j => iZ (M o1 j)) (fun j => iZ (M o2 j)) (iZ 0).toNatClampNeg (iZ 0).toNatClampNeg (iZ (k : Int)).toNatClampNeg)) := va_copied (fun z => .int z) (G.2.1 0) (G.2.1 0) (fun j => iZ (M o1 j)) (fun j => iZ (M o2 j)) (show (iZ 0).toNatClampNeg + (iZ (k : Int)).toNatClampNeg ≤ n1 by rw [hz0, hkc]; omega)
  rw [e1] at X' step
  have hl : gad G o2 < H.size := (Array.getElem?_eq_some_iff.mp hc1).1
  have hfn : va_cpy (fun j => iZ (M o1 j)) (fun j => iZ (M o2 j)) (iZ 0).toNatClampNeg (iZ 0).toNatClampNeg (iZ (k : Int)).toNatClampNeg = fun j => iZ (q_cpa M o2 o1 k o2 j) := by
    funext j
    rw [hz0, hkc]
    unfold va_cpy q_cpa
    rw [if_pos rfl]
    by_cases hj : j < k
    · rw [if_pos (by omega), if_pos hj]; simp
    · rw [if_neg (by omega), if_neg hj]
  rw [hfn] at X' step
  have hheap : ((T.setVm vm').setCell (gad G o2) (vp_cell (G.2.1 0) (n2, .inl (fun j => iZ (q_cpa M o2 o1 k o2 j))))).heap = H.setIfInBounds (gad G o2) (vp_cell (G.2.1 0) (n2, .inl (fun j => iZ (q_cpa M o2 o1 k o2 j)))) := by rw [← hT]; rfl
  have oq : ∀ q : Nat, q ≠ gad G o2 → (H.setIfInBounds (gad G o2) (vp_cell (G.2.1 0) (n2, .inl (fun j => iZ (q_cpa M o2 o1 k o2 j)))))[q]? = H[q]? := fun q hq => by simp [Array.getElem?_setIfInBounds, Ne.symm hq]
  have hG1 : gCells G (q_cpa M o2 o1 k) (H.setIfInBounds (gad G o2) (vp_cell (G.2.1 0) (n2, .inl (fun j => iZ (q_cpa M o2 o1 k o2 j))))) := by
    intro i hi
    by_cases hik : i = o2
    · subst hik
      rw [he2]
      show (H.setIfInBounds (gad G i) _)[gad G i]? = some _
      simp [Array.getElem?_setIfInBounds, hl]
    · have e9 : q_cpa M o2 o1 k i = M i := by unfold q_cpa; exact if_neg hik
      rw [e9]
      exact (hG.1 i hi).kept (oq _ (fun z => hik (hG.2.1.2.1 _ _ hi ho2 z)))
  obtain ⟨t, a1, b1⟩ := kk _ _ ⟨hG1, hG.2.1, ⟨by simp; exact hG.2.2.1, fun q g1 g2 => by
      rw [oq q (fun e => g2 (by rw [e]; exact hG.2.1.2.2.1 o2 ho2))]
      exact hG.2.2.2.1 q g1 g2, fun q hq => by
      rcases List.mem_append.mp hq with h | h
      · exact hG.2.2.2.2 q h
      · obtain ⟨z, -, hz⟩ := List.mem_map.mp h
        rw [← hz]
        exact hG.2.1.2.2.1 o2 ho2⟩⟩ _ hheap X'
  exact ⟨t, step t a1, b1⟩
end GCP
def q_off (M M1 : Nat → Nat → Int) (lo hi : Nat) : Prop := ∀ a, (a < lo ∨ hi ≤ a) → M1 a = M a
theorem q_tr_off {M M1 : Nat → Nat → Int} {lo hi u : Nat} {R : Nat → Int} (h : q_tr M u R) (ho : q_off M M1 lo hi) (hu : u + 8 ≤ lo ∨ hi ≤ u) : q_tr M1 u R := by
  have e : ∀ r, r < 8 → M1 (u + r) = M (u + r) := fun r hr => ho _ (by omega)
  have e0 : M1 u = M u := e 0 (by omega)
  unfold q_tr
  rw [e0, e 1 (by omega), e 2 (by omega), e 3 (by omega), e 4 (by omega), e 5 (by omega), e 6 (by omega), e 7 (by omega)]
  exact h
theorem wr_ap (M : Nat → Nat → Int) (k j : Nat) (v : Int) (a b : Nat) : q_wr M k j v a b = if a = k ∧ b = j then v else M a b := by
  unfold q_wr q_up
  by_cases h : a = k
  · subst h; by_cases h2 : b = j <;> simp [h2]
  · simp [h]
theorem q_off.rf (M : Nat → Nat → Int) (lo hi : Nat) : q_off M M lo hi := fun _ _ => rfl
theorem q_off.wr {M M1 : Nat → Nat → Int} {lo hi k j : Nat} {v : Int} (h : q_off M M1 lo hi) (h1 : lo ≤ k) (h2 : k < hi) : q_off M (q_wr M1 k j v) lo hi := fun a ha => by rw [wr_off _ _ _ (by omega)]; exact h a ha
theorem q_off.tr {M M1 M2 : Nat → Nat → Int} {lo hi lo2 hi2 : Nat} (h : q_off M M1 lo hi) (h2 : q_off M1 M2 lo2 hi2) (h3 : lo ≤ lo2) (h4 : hi2 ≤ hi) : q_off M M2 lo hi := fun a ha => by rw [h2 a (by omega), h a ha]
