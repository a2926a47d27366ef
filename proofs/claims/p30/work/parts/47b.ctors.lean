def wT0 : List Value := [.int (iZ 0), .null, .null, .null, .null, .null, .null, .null, .int (iZ 0), .int (iZ 0), .int (iZ 0), .int (iZ 0), .int (iZ 0), .int (iZ 0), .int (iZ 0)]
set_option maxHeartbeats 4000000 in
set_option maxRecDepth 100000 in
theorem c_X3_init (l : Launch) (B : wB) (t o : Nat) (hT : isT t) (ho : ∀ r, r < 8 → q_of (t + r) = o + r) : wMet l yX3_init wsX3_init ({ frames := 1, cells := 7, slots := 138, locals := 21 } : Room) B 3 [.int (iZ 0), .null, .null, .null, .null, .null, .null, .null, .int (iZ 0), .int (iZ 0), .int (iZ 0), .int (iZ 0), .int (iZ 0), .int (iZ 0), .int (iZ 0)] o 8 7 138 := by
  have ht9 : t < 152 := hT.1
  refine wMet_of (cc := cX3_init) (maxL := 1) (by decide) rfl rfl (Nat.le_of_ble_eq_true rfl) ?_
  intro p e s m below meth c ls hx hb hr hml hown hts hlocks hnm0 hl h1 h2 h3
  have hown : s.vm.findClass RX3 = some m.cls := hown
  have hinX3 : ∀ w ∈ u_ws RX3 TX3 15, w ∈ wsX3_init := by decide +kernel
  have hH : wH B qM0 o 3 [.int (iZ 0), .null, .null, .null, .null, .null, .null, .null, .int (iZ 0), .int (iZ 0), .int (iZ 0), .int (iZ 0), .int (iZ 0), .int (iZ 0), .int (iZ 0)] (o + 1) s s.heap [] := ⟨h1, wN.nil, h2, va_S.rf, h3, Nat.lt_succ_self _⟩
  refine lv_aload_n hx hb dX3_init_0 rfl (lv_at hl 0 rfl) ?_
  refine W.objInit hx hb hown (hts (.methodLink RX3 3 objectInit) (by decide +kernel)) (hts (.instanceMethod objectInit) (by decide +kernel)) (hts (.code objectInit ⟨#[0xb1]⟩ 1 none) (List.mem_of_getElem? (i := 3) rfl)) rfl (by rw [hml]; exact hl.1) rfl dX3_init_1 (Nat.le_of_ble_eq_true rfl) (Nat.le_of_ble_eq_true rfl) ?_
  refine W.eq (g2 := F0 m 4 ls []) rfl ?_
  refine lv_aload_n hx hb dX3_init_4 rfl (lv_at hl 0 rfl) ?_
  refine lv_bipush (v := iZ (12)) hx hb dX3_init_5 (by decide) ?_
  refine w_newa (k := t + 1) (N := 12) (atype := .int) hx hb hH (hts (.arrayClass .int) (by decide +kernel)) 0 rfl (fun h => h) (by omega) (ho 1 (by decide)) (gE_tI hT 1 (by decide) _ _) (fun _ _ => rfl) rfl (by omega) (by decide) (by decide) (Nat.le_of_ble_eq_true rfl) (Nat.le_of_ble_eq_true rfl) dX3_init_7 (fun H hH => ?_)
  refine w_putF (C := RX3) (T := TX3) (N := 15) hx hb hH hts hinX3 tyX3 tyX3_ok nmX3 hown rfl 1 (by decide) (hts (.fieldLink RX3 9 "DogTrials$Trial" "owners" "[I") (by decide +kernel)) (fun _ h9 => h9) rfl hnm0 rfl rfl rfl rfl (Nat.le_of_ble_eq_true rfl) dX3_init_9 (fun H locs hH => ?_)
  refine lv_aload_n hx hb dX3_init_12 rfl (lv_at hl 0 rfl) ?_
  refine lv_bipush (v := iZ (12)) hx hb dX3_init_13 (by decide) ?_
  refine w_newa (k := t + 2) (N := 12) (atype := .int) hx hb hH (hts (.arrayClass .int) (by decide +kernel)) 0 rfl (fun h => h) (by omega) (ho 2 (by decide)) (gE_tI hT 2 (by decide) _ _) (fun _ _ => rfl) rfl (by omega) (by decide) (by decide) (Nat.le_of_ble_eq_true rfl) (Nat.le_of_ble_eq_true rfl) dX3_init_15 (fun H hH => ?_)
  refine w_putF (C := RX3) (T := TX3) (N := 15) hx hb hH hts hinX3 tyX3 tyX3_ok nmX3 hown rfl 2 (by decide) (hts (.fieldLink RX3 15 "DogTrials$Trial" "draws" "[I") (by decide +kernel)) (fun _ h9 => h9) rfl hnm0 rfl rfl rfl rfl (Nat.le_of_ble_eq_true rfl) dX3_init_17 (fun H locs hH => ?_)
  refine lv_aload_n hx hb dX3_init_20 rfl (lv_at hl 0 rfl) ?_
  refine lv_bipush (v := iZ (12)) hx hb dX3_init_21 (by decide) ?_
  refine w_newa (k := t + 3) (N := 12) (atype := .int) hx hb hH (hts (.arrayClass .int) (by decide +kernel)) 0 rfl (fun h => h) (by omega) (ho 3 (by decide)) (gE_tI hT 3 (by decide) _ _) (fun _ _ => rfl) rfl (by omega) (by decide) (by decide) (Nat.le_of_ble_eq_true rfl) (Nat.le_of_ble_eq_true rfl) dX3_init_23 (fun H hH => ?_)
  refine w_putF (C := RX3) (T := TX3) (N := 15) hx hb hH hts hinX3 tyX3 tyX3_ok nmX3 hown rfl 3 (by decide) (hts (.fieldLink RX3 18 "DogTrials$Trial" "states" "[I") (by decide +kernel)) (fun _ h9 => h9) rfl hnm0 rfl rfl rfl rfl (Nat.le_of_ble_eq_true rfl) dX3_init_25 (fun H locs hH => ?_)
  refine lv_aload_n hx hb dX3_init_28 rfl (lv_at hl 0 rfl) ?_
  refine lv_bipush (v := iZ (12)) hx hb dX3_init_29 (by decide) ?_
  refine w_newa (k := t + 4) (N := 12) (atype := .boolean) hx hb hH (hts (.arrayClass .boolean) (by decide +kernel)) 1 rfl (fun h => h) (by omega) (ho 4 (by decide)) (gE_tZ hT _ _) (fun _ _ => rfl) rfl (by omega) (by decide) (by decide) (Nat.le_of_ble_eq_true rfl) (Nat.le_of_ble_eq_true rfl) dX3_init_31 (fun H hH => ?_)
  refine w_putF (C := RX3) (T := TX3) (N := 15) hx hb hH hts hinX3 tyX3 tyX3_ok nmX3 hown rfl 4 (by decide) (hts (.fieldLink RX3 21 "DogTrials$Trial" "ran" "[Z") (by decide +kernel)) (fun _ h9 => h9) rfl hnm0 rfl rfl rfl rfl (Nat.le_of_ble_eq_true rfl) dX3_init_33 (fun H locs hH => ?_)
  refine lv_aload_n hx hb dX3_init_36 rfl (lv_at hl 0 rfl) ?_
  refine lv_bipush (v := iZ (12)) hx hb dX3_init_37 (by decide) ?_
  refine w_newa (k := t + 5) (N := 12) (atype := .int) hx hb hH (hts (.arrayClass .int) (by decide +kernel)) 0 rfl (fun h => h) (by omega) (ho 5 (by decide)) (gE_tI hT 5 (by decide) _ _) (fun _ _ => rfl) rfl (by omega) (by decide) (by decide) (Nat.le_of_ble_eq_true rfl) (Nat.le_of_ble_eq_true rfl) dX3_init_39 (fun H hH => ?_)
  refine w_putF (C := RX3) (T := TX3) (N := 15) hx hb hH hts hinX3 tyX3 tyX3_ok nmX3 hown rfl 5 (by decide) (hts (.fieldLink RX3 25 "DogTrials$Trial" "anew" "[I") (by decide +kernel)) (fun _ h9 => h9) rfl hnm0 rfl rfl rfl rfl (Nat.le_of_ble_eq_true rfl) dX3_init_41 (fun H locs hH => ?_)
  refine lv_aload_n hx hb dX3_init_44 rfl (lv_at hl 0 rfl) ?_
  refine lv_bipush (v := iZ (72)) hx hb dX3_init_45 (by decide) ?_
  refine w_newa (k := t + 6) (N := 72) (atype := .int) hx hb hH (hts (.arrayClass .int) (by decide +kernel)) 0 rfl (fun h => h) (by omega) (ho 6 (by decide)) (gE_t6 hT _ _) (fun _ _ => rfl) rfl (by omega) (by decide) (by decide) (Nat.le_of_ble_eq_true rfl) (Nat.le_of_ble_eq_true rfl) dX3_init_47 (fun H hH => ?_)
  refine w_putF (C := RX3) (T := TX3) (N := 15) hx hb hH hts hinX3 tyX3 tyX3_ok nmX3 hown rfl 6 (by decide) (hts (.fieldLink RX3 28 "DogTrials$Trial" "noted" "[I") (by decide +kernel)) (fun _ h9 => h9) rfl hnm0 rfl rfl rfl rfl (Nat.le_of_ble_eq_true rfl) dX3_init_49 (fun H locs hH => ?_)
  refine lv_aload_n hx hb dX3_init_52 rfl (lv_at hl 0 rfl) ?_
  refine lv_bipush (v := iZ (6)) hx hb dX3_init_53 (by decide) ?_
  refine w_newa (k := t + 7) (N := 6) (atype := .int) hx hb hH (hts (.arrayClass .int) (by decide +kernel)) 0 rfl (fun h => h) (by omega) (ho 7 (by decide)) (gE_t7 hT _ _) (fun _ _ => rfl) rfl (by omega) (by decide) (by decide) (Nat.le_of_ble_eq_true rfl) (Nat.le_of_ble_eq_true rfl) dX3_init_55 (fun H hH => ?_)
  refine w_putF (C := RX3) (T := TX3) (N := 15) hx hb hH hts hinX3 tyX3 tyX3_ok nmX3 hown rfl 7 (by decide) (hts (.fieldLink RX3 31 "DogTrials$Trial" "rank" "[I") (by decide +kernel)) (fun _ h9 => h9) rfl hnm0 rfl rfl rfl rfl (Nat.le_of_ble_eq_true rfl) dX3_init_57 (fun H locs hH => ?_)
  have hg : ∀ (dm : Nat → Prop) (b0 r : Nat), r < 8 → gad (wg B dm b0) (t + r) = wa B (o + r) := fun dm b0 r hr => by show wa B (q_of (t + r)) = wa B (o + r); rw [ho r hr]
  have hg0 : ∀ (dm : Nat → Prop) (b0 : Nat), gad (wg B dm b0) t = wa B o := fun dm b0 => hg dm b0 0 (by decide)
  have hq0 : q_of t = o := ho 0 (by decide)
  obtain ⟨k1, k2, k3, k4, k5, k6⟩ := hH
  have hG : gH (wg B (fun k => t ≤ k ∧ k < t + 8) (wa B o)) qM0 s H locs := by
    refine ⟨fun k hk => ?_, h3.fix (fun k hk => ?_) (by rw [h2]; exact wa_le (Nat.le_succ _)), k4⟩
    · obtain ⟨r, hr⟩ : ∃ r, k = t + r := ⟨k - t, by have : t ≤ k := hk.1; omega⟩
      subst hr
      have hr8 : r < 8 := by have : t + r < t + 8 := hk.2; omega
      rw [hg _ _ r hr8, gE_wg]
      by_cases hr0 : r = 0
      · subst hr0
        have e : gE (wF B) (qM0 t) t = .inr (3, [.int (iZ 0), .ref (wa B (o + 1)), .ref (wa B (o + 2)), .ref (wa B (o + 3)), .ref (wa B (o + 4)), .ref (wa B (o + 5)), .ref (wa B (o + 6)), .ref (wa B (o + 7)), .int (iZ 0), .int (iZ 0), .int (iZ 0), .int (iZ 0), .int (iZ 0), .int (iZ 0), .int (iZ 0)]) := by
          rw [gE_T hT]
          show (Sum.inr (3, [.int (iZ 0), .ref (gad (wF B) (t + 1)), .ref (gad (wF B) (t + 2)), .ref (gad (wF B) (t + 3)), .ref (gad (wF B) (t + 4)), .ref (gad (wF B) (t + 5)), .ref (gad (wF B) (t + 6)), .ref (gad (wF B) (t + 7)), .int (iZ 0), .int (iZ 0), .int (iZ 0), .int (iZ 0), .int (iZ 0), .int (iZ 0), .int (iZ 0)]) : va_E) = _
          rw [hg _ _ 1 (by decide), hg _ _ 2 (by decide), hg _ _ 3 (by decide), hg _ _ 4 (by decide), hg _ _ 5 (by decide), hg _ _ 6 (by decide), hg _ _ 7 (by decide)]
        show va_at B.1 vwCl (wa B o, gE (wF B) (qM0 t) t) H
        rw [e]; exact k1
      · have h9 := k2 (t + r) (by omega) (by rw [ho r hr8]; omega) (by rw [ho r hr8]; omega)
        rw [ho r hr8] at h9
        exact h9
    · have hk9 : t ≤ k ∧ k < t + 8 := hk
      obtain ⟨r, hr⟩ : ∃ r, k = t + r := ⟨k - t, by omega⟩
      subst hr
      rw [ho r (by omega)]; omega
  refine lv_aload_n hx hb dX3_init_60 rfl (lv_at hl 0 rfl) ?_
  refine g_vcallV (b := t) (As := []) (rest := []) ⟨hx, hb, hml, hown, hts⟩ (c_X3_makeNew l (wg B (fun k => t ≤ k ∧ k < t + 8) (wa B o)) qM0 t hT (fun r hr => ⟨by omega, by omega⟩)) (cwV 0 hts gX3_init_X3_makeNew rfl rfl rfl (by decide +kernel) ⟨Nat.le_of_ble_eq_true rfl, Nat.le_of_ble_eq_true rfl⟩) hG (g_recv hG (b := t) ⟨Nat.le_refl _, by omega⟩ (gE_T hT _ _) rfl) rfl hl.1 (by rw [hg0]; rfl) (Nat.le_of_ble_eq_true rfl) dX3_init_61 ⟨Nat.le_of_ble_eq_true rfl, Nat.le_of_ble_eq_true rfl⟩ (fun M1 H locs hp hG => ?_)
  skip
  obtain ⟨⟨p0, p8, p9, p10, p11, p12, p13, p14⟩, pr, pa, -⟩ := hp
  refine w_size (fun hsz => ?_)
  have hat : ∀ r, r < 8 → va_at B.1 vwCl (wa B (o + r), gE (wF B) (M1 (t + r)) (t + r)) H := fun r hr => by
    have h9 := hG.1 (t + r) ⟨by omega, by omega⟩
    rw [hg _ _ r hr] at h9
    exact h9
  have h7 := hat 7 (by decide)
  rw [gE_t7 hT] at h7
  have h7 : H[wa B (o + 7)]? = some (arrV (B.2.1 0) 6 (fun j => .int (iZ (M1 (t + 7) j)))) := h7
  have hlt : wa B (o + 7) < H.size := (Array.getElem?_eq_some_iff.mp h7).1
  have hz : H.size = wa B (o + 8) := by unfold wa at *; omega
  refine w_ret hx hb hr hlocks (fun k hk h8 h9 => ?_) hz hG.2.2 dX3_init_64
  obtain ⟨r, hr⟩ : ∃ r, q_of k = o + r := ⟨q_of k - o, by omega⟩
  have hr8 : r < 8 := by omega
  have hkt : k = t + r := q_of_inj hk (by omega) (hr.trans (ho r hr8).symm)
  subst hkt
  rw [hr]
  have h5 := hat r hr8
  rcases (show r = 0 ∨ r = 7 ∨ (1 ≤ r ∧ r < 7) by omega) with rfl | rfl | hr1
  · rw [show t + 0 = t from rfl, gE_T hT] at h5 ⊢
    have q : ∀ j, qMI t j = (if j = 10 then 300 else if j = 11 then -9 else 0) := fun j => by unfold qMI; rw [if_pos hT.1, if_pos hT.2]
    have e : oT (wF B) (M1 t) t = oT (wF B) (qMI t) t := by
      show [Value.int (iZ (M1 t 0)), .ref (gad (wF B) (t + 1)), .ref (gad (wF B) (t + 2)), .ref (gad (wF B) (t + 3)), .ref (gad (wF B) (t + 4)), .ref (gad (wF B) (t + 5)), .ref (gad (wF B) (t + 6)), .ref (gad (wF B) (t + 7)), .int (iZ (M1 t 8)), .int (iZ (M1 t 9)), .int (iZ (M1 t 10)), .int (iZ (M1 t 11)), .int (iZ (M1 t 12)), .int (iZ (M1 t 13)), .int (iZ (M1 t 14))] = [Value.int (iZ (qMI t 0)), .ref (gad (wF B) (t + 1)), .ref (gad (wF B) (t + 2)), .ref (gad (wF B) (t + 3)), .ref (gad (wF B) (t + 4)), .ref (gad (wF B) (t + 5)), .ref (gad (wF B) (t + 6)), .ref (gad (wF B) (t + 7)), .int (iZ (qMI t 8)), .int (iZ (qMI t 9)), .int (iZ (qMI t 10)), .int (iZ (qMI t 11)), .int (iZ (qMI t 12)), .int (iZ (qMI t 13)), .int (iZ (qMI t 14))]
      rw [p0, p8, p9, p10, p11, p12, p13, p14, q 0, q 8, q 9, q 10, q 11, q 12, q 13, q 14]; rfl
    rw [← e]; exact h5
  · show va_at B.1 vwCl (wa B (o + 7), gE (wF B) (qMI (t + 7)) (t + 7)) H
    rw [gE_t7 hT]
    show H[wa B (o + 7)]? = some (arrV (B.2.1 0) 6 (fun j => .int (iZ (qMI (t + 7) j))))
    rw [h7]
    refine congrArg some (arrV_cong _ _ (fun j hj => ?_))
    have q : qMI (t + 7) j = (j : Int) := by unfold qMI; rw [if_pos (by have := hT.2; omega), if_neg (by have := hT.2; omega), if_pos (by have := hT.2; omega)]
    rw [pr j hj, q]
  · have e : qMI (t + r) = M1 (t + r) := by
      rw [pa r hr1.1 hr1.2]
      funext j
      show qMI (t + r) j = 0
      unfold qMI; rw [if_pos (by have := hT.2; omega), if_neg (by have := hT.2; omega), if_neg (by have := hT.2; omega)]
    rw [e]; exact h5
theorem wH.whole {B : wB} {r ci z k : Nat} {fs : List Value} {s : State} {H : Heap} {locs : List Loc} (h : wH B qMI r ci fs z s H locs) (hk : k < 179) (hq : q_of k = r) (he : gE (wF B) (qMI k) k = .inr (ci, fs)) : wN B qMI r z H := (wN.one hk hq (by rw [he]; exact h.1)).join h.2.1
set_option maxHeartbeats 4000000 in
set_option maxRecDepth 100000 in
theorem c_X0_init (l : Launch) (B : wB) (q o : Nat) (hq : isC q) (ho : ∀ r, r < 4 → q_of (q + r) = o + r) : wMet l yX0_init wsX0_init ({ frames := 1, cells := 3, slots := 30, locals := 12 } : Room) B 0 [.null, .null, .int (iZ 0), .null] o 4 3 30 := by
  have hq9 : q < 163 := by rcases hq with rfl | rfl <;> decide
  have hM9 : ∀ r j, 1 ≤ r → r < 4 → qMI (q + r) j = 0 := fun r j h1 h2 => by unfold qMI; rcases hq with rfl | rfl <;> rw [if_neg (by omega), if_neg (by omega)]
  refine wMet_of (cc := cX0_init) (maxL := 1) (by decide) rfl rfl (Nat.le_of_ble_eq_true rfl) ?_
  intro p e s m below meth c ls hx hb hr hml hown hts hlocks hnm0 hl h1 h2 h3
  have hown : s.vm.findClass RX0 = some m.cls := hown
  have hinX0 : ∀ w ∈ u_ws RX0 TX0 4, w ∈ wsX0_init := by decide +kernel
  have hH : wH B qMI o 0 [.null, .null, .int (iZ 0), .null] (o + 1) s s.heap [] := ⟨h1, wN.nil, h2, va_S.rf, h3, Nat.lt_succ_self _⟩
  refine lv_aload_n hx hb dX0_init_0 rfl (lv_at hl 0 rfl) ?_
  refine W.objInit hx hb hown (hts (.methodLink RX0 3 objectInit) (by decide +kernel)) (hts (.instanceMethod objectInit) (by decide +kernel)) (hts (.code objectInit ⟨#[0xb1]⟩ 1 none) (List.mem_of_getElem? (i := 3) rfl)) rfl (by rw [hml]; exact hl.1) rfl dX0_init_1 (Nat.le_of_ble_eq_true rfl) (Nat.le_of_ble_eq_true rfl) ?_
  refine W.eq (g2 := F0 m 4 ls []) rfl ?_
  refine lv_aload_n hx hb dX0_init_4 rfl (lv_at hl 0 rfl) ?_
  refine lv_bipush (v := iZ (12)) hx hb dX0_init_5 (by decide) ?_
  refine w_newa (k := q + 1) (N := 12) (atype := .int) hx hb hH (hts (.arrayClass .int) (by decide +kernel)) 0 rfl (fun h => h) (by omega) (ho 1 (by decide)) (gE_c1 hq _ _) (fun j _ => hM9 1 j (by decide) (by decide)) rfl (by omega) (by decide) (by decide) (Nat.le_of_ble_eq_true rfl) (Nat.le_of_ble_eq_true rfl) dX0_init_7 (fun H hH => ?_)
  refine w_putF (C := RX0) (T := TX0) (N := 4) hx hb hH hts hinX0 tyX0 tyX0_ok nmX0 hown rfl 0 (by decide) (hts (.fieldLink RX0 9 "DogTrials$Course" "row" "[I") (by decide +kernel)) (fun _ h9 => h9) rfl hnm0 rfl rfl rfl rfl (Nat.le_of_ble_eq_true rfl) dX0_init_9 (fun H locs hH => ?_)
  refine lv_aload_n hx hb dX0_init_12 rfl (lv_at hl 0 rfl) ?_
  refine lv_bipush (v := iZ (12)) hx hb dX0_init_13 (by decide) ?_
  refine w_newa (k := q + 2) (N := 12) (atype := .boolean) hx hb hH (hts (.arrayClass .boolean) (by decide +kernel)) 1 rfl (fun h => h) (by omega) (ho 2 (by decide)) (gE_c2 hq _ _) (fun j _ => hM9 2 j (by decide) (by decide)) rfl (by omega) (by decide) (by decide) (Nat.le_of_ble_eq_true rfl) (Nat.le_of_ble_eq_true rfl) dX0_init_15 (fun H hH => ?_)
  refine w_putF (C := RX0) (T := TX0) (N := 4) hx hb hH hts hinX0 tyX0 tyX0_ok nmX0 hown rfl 1 (by decide) (hts (.fieldLink RX0 15 "DogTrials$Course" "placed" "[Z") (by decide +kernel)) (fun _ h9 => h9) rfl hnm0 rfl rfl rfl rfl (Nat.le_of_ble_eq_true rfl) dX0_init_17 (fun H locs hH => ?_)
  refine lv_aload_n hx hb dX0_init_20 rfl (lv_at hl 0 rfl) ?_
  refine lv_bipush (v := iZ (6)) hx hb dX0_init_21 (by decide) ?_
  refine w_newa (k := q + 3) (N := 6) (atype := .int) hx hb hH (hts (.arrayClass .int) (by decide +kernel)) 0 rfl (fun h => h) (by omega) (ho 3 (by decide)) (gE_c3 hq _ _) (fun j _ => hM9 3 j (by decide) (by decide)) rfl (by omega) (by decide) (by decide) (Nat.le_of_ble_eq_true rfl) (Nat.le_of_ble_eq_true rfl) dX0_init_23 (fun H hH => ?_)
  refine w_putF (C := RX0) (T := TX0) (N := 4) hx hb hH hts hinX0 tyX0 tyX0_ok nmX0 hown rfl 3 (by decide) (hts (.fieldLink RX0 19 "DogTrials$Course" "losses" "[I") (by decide +kernel)) (fun _ h9 => h9) rfl hnm0 rfl rfl rfl rfl (Nat.le_of_ble_eq_true rfl) dX0_init_25 (fun H locs hH => ?_)
  have hg : ∀ r, r < 4 → gad (wF B) (q + r) = wa B (o + r) := fun r hr => by show wa B (q_of (q + r)) = wa B (o + r); rw [ho r hr]
  have hN := hH.whole (k := q) (by omega) (ho 0 (by decide)) (by
    rw [gE_C hq]
    show (Sum.inr (0, [.ref (gad (wF B) (q + 1)), .ref (gad (wF B) (q + 2)), .int (iZ (qMI q 2)), .ref (gad (wF B) (q + 3))]) : va_E) = _
    rw [hg 1 (by decide), hg 2 (by decide), hg 3 (by decide), show qMI q 2 = 0 by unfold qMI; rcases hq with rfl | rfl <;> rw [if_neg (by omega), if_neg (by omega)]]; rfl)
  exact w_ret hx hb hr hlocks hN hH.2.2.1 hH.2.2.2.1 dX0_init_28
set_option maxHeartbeats 4000000 in
set_option maxRecDepth 100000 in
theorem c_X4_init (l : Launch) (B : wB) : wMet l yX4_init wsX4_init ({ frames := 1, cells := 1, slots := 70, locals := 12 } : Room) B 4 [.null, .int (iZ 0), .int (iZ 0)] 149 2 1 70 := by
  obtain ⟨o, ho⟩ : ∃ o, o = 149 := ⟨_, rfl⟩
  rw [← ho]
  refine wMet_of (cc := cX4_init) (maxL := 1) (by decide) rfl rfl (Nat.le_of_ble_eq_true rfl) ?_
  intro p e s m below meth c ls hx hb hr hml hown hts hlocks hnm0 hl h1 h2 h3
  have hown : s.vm.findClass RX4 = some m.cls := hown
  have hinX4 : ∀ w ∈ u_ws RX4 TX4 3, w ∈ wsX4_init := by decide +kernel
  have hH : wH B qMI o 4 [.null, .int (iZ 0), .int (iZ 0)] (o + 1) s s.heap [] := ⟨h1, wN.nil, h2, va_S.rf, h3, Nat.lt_succ_self _⟩
  refine lv_aload_n hx hb dX4_init_0 rfl (lv_at hl 0 rfl) ?_
  refine W.objInit hx hb hown (hts (.methodLink RX4 3 objectInit) (by decide +kernel)) (hts (.instanceMethod objectInit) (by decide +kernel)) (hts (.code objectInit ⟨#[0xb1]⟩ 1 none) (List.mem_of_getElem? (i := 3) rfl)) rfl (by rw [hml]; exact hl.1) rfl dX4_init_1 (Nat.le_of_ble_eq_true rfl) (Nat.le_of_ble_eq_true rfl) ?_
  refine W.eq (g2 := F0 m 4 ls []) rfl ?_
  refine lv_aload_n hx hb dX4_init_4 rfl (lv_at hl 0 rfl) ?_
  refine lv_bipush (v := iZ (70)) hx hb dX4_init_5 (by decide) ?_
  refine w_newa (k := 168) (N := 70) (atype := .int) hx hb hH (hts (.arrayClass .int) (by decide +kernel)) 0 rfl (fun h => h) (by decide) (by subst ho; rfl) rfl (fun j _ => rfl) rfl (by omega) (by decide) (by decide) (Nat.le_of_ble_eq_true rfl) (Nat.le_of_ble_eq_true rfl) dX4_init_7 (fun H hH => ?_)
  refine w_putF (C := RX4) (T := TX4) (N := 3) hx hb hH hts hinX4 tyX4 tyX4_ok nmX4 hown rfl 0 (by decide) (hts (.fieldLink RX4 9 "DogTrials$TrialText" "codes" "[I") (by decide +kernel)) (fun _ h9 => h9) rfl hnm0 rfl rfl rfl rfl (Nat.le_of_ble_eq_true rfl) dX4_init_9 (fun H locs hH => ?_)
  subst ho
  have hN := hH.whole (k := 167) (by decide) rfl rfl
  exact w_ret hx hb hr hlocks hN hH.2.2.1 hH.2.2.2.1 dX4_init_12
set_option maxHeartbeats 4000000 in
set_option maxRecDepth 100000 in
theorem c_X2_init (l : Launch) (B : wB) : wMet l yX2_init wsX2_init ({ frames := 2, cells := 13, slots := 191, locals := 41 } : Room) B 2 [.null, .null, .null] 21 14 13 191 := by
  refine wMet_of (cc := cX2_init) (maxL := 1) (by decide) rfl rfl (Nat.le_of_ble_eq_true rfl) ?_
  intro p e s m below meth c ls hx hb hr hml hown hts hlocks hnm0 hl h1 h2 h3
  have hown : s.vm.findClass RX2 = some m.cls := hown
  have hinX2 : ∀ w ∈ u_ws RX2 TX2 3, w ∈ wsX2_init := by decide +kernel
  have hinX3 : ∀ w ∈ u_ws RX3 TX3 15, w ∈ wsX2_init := by decide +kernel
  have hinX0 : ∀ w ∈ u_ws RX0 TX0 4, w ∈ wsX2_init := by decide +kernel
  have hH : wH B qMI 21 2 [.null, .null, .null] 22 s s.heap [] := ⟨h1, wN.nil, h2, va_S.rf, h3, Nat.lt_succ_self _⟩
  refine lv_aload_n hx hb dX2_init_0 rfl (lv_at hl 0 rfl) ?_
  refine W.objInit hx hb hown (hts (.methodLink RX2 3 objectInit) (by decide +kernel)) (hts (.instanceMethod objectInit) (by decide +kernel)) (hts (.code objectInit ⟨#[0xb1]⟩ 1 none) (List.mem_of_getElem? (i := 3) rfl)) rfl (by rw [hml]; exact hl.1) rfl dX2_init_1 (Nat.le_of_ble_eq_true rfl) (Nat.le_of_ble_eq_true rfl) ?_
  refine W.eq (g2 := F0 m 4 ls []) rfl ?_
  refine lv_aload_n hx hb dX2_init_4 rfl (lv_at hl 0 rfl) ?_
  refine w_mk (C := RX3) (T := TX3) (N := 15) (fs := [.int (iZ 0), .null, .null, .null, .null, .null, .null, .null, .int (iZ 0), .int (iZ 0), .int (iZ 0), .int (iZ 0), .int (iZ 0), .int (iZ 0), .int (iZ 0)]) (cnt := 8) (mc := 7) (ms := 138) hx hb hH hts hinX3 tyX3 tyX3_ok hown (hts (.classLink RX2 9 RX3) (by decide +kernel)) (hts (.instantiable RX3 15) (by decide +kernel)) (hts (.initialized RX3) (by decide +kernel)) rfl (fun j hj => by rcases (show j = 0 ∨ j = 1 ∨ j = 2 ∨ j = 3 ∨ j = 4 ∨ j = 5 ∨ j = 6 ∨ j = 7 ∨ j = 8 ∨ j = 9 ∨ j = 10 ∨ j = 11 ∨ j = 12 ∨ j = 13 ∨ j = 14 by omega) with rfl | rfl | rfl | rfl | rfl | rfl | rfl | rfl | rfl | rfl | rfl | rfl | rfl | rfl | rfl <;> rfl) (Nat.le_of_ble_eq_true rfl) (Nat.le_of_ble_eq_true rfl) dX2_init_5 dX2_init_8 (fun H1 hp => va_runI (As := []) ⟨hx, hb, hml, hown, hts⟩ (c_X3_init l B 16 22 ⟨by decide, by decide⟩ (by decide)) (cwI 0 hts gX2_init_X3_init rfl rfl rfl (hts (.initialized RX3) (by decide +kernel)) (hts (.methodLink RX2 11 yX3_init) (by decide +kernel)) (hts (.instanceMethod yX3_init) (by decide +kernel)) rfl (by decide +kernel) ⟨Nat.le_of_ble_eq_true rfl, Nat.le_of_ble_eq_true rfl⟩) hp rfl rfl hl.1 rfl (lv_room (Nat.le_of_ble_eq_true rfl)) dX2_init_9 ⟨Nat.le_of_ble_eq_true rfl, Nat.le_of_ble_eq_true rfl⟩) (fun H locs hH => ?_)
  refine w_putF (C := RX2) (T := TX2) (N := 3) hx hb hH hts hinX2 tyX2 tyX2_ok nmX2 hown rfl 0 (by decide) (hts (.fieldLink RX2 12 "DogTrials$Rehearsal" "copy" "LDogTrials$Trial;") (by decide +kernel)) (fun _ h9 => h9) rfl hnm0 rfl rfl rfl rfl (Nat.le_of_ble_eq_true rfl) dX2_init_12 (fun H locs hH => ?_)
  refine lv_aload_n hx hb dX2_init_15 rfl (lv_at hl 0 rfl) ?_
  refine w_mk (C := RX0) (T := TX0) (N := 4) (fs := [.null, .null, .int (iZ 0), .null]) (cnt := 4) (mc := 3) (ms := 30) hx hb hH hts hinX0 tyX0 tyX0_ok hown (hts (.classLink RX2 18 RX0) (by decide +kernel)) (hts (.instantiable RX0 4) (by decide +kernel)) (hts (.initialized RX0) (by decide +kernel)) rfl (fun j hj => by rcases (show j = 0 ∨ j = 1 ∨ j = 2 ∨ j = 3 by omega) with rfl | rfl | rfl | rfl <;> rfl) (Nat.le_of_ble_eq_true rfl) (Nat.le_of_ble_eq_true rfl) dX2_init_16 dX2_init_19 (fun H1 hp => va_runIN (As := []) ⟨hx, hb, hml, hown, hts⟩ (c_X0_init l B 159 30 (Or.inr rfl) (by decide)) ⟨va_cnB 0 hts gX2_init_X0_init_n20 rfl rfl rfl h3.2.2.2.2.1 (hts (.initialized RX0) (by decide +kernel)) (by decide +kernel) ⟨Nat.le_of_ble_eq_true rfl, Nat.le_of_ble_eq_true rfl⟩, rfl, (hts (.instanceMethod yX0_init) (by decide +kernel))⟩ hp rfl rfl hl.1 rfl (lv_room (Nat.le_of_ble_eq_true rfl)) dX2_init_20 ⟨Nat.le_of_ble_eq_true rfl, Nat.le_of_ble_eq_true rfl⟩) (fun H locs hH => ?_)
  refine w_putF (C := RX2) (T := TX2) (N := 3) hx hb hH hts hinX2 tyX2 tyX2_ok nmX2 hown rfl 1 (by decide) (hts (.fieldLink RX2 21 "DogTrials$Rehearsal" "course" "LDogTrials$Course;") (by decide +kernel)) (fun _ h9 => h9) rfl hnm0 rfl rfl rfl rfl (Nat.le_of_ble_eq_true rfl) dX2_init_23 (fun H locs hH => ?_)
  refine lv_aload_n hx hb dX2_init_26 rfl (lv_at hl 0 rfl) ?_
  refine lv_iconst (v := iZ 4) hx hb dX2_init_27 rfl ?_
  refine w_newa (k := 164) (N := 4) (atype := .int) hx hb hH (hts (.arrayClass .int) (by decide +kernel)) 0 rfl (fun h => h) (by decide) rfl rfl (fun j _ => rfl) rfl (by omega) (by decide) (by decide) (Nat.le_of_ble_eq_true rfl) (Nat.le_of_ble_eq_true rfl) dX2_init_28 (fun H hH => ?_)
  refine w_putF (C := RX2) (T := TX2) (N := 3) hx hb hH hts hinX2 tyX2 tyX2_ok nmX2 hown rfl 2 (by decide) (hts (.fieldLink RX2 25 "DogTrials$Rehearsal" "commands" "[I") (by decide +kernel)) (fun _ h9 => h9) rfl hnm0 rfl rfl rfl rfl (Nat.le_of_ble_eq_true rfl) dX2_init_30 (fun H locs hH => ?_)
  have hN := hH.whole (k := 163) (by decide) rfl rfl
  exact w_ret hx hb hr hlocks hN hH.2.2.1 hH.2.2.2.1 dX2_init_33
