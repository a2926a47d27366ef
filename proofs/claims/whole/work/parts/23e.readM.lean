set_option maxHeartbeats 4000000 in
set_option maxRecDepth 100000 in
theorem c_X6_eat (l : Launch) (G : gG) (M : Nat → Nat → Int) (hdm : ∀ k, k < 179 → gdm G k) (T : Nat → Int) (n ps : Nat) (hn : n ≤ 70) (hs : ps ≤ n) (hTx : M 170 = T) (h1 : M 169 2 = (n : Int)) (h2 : M 169 3 = (ps : Int)) (hch : ∀ j, j < n → 0 ≤ T j ∧ T j ≤ 255) (cd : Int) (hcd : 0 ≤ cd ∧ cd ≤ 255) : gMi l yX6_eat wsX6_eat ({ frames := 0, cells := 0, slots := 0, locals := 0 } : Room) G M [.ref (gad G 169), .int (iZ cd)] (fun z M1 => (ps < n ∧ T ps = cd ∧ z = 1 ∧ M1 = q_wr M 169 3 ((ps : Int) + 1)) ∨ (¬ (ps < n ∧ T ps = cd) ∧ z = 0 ∧ M1 = M)) := by
  refine gMi_of (cc := cX6_eat) (maxL := 3) (ret := some .boolean) (by decide) rfl (Nat.le_of_ble_eq_true rfl) ?_
  intro p e s m below meth c ls hx hb hr hml hown hts hlocks hl hG
  have hown : s.vm.findClass RX6 = some m.cls := hown
  have hl : lv_has ls 3 [(0, .ref (gad G 169)), (1, .int (iZ cd))] := hl
  have hinX6 : ∀ w ∈ u_ws RX6 TX6 13, w ∈ wsX6_eat := by decide +kernel
  have f7 := hts (.fieldLink RX6 7 "DogTrialsModel" "text" "[I") (by decide +kernel)
  have f99 := hts (.fieldLink RX6 99 "DogTrialsModel" "textSize" "I") (by decide +kernel)
  have f105 := hts (.fieldLink RX6 105 "DogTrialsModel" "spot" "I") (by decide +kernel)
  refine lv_aload_n hx hb dX6_eat_0 rfl (lv_at hl 0 rfl) ?_
  refine g_geti (z := (ps : Int)) hx hb hts hinX6 hown hG (o := 169) (hdm 169 (by decide)) rfl rfl 3 (by decide) f105 (fun _ h => h) rfl (by rw [h2] <;> omega) dX6_eat_1 ?_
  refine lv_aload_n hx hb dX6_eat_4 rfl (lv_at hl 0 rfl) ?_
  refine g_geti (z := (n : Int)) hx hb hts hinX6 hown hG (o := 169) (hdm 169 (by decide)) rfl rfl 2 (by decide) f99 (fun _ h => h) rfl h1 dX6_eat_5 ?_
  refine z_icmp_ge (tgt := 28) hx hb (by omega) (by omega) dX6_eat_8 (by decide) (fun c_8 => ?_) (fun c_8 => ?_)
  · skip
    refine lv_iconst (v := iZ 0) hx hb dX6_eat_28 rfl ?_
    refine lv_istore_n (lv' := [(2, .int (iZ 0)), (0, .ref (gad G 169)), (1, .int (iZ cd))]) hx hb dX6_eat_29 rfl hl (by decide) rfl (fun ls hl => ?_)
    refine lv_aload_n hx hb dX6_eat_30 rfl (lv_at hl 1 rfl) ?_
    refine lv_dup hx hb dX6_eat_31 rfl ?_
    refine g_geti (z := (ps : Int)) hx hb hts hinX6 hown hG (o := 169) (hdm 169 (by decide)) rfl rfl 3 (by decide) f105 (fun _ h => h) rfl (by rw [h2] <;> omega) dX6_eat_32 ?_
    refine lv_iload_n hx hb dX6_eat_35 rfl (lv_at hl 0 rfl) ?_
    refine z_if_eq (tgt := 43) hx hb (by decide) dX6_eat_36 (by decide) (fun c_36 => ?_) (fun c_36 => ?_)
    · skip
      refine lv_iconst (v := iZ 0) hx hb dX6_eat_43 rfl ?_
      refine z_iadd (z := (ps : Int)) hx hb (by omega) dX6_eat_44 ?_
      refine g_put (F := (oR G)) hx hb hts hinX6 tyX6 tyX6_ok nmX6 hown hG (o := 169) (hdm 169 (by decide)) (fun f => rfl) rfl 3 (by decide) f105 (fun _ h => h) rfl rfl (fun _ => Nat.lt_of_lt_of_le (by decide) (Nat.le_refl 13)) (fun _ => rfl) dX6_eat_45 (fun H locs hG => ?_)
      obtain ⟨M1, hM1⟩ : ∃ X, X = (q_wr M 169 3 (ps : Int)) := ⟨_, rfl⟩
      rw [← hM1] at hG
      refine lv_iload_n hx hb dX6_eat_48 rfl (lv_at hl 0 rfl) ?_
      exact g_zret (post := fun z M1 => (ps < n ∧ T ps = cd ∧ z = 1 ∧ M1 = q_wr M 169 3 ((ps : Int) + 1)) ∨ (¬ (ps < n ∧ T ps = cd) ∧ z = 0 ∧ M1 = M)) (z := 0) hx hb hr hG hlocks (Or.inl rfl) (Or.inr ⟨by omega, rfl, by rw [hM1]; exact q_wr_self h2⟩) dX6_eat_49
    · exfalso; omega
  · skip
    refine lv_aload_n hx hb dX6_eat_11 rfl (lv_at hl 0 rfl) ?_
    refine g_get hx hb hts hinX6 hown hG (o := 169) (hdm 169 (by decide)) rfl rfl 1 (by decide) f7 (fun _ h => h) rfl dX6_eat_12 ?_
    refine lv_aload_n hx hb dX6_eat_15 rfl (lv_at hl 0 rfl) ?_
    refine g_geti (z := (ps : Int)) hx hb hts hinX6 hown hG (o := 169) (hdm 169 (by decide)) rfl rfl 3 (by decide) f105 (fun _ h => h) rfl (by rw [h2] <;> omega) dX6_eat_16 ?_
    refine g_iald (z := (T ps)) (j := ps) hx hb hG (o := 170) (hdm 170 (by decide)) rfl (by omega) (by omega) (by omega) (by rw [hTx]) dX6_eat_19 ?_
    have hcs := hch ps (by omega)
    refine lv_iload_n hx hb dX6_eat_20 rfl (lv_at hl 1 rfl) ?_
    refine z_icmp_ne (tgt := 28) hx hb (by omega) (by omega) dX6_eat_21 (by decide) (fun c_21 => ?_) (fun c_21 => ?_)
    · skip
      refine lv_iconst (v := iZ 0) hx hb dX6_eat_28 rfl ?_
      refine lv_istore_n (lv' := [(2, .int (iZ 0)), (0, .ref (gad G 169)), (1, .int (iZ cd))]) hx hb dX6_eat_29 rfl hl (by decide) rfl (fun ls hl => ?_)
      refine lv_aload_n hx hb dX6_eat_30 rfl (lv_at hl 1 rfl) ?_
      refine lv_dup hx hb dX6_eat_31 rfl ?_
      refine g_geti (z := (ps : Int)) hx hb hts hinX6 hown hG (o := 169) (hdm 169 (by decide)) rfl rfl 3 (by decide) f105 (fun _ h => h) rfl (by rw [h2] <;> omega) dX6_eat_32 ?_
      refine lv_iload_n hx hb dX6_eat_35 rfl (lv_at hl 0 rfl) ?_
      refine z_if_eq (tgt := 43) hx hb (by decide) dX6_eat_36 (by decide) (fun c_36 => ?_) (fun c_36 => ?_)
      · skip
        refine lv_iconst (v := iZ 0) hx hb dX6_eat_43 rfl ?_
        refine z_iadd (z := (ps : Int)) hx hb (by omega) dX6_eat_44 ?_
        refine g_put (F := (oR G)) hx hb hts hinX6 tyX6 tyX6_ok nmX6 hown hG (o := 169) (hdm 169 (by decide)) (fun f => rfl) rfl 3 (by decide) f105 (fun _ h => h) rfl rfl (fun _ => Nat.lt_of_lt_of_le (by decide) (Nat.le_refl 13)) (fun _ => rfl) dX6_eat_45 (fun H locs hG => ?_)
        obtain ⟨M2, hM2⟩ : ∃ X, X = (q_wr M 169 3 (ps : Int)) := ⟨_, rfl⟩
        rw [← hM2] at hG
        refine lv_iload_n hx hb dX6_eat_48 rfl (lv_at hl 0 rfl) ?_
        exact g_zret (post := fun z M1 => (ps < n ∧ T ps = cd ∧ z = 1 ∧ M1 = q_wr M 169 3 ((ps : Int) + 1)) ∨ (¬ (ps < n ∧ T ps = cd) ∧ z = 0 ∧ M1 = M)) (z := 0) hx hb hr hG hlocks (Or.inl rfl) (Or.inr ⟨by omega, rfl, by rw [hM2]; exact q_wr_self h2⟩) dX6_eat_49
      · exfalso; omega
    · skip
      refine lv_iconst (v := iZ 1) hx hb dX6_eat_24 rfl ?_
      refine lv_goto (tgt := 29) hx hb dX6_eat_25 (by decide) ?_
      refine lv_istore_n (lv' := [(2, .int (iZ 1)), (0, .ref (gad G 169)), (1, .int (iZ cd))]) hx hb dX6_eat_29 rfl hl (by decide) rfl (fun ls hl => ?_)
      refine lv_aload_n hx hb dX6_eat_30 rfl (lv_at hl 1 rfl) ?_
      refine lv_dup hx hb dX6_eat_31 rfl ?_
      refine g_geti (z := (ps : Int)) hx hb hts hinX6 hown hG (o := 169) (hdm 169 (by decide)) rfl rfl 3 (by decide) f105 (fun _ h => h) rfl (by rw [h2] <;> omega) dX6_eat_32 ?_
      refine lv_iload_n hx hb dX6_eat_35 rfl (lv_at hl 0 rfl) ?_
      refine z_if_eq (tgt := 43) hx hb (by decide) dX6_eat_36 (by decide) (fun c_36 => ?_) (fun c_36 => ?_)
      · exfalso; omega
      · skip
        refine lv_iconst (v := iZ 1) hx hb dX6_eat_39 rfl ?_
        refine lv_goto (tgt := 44) hx hb dX6_eat_40 (by decide) ?_
        refine z_iadd (z := ((ps : Int) + 1)) hx hb (by omega) dX6_eat_44 ?_
        refine g_put (F := (oR G)) hx hb hts hinX6 tyX6 tyX6_ok nmX6 hown hG (o := 169) (hdm 169 (by decide)) (fun f => rfl) rfl 3 (by decide) f105 (fun _ h => h) rfl rfl (fun _ => Nat.lt_of_lt_of_le (by decide) (Nat.le_refl 13)) (fun _ => rfl) dX6_eat_45 (fun H locs hG => ?_)
        obtain ⟨M3, hM3⟩ : ∃ X, X = (q_wr M 169 3 ((ps : Int) + 1)) := ⟨_, rfl⟩
        rw [← hM3] at hG
        refine lv_iload_n hx hb dX6_eat_48 rfl (lv_at hl 0 rfl) ?_
        exact g_zret (post := fun z M1 => (ps < n ∧ T ps = cd ∧ z = 1 ∧ M1 = q_wr M 169 3 ((ps : Int) + 1)) ∨ (¬ (ps < n ∧ T ps = cd) ∧ z = 0 ∧ M1 = M)) (z := 1) hx hb hr hG hlocks (Or.inr rfl) (Or.inl ⟨by omega, by omega, rfl, hM3⟩) dX6_eat_49
set_option maxHeartbeats 4000000 in
set_option maxRecDepth 100000 in
theorem c_X6_digit (l : Launch) (G : gG) (M : Nat → Nat → Int) (hdm : ∀ k, k < 179 → gdm G k) (T : Nat → Int) (n ps : Nat) (hn : n ≤ 70) (hs : ps ≤ n) (hTx : M 170 = T) (h1 : M 169 2 = (n : Int)) (h2 : M 169 3 = (ps : Int)) (hch : ∀ j, j < n → 0 ≤ T j ∧ T j ≤ 255) (lo hi : Int) (hlo : 0 ≤ lo ∧ lo ≤ 9) (hhi : 0 ≤ hi ∧ hi ≤ 9) : gMi l yX6_digit wsX6_digit ({ frames := 1, cells := 0, slots := 0, locals := 25 } : Room) G M [.ref (gad G 169), .int (iZ lo), .int (iZ hi)] (fun z M1 => (0 ≤ q_dgt T n ps ∧ lo ≤ q_dgt T n ps ∧ q_dgt T n ps ≤ hi ∧ z = q_dgt T n ps ∧ M1 = q_wr M 169 3 ((ps : Int) + 1)) ∨ (¬ (0 ≤ q_dgt T n ps ∧ lo ≤ q_dgt T n ps ∧ q_dgt T n ps ≤ hi) ∧ z = -9 ∧ M1 = M)) := by
  refine gMi_of (cc := cX6_digit) (maxL := 5) (ret := some .int) (by decide) rfl (Nat.le_of_ble_eq_true rfl) ?_
  intro p e s m below meth c ls hx hb hr hml hown hts hlocks hl hG
  have hown : s.vm.findClass RX6 = some m.cls := hown
  have hl : lv_has ls 5 [(0, .ref (gad G 169)), (1, .int (iZ lo)), (2, .int (iZ hi))] := hl
  have hinX6 : ∀ w ∈ u_ws RX6 TX6 13, w ∈ wsX6_digit := by decide +kernel
  have f7 := hts (.fieldLink RX6 7 "DogTrialsModel" "text" "[I") (by decide +kernel)
  have f99 := hts (.fieldLink RX6 99 "DogTrialsModel" "textSize" "I") (by decide +kernel)
  have f105 := hts (.fieldLink RX6 105 "DogTrialsModel" "spot" "I") (by decide +kernel)
  refine lv_aload_n hx hb dX6_digit_0 rfl (lv_at hl 0 rfl) ?_
  refine g_geti (z := (ps : Int)) hx hb hts hinX6 hown hG (o := 169) (hdm 169 (by decide)) rfl rfl 3 (by decide) f105 (fun _ h => h) rfl (by rw [h2] <;> omega) dX6_digit_1 ?_
  refine lv_aload_n hx hb dX6_digit_4 rfl (lv_at hl 0 rfl) ?_
  refine g_geti (z := (n : Int)) hx hb hts hinX6 hown hG (o := 169) (hdm 169 (by decide)) rfl rfl 2 (by decide) f99 (fun _ h => h) rfl h1 dX6_digit_5 ?_
  refine z_icmp_ge (tgt := 26) hx hb (by omega) (by omega) dX6_digit_8 (by decide) (fun c_8 => ?_) (fun c_8 => ?_)
  · skip
    refine lv_iconst (v := iZ (-1)) hx hb dX6_digit_26 rfl ?_
    refine lv_istore_n (lv' := [(3, .int (iZ (-1))), (0, .ref (gad G 169)), (1, .int (iZ lo)), (2, .int (iZ hi))]) hx hb dX6_digit_27 rfl hl (by decide) rfl (fun ls hl => ?_)
    refine lv_iload_n hx hb dX6_digit_28 rfl (lv_at hl 0 rfl) ?_
    refine z_i2l hx hb (by decide) dX6_digit_29 ?_
    refine lv_lconst (v := lZ 0) hx hb dX6_digit_30 rfl ?_
    refine lv_ldc2 (v := lZ 9) hx hb hown (by rw [show lZ 9 = (9 : Int64) from by decide]; exact hts (.constantLong RX6 108 9) (by decide +kernel)) dX6_digit_31 ?_
    refine g_callS (As := [.long (lZ (-1)), .long (lZ 0), .long (lZ 9)]) (rest := []) ⟨hx, hb, hml, hown, hts⟩ (c_X6_in l G M (-1) 0 9 (by omega) (by omega) (by omega)) (va_cwS 3 hts gX6_digit_X6_in rfl rfl rfl (by decide +kernel) ⟨Nat.le_of_ble_eq_true rfl, Nat.le_of_ble_eq_true rfl⟩) hG rfl hl.1 rfl (Nat.le_of_ble_eq_true rfl) dX6_digit_34 ⟨Nat.zero_le _, Nat.zero_le _⟩ (fun z1 M2 H locs hp_34 hG => ?_)
    obtain ⟨hz_34, hM_34⟩ := hp_34; replace hz_34 := hz_34.symm; subst hz_34; replace hM_34 := hM_34.symm; subst hM_34
    refine z_ifP_eq (tgt := 56) hx hb dX6_digit_37 (by decide) (fun c_37 => ?_) (fun c_37 => ?_)
    · skip
      refine lv_iconst (v := iZ 0) hx hb dX6_digit_56 rfl ?_
      refine lv_istore (lv' := [(4, .int (iZ 0)), (3, .int (iZ (-1))), (0, .ref (gad G 169)), (1, .int (iZ lo)), (2, .int (iZ hi))]) hx hb dX6_digit_57 hl (by decide) rfl (fun ls hl => ?_)
      refine lv_aload_n hx hb dX6_digit_59 rfl (lv_at hl 2 rfl) ?_
      refine lv_dup hx hb dX6_digit_60 rfl ?_
      refine g_geti (z := (ps : Int)) hx hb hts hinX6 hown hG (o := 169) (hdm 169 (by decide)) rfl rfl 3 (by decide) f105 (fun _ h => h) rfl (by rw [h2] <;> omega) dX6_digit_61 ?_
      refine lv_iload hx hb dX6_digit_64 (lv_at hl 0 rfl) ?_
      refine z_if_eq (tgt := 73) hx hb (by decide) dX6_digit_66 (by decide) (fun c_66 => ?_) (fun c_66 => ?_)
      · skip
        refine lv_iconst (v := iZ 0) hx hb dX6_digit_73 rfl ?_
        refine z_iadd (z := (ps : Int)) hx hb (by omega) dX6_digit_74 ?_
        refine g_put (F := (oR G)) hx hb hts hinX6 tyX6 tyX6_ok nmX6 hown hG (o := 169) (hdm 169 (by decide)) (fun f => rfl) rfl 3 (by decide) f105 (fun _ h => h) rfl rfl (fun _ => Nat.lt_of_lt_of_le (by decide) (Nat.le_refl 13)) (fun _ => rfl) dX6_digit_75 (fun H locs hG => ?_)
        obtain ⟨M3, hM3⟩ : ∃ X, X = (q_wr M 169 3 (ps : Int)) := ⟨_, rfl⟩
        rw [← hM3] at hG
        refine lv_iload hx hb dX6_digit_78 (lv_at hl 0 rfl) ?_
        refine z_if_eq (tgt := 87) hx hb (by decide) dX6_digit_80 (by decide) (fun c_80 => ?_) (fun c_80 => ?_)
        · skip
          refine lv_bipush (v := iZ (-9)) hx hb dX6_digit_87 (by decide) ?_
          have hdv : (ps < n ∧ 48 ≤ T ps ∧ T ps ≤ 57 ∧ q_dgt T n ps = T ps - 48) ∨ (¬ (ps < n ∧ 48 ≤ T ps ∧ T ps ≤ 57) ∧ q_dgt T n ps = -9) := by
            by_cases h9 : ps < n ∧ 48 ≤ T ps ∧ T ps ≤ 57
            · exact Or.inl ⟨h9.1, h9.2.1, h9.2.2, q_dgt_pos h9.1 h9.2.1 h9.2.2⟩
            · exact Or.inr ⟨h9, q_dgt_neg h9⟩
          exact g_iret (post := fun z M1 => (0 ≤ q_dgt T n ps ∧ lo ≤ q_dgt T n ps ∧ q_dgt T n ps ≤ hi ∧ z = q_dgt T n ps ∧ M1 = q_wr M 169 3 ((ps : Int) + 1)) ∨ (¬ (0 ≤ q_dgt T n ps ∧ lo ≤ q_dgt T n ps ∧ q_dgt T n ps ≤ hi) ∧ z = -9 ∧ M1 = M)) (z := (-9)) hx hb hr hG hlocks (Or.inr ⟨by omega, rfl, by rw [hM3]; exact q_wr_self h2⟩) dX6_digit_89
        · exfalso; omega
      · exfalso; omega
    · skip
      refine lv_iload_n hx hb dX6_digit_40 rfl (lv_at hl 0 rfl) ?_
      refine z_i2l hx hb (by decide) dX6_digit_41 ?_
      refine lv_iload_n hx hb dX6_digit_42 rfl (lv_at hl 2 rfl) ?_
      refine z_i2l hx hb (by omega) dX6_digit_43 ?_
      refine lv_iload_n hx hb dX6_digit_44 rfl (lv_at hl 3 rfl) ?_
      refine z_i2l hx hb (by omega) dX6_digit_45 ?_
      refine g_callS (As := [.long (lZ (-1)), .long (lZ lo), .long (lZ hi)]) (rest := []) ⟨hx, hb, hml, hown, hts⟩ (c_X6_in l G M (-1) lo hi (by omega) (by omega) (by omega)) (va_cwS 3 hts gX6_digit_X6_in rfl rfl rfl (by decide +kernel) ⟨Nat.le_of_ble_eq_true rfl, Nat.le_of_ble_eq_true rfl⟩) hG rfl hl.1 rfl (Nat.le_of_ble_eq_true rfl) dX6_digit_46 ⟨Nat.zero_le _, Nat.zero_le _⟩ (fun z4 M5 H locs hp_46 hG => ?_)
      obtain ⟨hz_46, hM_46⟩ := hp_46; replace hz_46 := hz_46.symm; subst hz_46; replace hM_46 := hM_46.symm; subst hM_46
      refine z_ifP_eq (tgt := 56) hx hb dX6_digit_49 (by decide) (fun c_49 => ?_) (fun c_49 => ?_)
      · skip
        refine lv_iconst (v := iZ 0) hx hb dX6_digit_56 rfl ?_
        refine lv_istore (lv' := [(4, .int (iZ 0)), (3, .int (iZ (-1))), (0, .ref (gad G 169)), (1, .int (iZ lo)), (2, .int (iZ hi))]) hx hb dX6_digit_57 hl (by decide) rfl (fun ls hl => ?_)
        refine lv_aload_n hx hb dX6_digit_59 rfl (lv_at hl 2 rfl) ?_
        refine lv_dup hx hb dX6_digit_60 rfl ?_
        refine g_geti (z := (ps : Int)) hx hb hts hinX6 hown hG (o := 169) (hdm 169 (by decide)) rfl rfl 3 (by decide) f105 (fun _ h => h) rfl (by rw [h2] <;> omega) dX6_digit_61 ?_
        refine lv_iload hx hb dX6_digit_64 (lv_at hl 0 rfl) ?_
        refine z_if_eq (tgt := 73) hx hb (by decide) dX6_digit_66 (by decide) (fun c_66 => ?_) (fun c_66 => ?_)
        · skip
          refine lv_iconst (v := iZ 0) hx hb dX6_digit_73 rfl ?_
          refine z_iadd (z := (ps : Int)) hx hb (by omega) dX6_digit_74 ?_
          refine g_put (F := (oR G)) hx hb hts hinX6 tyX6 tyX6_ok nmX6 hown hG (o := 169) (hdm 169 (by decide)) (fun f => rfl) rfl 3 (by decide) f105 (fun _ h => h) rfl rfl (fun _ => Nat.lt_of_lt_of_le (by decide) (Nat.le_refl 13)) (fun _ => rfl) dX6_digit_75 (fun H locs hG => ?_)
          obtain ⟨M6, hM6⟩ : ∃ X, X = (q_wr M 169 3 (ps : Int)) := ⟨_, rfl⟩
          rw [← hM6] at hG
          refine lv_iload hx hb dX6_digit_78 (lv_at hl 0 rfl) ?_
          refine z_if_eq (tgt := 87) hx hb (by decide) dX6_digit_80 (by decide) (fun c_80 => ?_) (fun c_80 => ?_)
          · skip
            refine lv_bipush (v := iZ (-9)) hx hb dX6_digit_87 (by decide) ?_
            have hdv : (ps < n ∧ 48 ≤ T ps ∧ T ps ≤ 57 ∧ q_dgt T n ps = T ps - 48) ∨ (¬ (ps < n ∧ 48 ≤ T ps ∧ T ps ≤ 57) ∧ q_dgt T n ps = -9) := by
              by_cases h9 : ps < n ∧ 48 ≤ T ps ∧ T ps ≤ 57
              · exact Or.inl ⟨h9.1, h9.2.1, h9.2.2, q_dgt_pos h9.1 h9.2.1 h9.2.2⟩
              · exact Or.inr ⟨h9, q_dgt_neg h9⟩
            exact g_iret (post := fun z M1 => (0 ≤ q_dgt T n ps ∧ lo ≤ q_dgt T n ps ∧ q_dgt T n ps ≤ hi ∧ z = q_dgt T n ps ∧ M1 = q_wr M 169 3 ((ps : Int) + 1)) ∨ (¬ (0 ≤ q_dgt T n ps ∧ lo ≤ q_dgt T n ps ∧ q_dgt T n ps ≤ hi) ∧ z = -9 ∧ M1 = M)) (z := (-9)) hx hb hr hG hlocks (Or.inr ⟨by omega, rfl, by rw [hM6]; exact q_wr_self h2⟩) dX6_digit_89
          · exfalso; omega
        · exfalso; omega
      · skip
        refine lv_iconst (v := iZ 1) hx hb dX6_digit_52 rfl ?_
        refine lv_goto (tgt := 57) hx hb dX6_digit_53 (by decide) ?_
        refine lv_istore (lv' := [(4, .int (iZ 1)), (3, .int (iZ (-1))), (0, .ref (gad G 169)), (1, .int (iZ lo)), (2, .int (iZ hi))]) hx hb dX6_digit_57 hl (by decide) rfl (fun ls hl => ?_)
        refine lv_aload_n hx hb dX6_digit_59 rfl (lv_at hl 2 rfl) ?_
        refine lv_dup hx hb dX6_digit_60 rfl ?_
        refine g_geti (z := (ps : Int)) hx hb hts hinX6 hown hG (o := 169) (hdm 169 (by decide)) rfl rfl 3 (by decide) f105 (fun _ h => h) rfl (by rw [h2] <;> omega) dX6_digit_61 ?_
        refine lv_iload hx hb dX6_digit_64 (lv_at hl 0 rfl) ?_
        refine z_if_eq (tgt := 73) hx hb (by decide) dX6_digit_66 (by decide) (fun c_66 => ?_) (fun c_66 => ?_)
        · exfalso; omega
        · skip
          refine lv_iconst (v := iZ 1) hx hb dX6_digit_69 rfl ?_
          refine lv_goto (tgt := 74) hx hb dX6_digit_70 (by decide) ?_
          refine z_iadd (z := ((ps : Int) + 1)) hx hb (by omega) dX6_digit_74 ?_
          refine g_put (F := (oR G)) hx hb hts hinX6 tyX6 tyX6_ok nmX6 hown hG (o := 169) (hdm 169 (by decide)) (fun f => rfl) rfl 3 (by decide) f105 (fun _ h => h) rfl rfl (fun _ => Nat.lt_of_lt_of_le (by decide) (Nat.le_refl 13)) (fun _ => rfl) dX6_digit_75 (fun H locs hG => ?_)
          obtain ⟨M7, hM7⟩ : ∃ X, X = (q_wr M 169 3 ((ps : Int) + 1)) := ⟨_, rfl⟩
          rw [← hM7] at hG
          refine lv_iload hx hb dX6_digit_78 (lv_at hl 0 rfl) ?_
          refine z_if_eq (tgt := 87) hx hb (by decide) dX6_digit_80 (by decide) (fun c_80 => ?_) (fun c_80 => ?_)
          · exfalso; omega
          · skip
            refine lv_iload_n hx hb dX6_digit_83 rfl (lv_at hl 1 rfl) ?_
            refine lv_goto (tgt := 89) hx hb dX6_digit_84 (by decide) ?_
            have hdv : (ps < n ∧ 48 ≤ T ps ∧ T ps ≤ 57 ∧ q_dgt T n ps = T ps - 48) ∨ (¬ (ps < n ∧ 48 ≤ T ps ∧ T ps ≤ 57) ∧ q_dgt T n ps = -9) := by
              by_cases h9 : ps < n ∧ 48 ≤ T ps ∧ T ps ≤ 57
              · exact Or.inl ⟨h9.1, h9.2.1, h9.2.2, q_dgt_pos h9.1 h9.2.1 h9.2.2⟩
              · exact Or.inr ⟨h9, q_dgt_neg h9⟩
            exact g_iret (post := fun z M1 => (0 ≤ q_dgt T n ps ∧ lo ≤ q_dgt T n ps ∧ q_dgt T n ps ≤ hi ∧ z = q_dgt T n ps ∧ M1 = q_wr M 169 3 ((ps : Int) + 1)) ∨ (¬ (0 ≤ q_dgt T n ps ∧ lo ≤ q_dgt T n ps ∧ q_dgt T n ps ≤ hi) ∧ z = -9 ∧ M1 = M)) (z := (-1)) hx hb hr hG hlocks (Or.inl ⟨by omega, by omega, by omega, by omega, hM7⟩) dX6_digit_89
  · skip
    refine lv_aload_n hx hb dX6_digit_11 rfl (lv_at hl 0 rfl) ?_
    refine g_get hx hb hts hinX6 hown hG (o := 169) (hdm 169 (by decide)) rfl rfl 1 (by decide) f7 (fun _ h => h) rfl dX6_digit_12 ?_
    refine lv_aload_n hx hb dX6_digit_15 rfl (lv_at hl 0 rfl) ?_
    refine g_geti (z := (ps : Int)) hx hb hts hinX6 hown hG (o := 169) (hdm 169 (by decide)) rfl rfl 3 (by decide) f105 (fun _ h => h) rfl (by rw [h2] <;> omega) dX6_digit_16 ?_
    refine g_iald (z := (T ps)) (j := ps) hx hb hG (o := 170) (hdm 170 (by decide)) rfl (by omega) (by omega) (by omega) (by rw [hTx]) dX6_digit_19 ?_
    have hcs := hch ps (by omega)
    refine lv_bipush (v := iZ (48)) hx hb dX6_digit_20 (by decide) ?_
    refine z_isub (z := ((T ps) - 48)) hx hb (by omega) dX6_digit_22 ?_
    refine lv_goto (tgt := 27) hx hb dX6_digit_23 (by decide) ?_
    refine lv_istore_n (lv' := [(3, .int (iZ ((T ps) - 48))), (0, .ref (gad G 169)), (1, .int (iZ lo)), (2, .int (iZ hi))]) hx hb dX6_digit_27 rfl hl (by decide) rfl (fun ls hl => ?_)
    refine lv_iload_n hx hb dX6_digit_28 rfl (lv_at hl 0 rfl) ?_
    refine z_i2l hx hb (by omega) dX6_digit_29 ?_
    refine lv_lconst (v := lZ 0) hx hb dX6_digit_30 rfl ?_
    refine lv_ldc2 (v := lZ 9) hx hb hown (by rw [show lZ 9 = (9 : Int64) from by decide]; exact hts (.constantLong RX6 108 9) (by decide +kernel)) dX6_digit_31 ?_
    refine g_callS (As := [.long (lZ ((T ps) - 48)), .long (lZ 0), .long (lZ 9)]) (rest := []) ⟨hx, hb, hml, hown, hts⟩ (c_X6_in l G M ((T ps) - 48) 0 9 (by omega) (by omega) (by omega)) (va_cwS 3 hts gX6_digit_X6_in rfl rfl rfl (by decide +kernel) ⟨Nat.le_of_ble_eq_true rfl, Nat.le_of_ble_eq_true rfl⟩) hG rfl hl.1 rfl (Nat.le_of_ble_eq_true rfl) dX6_digit_34 ⟨Nat.zero_le _, Nat.zero_le _⟩ (fun z8 M9 H locs hp_34 hG => ?_)
    obtain ⟨hz_34, hM_34⟩ := hp_34; replace hz_34 := hz_34.symm; subst hz_34; replace hM_34 := hM_34.symm; subst hM_34
    refine z_ifP_eq (tgt := 56) hx hb dX6_digit_37 (by decide) (fun c_37 => ?_) (fun c_37 => ?_)
    · skip
      refine lv_iconst (v := iZ 0) hx hb dX6_digit_56 rfl ?_
      refine lv_istore (lv' := [(4, .int (iZ 0)), (3, .int (iZ ((T ps) - 48))), (0, .ref (gad G 169)), (1, .int (iZ lo)), (2, .int (iZ hi))]) hx hb dX6_digit_57 hl (by decide) rfl (fun ls hl => ?_)
      refine lv_aload_n hx hb dX6_digit_59 rfl (lv_at hl 2 rfl) ?_
      refine lv_dup hx hb dX6_digit_60 rfl ?_
      refine g_geti (z := (ps : Int)) hx hb hts hinX6 hown hG (o := 169) (hdm 169 (by decide)) rfl rfl 3 (by decide) f105 (fun _ h => h) rfl (by rw [h2] <;> omega) dX6_digit_61 ?_
      refine lv_iload hx hb dX6_digit_64 (lv_at hl 0 rfl) ?_
      refine z_if_eq (tgt := 73) hx hb (by decide) dX6_digit_66 (by decide) (fun c_66 => ?_) (fun c_66 => ?_)
      · skip
        refine lv_iconst (v := iZ 0) hx hb dX6_digit_73 rfl ?_
        refine z_iadd (z := (ps : Int)) hx hb (by omega) dX6_digit_74 ?_
        refine g_put (F := (oR G)) hx hb hts hinX6 tyX6 tyX6_ok nmX6 hown hG (o := 169) (hdm 169 (by decide)) (fun f => rfl) rfl 3 (by decide) f105 (fun _ h => h) rfl rfl (fun _ => Nat.lt_of_lt_of_le (by decide) (Nat.le_refl 13)) (fun _ => rfl) dX6_digit_75 (fun H locs hG => ?_)
        obtain ⟨M10, hM10⟩ : ∃ X, X = (q_wr M 169 3 (ps : Int)) := ⟨_, rfl⟩
        rw [← hM10] at hG
        refine lv_iload hx hb dX6_digit_78 (lv_at hl 0 rfl) ?_
        refine z_if_eq (tgt := 87) hx hb (by decide) dX6_digit_80 (by decide) (fun c_80 => ?_) (fun c_80 => ?_)
        · skip
          refine lv_bipush (v := iZ (-9)) hx hb dX6_digit_87 (by decide) ?_
          have hdv : (ps < n ∧ 48 ≤ T ps ∧ T ps ≤ 57 ∧ q_dgt T n ps = T ps - 48) ∨ (¬ (ps < n ∧ 48 ≤ T ps ∧ T ps ≤ 57) ∧ q_dgt T n ps = -9) := by
            by_cases h9 : ps < n ∧ 48 ≤ T ps ∧ T ps ≤ 57
            · exact Or.inl ⟨h9.1, h9.2.1, h9.2.2, q_dgt_pos h9.1 h9.2.1 h9.2.2⟩
            · exact Or.inr ⟨h9, q_dgt_neg h9⟩
          exact g_iret (post := fun z M1 => (0 ≤ q_dgt T n ps ∧ lo ≤ q_dgt T n ps ∧ q_dgt T n ps ≤ hi ∧ z = q_dgt T n ps ∧ M1 = q_wr M 169 3 ((ps : Int) + 1)) ∨ (¬ (0 ≤ q_dgt T n ps ∧ lo ≤ q_dgt T n ps ∧ q_dgt T n ps ≤ hi) ∧ z = -9 ∧ M1 = M)) (z := (-9)) hx hb hr hG hlocks (Or.inr ⟨by omega, rfl, by rw [hM10]; exact q_wr_self h2⟩) dX6_digit_89
        · exfalso; omega
      · exfalso; omega
    · skip
      refine lv_iload_n hx hb dX6_digit_40 rfl (lv_at hl 0 rfl) ?_
      refine z_i2l hx hb (by omega) dX6_digit_41 ?_
      refine lv_iload_n hx hb dX6_digit_42 rfl (lv_at hl 2 rfl) ?_
      refine z_i2l hx hb (by omega) dX6_digit_43 ?_
      refine lv_iload_n hx hb dX6_digit_44 rfl (lv_at hl 3 rfl) ?_
      refine z_i2l hx hb (by omega) dX6_digit_45 ?_
      refine g_callS (As := [.long (lZ ((T ps) - 48)), .long (lZ lo), .long (lZ hi)]) (rest := []) ⟨hx, hb, hml, hown, hts⟩ (c_X6_in l G M ((T ps) - 48) lo hi (by omega) (by omega) (by omega)) (va_cwS 3 hts gX6_digit_X6_in rfl rfl rfl (by decide +kernel) ⟨Nat.le_of_ble_eq_true rfl, Nat.le_of_ble_eq_true rfl⟩) hG rfl hl.1 rfl (Nat.le_of_ble_eq_true rfl) dX6_digit_46 ⟨Nat.zero_le _, Nat.zero_le _⟩ (fun z11 M12 H locs hp_46 hG => ?_)
      obtain ⟨hz_46, hM_46⟩ := hp_46; replace hz_46 := hz_46.symm; subst hz_46; replace hM_46 := hM_46.symm; subst hM_46
      refine z_ifP_eq (tgt := 56) hx hb dX6_digit_49 (by decide) (fun c_49 => ?_) (fun c_49 => ?_)
      · skip
        refine lv_iconst (v := iZ 0) hx hb dX6_digit_56 rfl ?_
        refine lv_istore (lv' := [(4, .int (iZ 0)), (3, .int (iZ ((T ps) - 48))), (0, .ref (gad G 169)), (1, .int (iZ lo)), (2, .int (iZ hi))]) hx hb dX6_digit_57 hl (by decide) rfl (fun ls hl => ?_)
        refine lv_aload_n hx hb dX6_digit_59 rfl (lv_at hl 2 rfl) ?_
        refine lv_dup hx hb dX6_digit_60 rfl ?_
        refine g_geti (z := (ps : Int)) hx hb hts hinX6 hown hG (o := 169) (hdm 169 (by decide)) rfl rfl 3 (by decide) f105 (fun _ h => h) rfl (by rw [h2] <;> omega) dX6_digit_61 ?_
        refine lv_iload hx hb dX6_digit_64 (lv_at hl 0 rfl) ?_
        refine z_if_eq (tgt := 73) hx hb (by decide) dX6_digit_66 (by decide) (fun c_66 => ?_) (fun c_66 => ?_)
        · skip
          refine lv_iconst (v := iZ 0) hx hb dX6_digit_73 rfl ?_
          refine z_iadd (z := (ps : Int)) hx hb (by omega) dX6_digit_74 ?_
          refine g_put (F := (oR G)) hx hb hts hinX6 tyX6 tyX6_ok nmX6 hown hG (o := 169) (hdm 169 (by decide)) (fun f => rfl) rfl 3 (by decide) f105 (fun _ h => h) rfl rfl (fun _ => Nat.lt_of_lt_of_le (by decide) (Nat.le_refl 13)) (fun _ => rfl) dX6_digit_75 (fun H locs hG => ?_)
          obtain ⟨M13, hM13⟩ : ∃ X, X = (q_wr M 169 3 (ps : Int)) := ⟨_, rfl⟩
          rw [← hM13] at hG
          refine lv_iload hx hb dX6_digit_78 (lv_at hl 0 rfl) ?_
          refine z_if_eq (tgt := 87) hx hb (by decide) dX6_digit_80 (by decide) (fun c_80 => ?_) (fun c_80 => ?_)
          · skip
            refine lv_bipush (v := iZ (-9)) hx hb dX6_digit_87 (by decide) ?_
            have hdv : (ps < n ∧ 48 ≤ T ps ∧ T ps ≤ 57 ∧ q_dgt T n ps = T ps - 48) ∨ (¬ (ps < n ∧ 48 ≤ T ps ∧ T ps ≤ 57) ∧ q_dgt T n ps = -9) := by
              by_cases h9 : ps < n ∧ 48 ≤ T ps ∧ T ps ≤ 57
              · exact Or.inl ⟨h9.1, h9.2.1, h9.2.2, q_dgt_pos h9.1 h9.2.1 h9.2.2⟩
              · exact Or.inr ⟨h9, q_dgt_neg h9⟩
            exact g_iret (post := fun z M1 => (0 ≤ q_dgt T n ps ∧ lo ≤ q_dgt T n ps ∧ q_dgt T n ps ≤ hi ∧ z = q_dgt T n ps ∧ M1 = q_wr M 169 3 ((ps : Int) + 1)) ∨ (¬ (0 ≤ q_dgt T n ps ∧ lo ≤ q_dgt T n ps ∧ q_dgt T n ps ≤ hi) ∧ z = -9 ∧ M1 = M)) (z := (-9)) hx hb hr hG hlocks (Or.inr ⟨by omega, rfl, by rw [hM13]; exact q_wr_self h2⟩) dX6_digit_89
          · exfalso; omega
        · exfalso; omega
      · skip
        refine lv_iconst (v := iZ 1) hx hb dX6_digit_52 rfl ?_
        refine lv_goto (tgt := 57) hx hb dX6_digit_53 (by decide) ?_
        refine lv_istore (lv' := [(4, .int (iZ 1)), (3, .int (iZ ((T ps) - 48))), (0, .ref (gad G 169)), (1, .int (iZ lo)), (2, .int (iZ hi))]) hx hb dX6_digit_57 hl (by decide) rfl (fun ls hl => ?_)
        refine lv_aload_n hx hb dX6_digit_59 rfl (lv_at hl 2 rfl) ?_
        refine lv_dup hx hb dX6_digit_60 rfl ?_
        refine g_geti (z := (ps : Int)) hx hb hts hinX6 hown hG (o := 169) (hdm 169 (by decide)) rfl rfl 3 (by decide) f105 (fun _ h => h) rfl (by rw [h2] <;> omega) dX6_digit_61 ?_
        refine lv_iload hx hb dX6_digit_64 (lv_at hl 0 rfl) ?_
        refine z_if_eq (tgt := 73) hx hb (by decide) dX6_digit_66 (by decide) (fun c_66 => ?_) (fun c_66 => ?_)
        · exfalso; omega
        · skip
          refine lv_iconst (v := iZ 1) hx hb dX6_digit_69 rfl ?_
          refine lv_goto (tgt := 74) hx hb dX6_digit_70 (by decide) ?_
          refine z_iadd (z := ((ps : Int) + 1)) hx hb (by omega) dX6_digit_74 ?_
          refine g_put (F := (oR G)) hx hb hts hinX6 tyX6 tyX6_ok nmX6 hown hG (o := 169) (hdm 169 (by decide)) (fun f => rfl) rfl 3 (by decide) f105 (fun _ h => h) rfl rfl (fun _ => Nat.lt_of_lt_of_le (by decide) (Nat.le_refl 13)) (fun _ => rfl) dX6_digit_75 (fun H locs hG => ?_)
          obtain ⟨M14, hM14⟩ : ∃ X, X = (q_wr M 169 3 ((ps : Int) + 1)) := ⟨_, rfl⟩
          rw [← hM14] at hG
          refine lv_iload hx hb dX6_digit_78 (lv_at hl 0 rfl) ?_
          refine z_if_eq (tgt := 87) hx hb (by decide) dX6_digit_80 (by decide) (fun c_80 => ?_) (fun c_80 => ?_)
          · exfalso; omega
          · skip
            refine lv_iload_n hx hb dX6_digit_83 rfl (lv_at hl 1 rfl) ?_
            refine lv_goto (tgt := 89) hx hb dX6_digit_84 (by decide) ?_
            have hdv : (ps < n ∧ 48 ≤ T ps ∧ T ps ≤ 57 ∧ q_dgt T n ps = T ps - 48) ∨ (¬ (ps < n ∧ 48 ≤ T ps ∧ T ps ≤ 57) ∧ q_dgt T n ps = -9) := by
              by_cases h9 : ps < n ∧ 48 ≤ T ps ∧ T ps ≤ 57
              · exact Or.inl ⟨h9.1, h9.2.1, h9.2.2, q_dgt_pos h9.1 h9.2.1 h9.2.2⟩
              · exact Or.inr ⟨h9, q_dgt_neg h9⟩
            exact g_iret (post := fun z M1 => (0 ≤ q_dgt T n ps ∧ lo ≤ q_dgt T n ps ∧ q_dgt T n ps ≤ hi ∧ z = q_dgt T n ps ∧ M1 = q_wr M 169 3 ((ps : Int) + 1)) ∨ (¬ (0 ≤ q_dgt T n ps ∧ lo ≤ q_dgt T n ps ∧ q_dgt T n ps ≤ hi) ∧ z = -9 ∧ M1 = M)) (z := ((T ps) - 48)) hx hb hr hG hlocks (Or.inl ⟨by omega, by omega, by omega, by omega, hM14⟩) dX6_digit_89
set_option maxHeartbeats 4000000 in
set_option maxRecDepth 100000 in
theorem c_X6_readSunset (l : Launch) (G : gG) (M : Nat → Nat → Int) (hdm : ∀ k, k < 179 → gdm G k) (T : Nat → Int) (n ps : Nat) (hn : n ≤ 70) (hs : ps ≤ n) (hTx : M 170 = T) (h1 : M 169 2 = (n : Int)) (h2 : M 169 3 = (ps : Int)) (hch : ∀ j, j < n → 0 ≤ T j ∧ T j ≤ 255) (hI : q_inv (M 171)) : gMi l yX6_readSunset wsX6_readSunset ({ frames := 2, cells := 0, slots := 0, locals := 49 } : Room) G M [.ref (gad G 169)] (fun z M1 => z = (if q_sn T n ps = 3 then 1 else 0) ∧ M1 169 3 = ((ps + q_sn T n ps : Nat) : Int) ∧ q_fm M M1 ∧ (q_sn T n ps = 3 → M1 171 = q_sun (M 171) (q_sv T n ps))) := by
  refine gMi_of (cc := cX6_readSunset) (maxL := 4) (ret := some .boolean) (by decide) rfl (Nat.le_of_ble_eq_true rfl) ?_
  intro p e s m below meth c ls hx hb hr hml hown hts hlocks hl hG
  have hown : s.vm.findClass RX6 = some m.cls := hown
  have hl : lv_has ls 4 [(0, .ref (gad G 169))] := hl
  have hinX6 : ∀ w ∈ u_ws RX6 TX6 13, w ∈ wsX6_readSunset := by decide +kernel
  have f13 := hts (.fieldLink RX6 13 "DogTrialsModel" "read" "[I") (by decide +kernel)
  refine lv_aload_n hx hb dX6_readSunset_0 rfl (lv_at hl 0 rfl) ?_
  refine lv_iconst (v := iZ 0) hx hb dX6_readSunset_1 rfl ?_
  refine lv_bipush (v := iZ (6)) hx hb dX6_readSunset_2 (by decide) ?_
  refine g_callV (b := 169) (As := [.int (iZ 0), .int (iZ 6)]) (rest := []) ⟨hx, hb, hml, hown, hts⟩ (c_X6_digit l G M hdm T n ps hn (by omega) hTx h1 h2 hch 0 6 (by omega) (by omega)) (cwV 2 hts gX6_readSunset_X6_digit rfl rfl rfl (by decide +kernel) ⟨Nat.le_of_ble_eq_true rfl, Nat.le_of_ble_eq_true rfl⟩) hG (g_recv hG (b := 169) (hdm 169 (by decide)) rfl rfl) rfl hl.1 rfl (Nat.le_of_ble_eq_true rfl) dX6_readSunset_4 ⟨Nat.zero_le _, Nat.zero_le _⟩ (fun z1 M2 H locs hp_4 hG => ?_)
  rcases hp_4 with ⟨ha_4, hb1_4, hb2_4, hz_4, hM_4⟩ | ⟨hn_4, hz_4, hM_4⟩
  · skip
    replace hz_4 := hz_4.symm; subst hz_4
    have hdg_4 := q_dgt_in T n ps
    have h2_M2 : M2 169 3 = (((ps + 1) : Nat) : Int) := by rw [hM_4, wr_eq]; omega
    have hfx_M2 : q_fm M M2 := by rw [hM_4]; exact q_fm.wr (q_fm.rf M)
    have hpv_M2_171 : M2 171 = (M 171) := by rw [hM_4, wr_off _ _ _ (by decide)]
    refine lv_istore_n (lv' := [(1, .int (iZ (q_dgt T n ps))), (0, .ref (gad G 169))]) hx hb dX6_readSunset_7 rfl hl (by decide) rfl (fun ls hl => ?_)
    refine lv_iload_n hx hb dX6_readSunset_8 rfl (lv_at hl 0 rfl) ?_
    refine lv_bipush (v := iZ (-9)) hx hb dX6_readSunset_9 (by decide) ?_
    refine z_icmp_ne (tgt := 19) hx hb (by omega) (by decide) dX6_readSunset_11 (by decide) (fun c_11 => ?_) (fun c_11 => ?_)
    · skip
      refine lv_aload_n hx hb dX6_readSunset_19 rfl (lv_at hl 1 rfl) ?_
      refine lv_iload_n hx hb dX6_readSunset_20 rfl (lv_at hl 0 rfl) ?_
      refine z_if_ne (tgt := 29) hx hb (by omega) dX6_readSunset_21 (by decide) (fun c_21 => ?_) (fun c_21 => ?_)
      · skip
        refine lv_iconst (v := iZ 0) hx hb dX6_readSunset_29 rfl ?_
        refine lv_iload_n hx hb dX6_readSunset_30 rfl (lv_at hl 0 rfl) ?_
        refine lv_bipush (v := iZ (6)) hx hb dX6_readSunset_31 (by decide) ?_
        refine z_icmp_ne (tgt := 40) hx hb (by omega) (by decide) dX6_readSunset_33 (by decide) (fun c_33 => ?_) (fun c_33 => ?_)
        · skip
          refine lv_bipush (v := iZ (9)) hx hb dX6_readSunset_40 (by decide) ?_
          refine g_callV (b := 169) (As := [.int (iZ 0), .int (iZ 9)]) (rest := []) ⟨hx, hb, hml, hown, hts⟩ (c_X6_digit l G M2 hdm T n (ps + 1) hn (by omega) ((hfx_M2.1 170 (by decide) (by decide)).trans hTx) ((hfx_M2.2 2 (by decide)).trans h1) h2_M2 hch 0 9 (by omega) (by omega)) (cwV 2 hts gX6_readSunset_X6_digit rfl rfl rfl (by decide +kernel) ⟨Nat.le_of_ble_eq_true rfl, Nat.le_of_ble_eq_true rfl⟩) hG (g_recv hG (b := 169) (hdm 169 (by decide)) rfl rfl) rfl hl.1 rfl (Nat.le_of_ble_eq_true rfl) dX6_readSunset_42 ⟨Nat.zero_le _, Nat.zero_le _⟩ (fun z3 M4 H locs hp_42 hG => ?_)
          rcases hp_42 with ⟨ha_42, hb1_42, hb2_42, hz_42, hM_42⟩ | ⟨hn_42, hz_42, hM_42⟩
          · skip
            replace hz_42 := hz_42.symm; subst hz_42
            have hdg_42 := q_dgt_in T n (ps + 1)
            have h2_M4 : M4 169 3 = (((ps + 2) : Nat) : Int) := by rw [hM_42, wr_eq]; omega
            have hfx_M4 : q_fm M M4 := by rw [hM_42]; exact q_fm.wr hfx_M2
            have hpv_M4_171 : M4 171 = (M 171) := by rw [hM_42, wr_off _ _ _ (by decide)]; exact hpv_M2_171
            refine lv_istore_n (lv' := [(2, .int (iZ (q_dgt T n (ps + 1)))), (1, .int (iZ (q_dgt T n ps))), (0, .ref (gad G 169))]) hx hb dX6_readSunset_45 rfl hl (by decide) rfl (fun ls hl => ?_)
            refine lv_iload_n hx hb dX6_readSunset_46 rfl (lv_at hl 0 rfl) ?_
            refine lv_bipush (v := iZ (-9)) hx hb dX6_readSunset_47 (by decide) ?_
            refine z_icmp_ne (tgt := 57) hx hb (by omega) (by decide) dX6_readSunset_49 (by decide) (fun c_49 => ?_) (fun c_49 => ?_)
            · skip
              refine lv_aload_n hx hb dX6_readSunset_57 rfl (lv_at hl 2 rfl) ?_
              refine lv_iconst (v := iZ 0) hx hb dX6_readSunset_58 rfl ?_
              refine lv_iload_n hx hb dX6_readSunset_59 rfl (lv_at hl 1 rfl) ?_
              refine lv_bipush (v := iZ (6)) hx hb dX6_readSunset_60 (by decide) ?_
              refine z_icmp_ne (tgt := 69) hx hb (by omega) (by decide) dX6_readSunset_62 (by decide) (fun c_62 => ?_) (fun c_62 => ?_)
              · skip
                refine lv_bipush (v := iZ (9)) hx hb dX6_readSunset_69 (by decide) ?_
                refine g_callV (b := 169) (As := [.int (iZ 0), .int (iZ 9)]) (rest := []) ⟨hx, hb, hml, hown, hts⟩ (c_X6_digit l G M4 hdm T n (ps + 2) hn (by omega) ((hfx_M4.1 170 (by decide) (by decide)).trans hTx) ((hfx_M4.2 2 (by decide)).trans h1) h2_M4 hch 0 9 (by omega) (by omega)) (cwV 2 hts gX6_readSunset_X6_digit rfl rfl rfl (by decide +kernel) ⟨Nat.le_of_ble_eq_true rfl, Nat.le_of_ble_eq_true rfl⟩) hG (g_recv hG (b := 169) (hdm 169 (by decide)) rfl rfl) rfl hl.1 rfl (Nat.le_of_ble_eq_true rfl) dX6_readSunset_71 ⟨Nat.zero_le _, Nat.zero_le _⟩ (fun z5 M6 H locs hp_71 hG => ?_)
                rcases hp_71 with ⟨ha_71, hb1_71, hb2_71, hz_71, hM_71⟩ | ⟨hn_71, hz_71, hM_71⟩
                · skip
                  replace hz_71 := hz_71.symm; subst hz_71
                  have hdg_71 := q_dgt_in T n (ps + 2)
                  have h2_M6 : M6 169 3 = (((ps + 3) : Nat) : Int) := by rw [hM_71, wr_eq]; omega
                  have hfx_M6 : q_fm M M6 := by rw [hM_71]; exact q_fm.wr hfx_M4
                  have hpv_M6_171 : M6 171 = (M 171) := by rw [hM_71, wr_off _ _ _ (by decide)]; exact hpv_M4_171
                  refine lv_istore_n (lv' := [(3, .int (iZ (q_dgt T n (ps + 2)))), (2, .int (iZ (q_dgt T n (ps + 1)))), (1, .int (iZ (q_dgt T n ps))), (0, .ref (gad G 169))]) hx hb dX6_readSunset_74 rfl hl (by decide) rfl (fun ls hl => ?_)
                  refine lv_aload_n hx hb dX6_readSunset_75 rfl (lv_at hl 3 rfl) ?_
                  refine g_get hx hb hts hinX6 hown hG (o := 169) (hdm 169 (by decide)) rfl rfl 4 (by decide) f13 (fun _ h => h) rfl dX6_readSunset_76 ?_
                  refine lv_iconst (v := iZ 2) hx hb dX6_readSunset_79 rfl ?_
                  refine lv_bipush (v := iZ (100)) hx hb dX6_readSunset_80 (by decide) ?_
                  refine lv_iload_n hx hb dX6_readSunset_82 rfl (lv_at hl 2 rfl) ?_
                  refine z_imul (z := (100 * (q_dgt T n ps))) hx hb (by omega) dX6_readSunset_83 ?_
                  refine lv_bipush (v := iZ (10)) hx hb dX6_readSunset_84 (by decide) ?_
                  refine lv_iload_n hx hb dX6_readSunset_86 rfl (lv_at hl 1 rfl) ?_
                  refine z_imul (z := (10 * (q_dgt T n (ps + 1)))) hx hb (by omega) dX6_readSunset_87 ?_
                  refine z_iadd (z := (100 * (q_dgt T n ps) + 10 * (q_dgt T n (ps + 1)))) hx hb (by omega) dX6_readSunset_88 ?_
                  refine lv_iload_n hx hb dX6_readSunset_89 rfl (lv_at hl 0 rfl) ?_
                  refine z_iadd (z := (100 * (q_dgt T n ps) + 10 * (q_dgt T n (ps + 1)) + (q_dgt T n (ps + 2)))) hx hb (by omega) dX6_readSunset_90 ?_
                  refine g_iast (j := 2) hx hb hG (o := 171) (hdm 171 (by decide)) (fun f => rfl) (by omega) (by omega) (by omega) dX6_readSunset_91 (fun H locs hG => ?_)
                  obtain ⟨M7, hM7⟩ : ∃ X, X = (q_wr M6 171 2 (100 * (q_dgt T n ps) + 10 * (q_dgt T n (ps + 1)) + (q_dgt T n (ps + 2)))) := ⟨_, rfl⟩
                  rw [← hM7] at hG
                  have h29 : M7 169 3 = (((ps + 3) : Nat) : Int) := by rw [hM7, wr_off _ _ _ (by decide)]; exact h2_M6
                  have hfx9 : q_fm M M7 := by rw [hM7]; exact q_fm.wp hfx_M6
                  refine lv_iload_n hx hb dX6_readSunset_92 rfl (lv_at hl 0 rfl) ?_
                  refine lv_bipush (v := iZ (-9)) hx hb dX6_readSunset_93 (by decide) ?_
                  refine z_icmp_eq (tgt := 102) hx hb (by omega) (by decide) dX6_readSunset_95 (by decide) (fun c_95 => ?_) (fun c_95 => ?_)
                  · exfalso; omega
                  · skip
                    refine lv_iconst (v := iZ 1) hx hb dX6_readSunset_98 rfl ?_
                    refine lv_goto (tgt := 103) hx hb dX6_readSunset_99 (by decide) ?_
                    have hsn : q_sn T n ps = 3 := q_sn_3 (by omega) (by omega) (by omega)
                    exact g_zret (post := fun z M1 => z = (if q_sn T n ps = 3 then 1 else 0) ∧ M1 169 3 = ((ps + q_sn T n ps : Nat) : Int) ∧ q_fm M M1 ∧ (q_sn T n ps = 3 → M1 171 = q_sun (M 171) (q_sv T n ps))) (z := 1) hx hb hr hG hlocks (Or.inr rfl) (⟨by rw [hsn, if_pos rfl], by rw [hsn]; have e9 := h29; omega, hfx9, fun _ => by rw [hM7, wr_at, hpv_M6_171]; unfold q_sun q_sv; congr 1⟩) dX6_readSunset_103
                · skip
                  replace hz_71 := hz_71.symm; subst hz_71; replace hM_71 := hM_71.symm; subst hM_71
                  have hdg_71 := q_dgt_in T n (ps + 2)
                  refine lv_istore_n (lv' := [(3, .int (iZ (-9))), (2, .int (iZ (q_dgt T n (ps + 1)))), (1, .int (iZ (q_dgt T n ps))), (0, .ref (gad G 169))]) hx hb dX6_readSunset_74 rfl hl (by decide) rfl (fun ls hl => ?_)
                  refine lv_aload_n hx hb dX6_readSunset_75 rfl (lv_at hl 3 rfl) ?_
                  refine g_get hx hb hts hinX6 hown hG (o := 169) (hdm 169 (by decide)) rfl rfl 4 (by decide) f13 (fun _ h => h) rfl dX6_readSunset_76 ?_
                  refine lv_iconst (v := iZ 2) hx hb dX6_readSunset_79 rfl ?_
                  refine lv_bipush (v := iZ (100)) hx hb dX6_readSunset_80 (by decide) ?_
                  refine lv_iload_n hx hb dX6_readSunset_82 rfl (lv_at hl 2 rfl) ?_
                  refine z_imul (z := (100 * (q_dgt T n ps))) hx hb (by omega) dX6_readSunset_83 ?_
                  refine lv_bipush (v := iZ (10)) hx hb dX6_readSunset_84 (by decide) ?_
                  refine lv_iload_n hx hb dX6_readSunset_86 rfl (lv_at hl 1 rfl) ?_
                  refine z_imul (z := (10 * (q_dgt T n (ps + 1)))) hx hb (by omega) dX6_readSunset_87 ?_
                  refine z_iadd (z := (100 * (q_dgt T n ps) + 10 * (q_dgt T n (ps + 1)))) hx hb (by omega) dX6_readSunset_88 ?_
                  refine lv_iload_n hx hb dX6_readSunset_89 rfl (lv_at hl 0 rfl) ?_
                  refine z_iadd (z := (100 * (q_dgt T n ps) + 10 * (q_dgt T n (ps + 1)) - 9)) hx hb (by omega) dX6_readSunset_90 ?_
                  refine g_iast (j := 2) hx hb hG (o := 171) (hdm 171 (by decide)) (fun f => rfl) (by omega) (by omega) (by omega) dX6_readSunset_91 (fun H locs hG => ?_)
                  obtain ⟨M8, hM8⟩ : ∃ X, X = (q_wr M4 171 2 (100 * (q_dgt T n ps) + 10 * (q_dgt T n (ps + 1)) - 9)) := ⟨_, rfl⟩
                  rw [← hM8] at hG
                  have h29 : M8 169 3 = (((ps + 2) : Nat) : Int) := by rw [hM8, wr_off _ _ _ (by decide)]; exact h2_M4
                  have hfx9 : q_fm M M8 := by rw [hM8]; exact q_fm.wp hfx_M4
                  refine lv_iload_n hx hb dX6_readSunset_92 rfl (lv_at hl 0 rfl) ?_
                  refine lv_bipush (v := iZ (-9)) hx hb dX6_readSunset_93 (by decide) ?_
                  refine z_icmp_eq (tgt := 102) hx hb (by decide) (by decide) dX6_readSunset_95 (by decide) (fun c_95 => ?_) (fun c_95 => ?_)
                  · skip
                    refine lv_iconst (v := iZ 0) hx hb dX6_readSunset_102 rfl ?_
                    have hsn : q_sn T n ps = 2 := q_sn_2 (by omega) (by omega) (by omega)
                    exact g_zret (post := fun z M1 => z = (if q_sn T n ps = 3 then 1 else 0) ∧ M1 169 3 = ((ps + q_sn T n ps : Nat) : Int) ∧ q_fm M M1 ∧ (q_sn T n ps = 3 → M1 171 = q_sun (M 171) (q_sv T n ps))) (z := 0) hx hb hr hG hlocks (Or.inl rfl) (⟨by rw [hsn, if_neg (by decide)], by rw [hsn]; have e9 := h29; omega, hfx9, fun h9 => by omega⟩) dX6_readSunset_103
                  · exfalso; omega
              · skip
                refine lv_iconst (v := iZ 0) hx hb dX6_readSunset_65 rfl ?_
                refine lv_goto (tgt := 71) hx hb dX6_readSunset_66 (by decide) ?_
                refine g_callV (b := 169) (As := [.int (iZ 0), .int (iZ 0)]) (rest := []) ⟨hx, hb, hml, hown, hts⟩ (c_X6_digit l G M4 hdm T n (ps + 2) hn (by omega) ((hfx_M4.1 170 (by decide) (by decide)).trans hTx) ((hfx_M4.2 2 (by decide)).trans h1) h2_M4 hch 0 0 (by omega) (by omega)) (cwV 2 hts gX6_readSunset_X6_digit rfl rfl rfl (by decide +kernel) ⟨Nat.le_of_ble_eq_true rfl, Nat.le_of_ble_eq_true rfl⟩) hG (g_recv hG (b := 169) (hdm 169 (by decide)) rfl rfl) rfl hl.1 rfl (Nat.le_of_ble_eq_true rfl) dX6_readSunset_71 ⟨Nat.zero_le _, Nat.zero_le _⟩ (fun z9 M10 H locs hp_71 hG => ?_)
                rcases hp_71 with ⟨ha_71, hb1_71, hb2_71, hz_71, hM_71⟩ | ⟨hn_71, hz_71, hM_71⟩
                · skip
                  replace hz_71 := hz_71.symm; subst hz_71
                  have hdg_71 := q_dgt_in T n (ps + 2)
                  have h2_M10 : M10 169 3 = (((ps + 3) : Nat) : Int) := by rw [hM_71, wr_eq]; omega
                  have hfx_M10 : q_fm M M10 := by rw [hM_71]; exact q_fm.wr hfx_M4
                  have hpv_M10_171 : M10 171 = (M 171) := by rw [hM_71, wr_off _ _ _ (by decide)]; exact hpv_M4_171
                  refine lv_istore_n (lv' := [(3, .int (iZ (q_dgt T n (ps + 2)))), (2, .int (iZ (q_dgt T n (ps + 1)))), (1, .int (iZ (q_dgt T n ps))), (0, .ref (gad G 169))]) hx hb dX6_readSunset_74 rfl hl (by decide) rfl (fun ls hl => ?_)
                  refine lv_aload_n hx hb dX6_readSunset_75 rfl (lv_at hl 3 rfl) ?_
                  refine g_get hx hb hts hinX6 hown hG (o := 169) (hdm 169 (by decide)) rfl rfl 4 (by decide) f13 (fun _ h => h) rfl dX6_readSunset_76 ?_
                  refine lv_iconst (v := iZ 2) hx hb dX6_readSunset_79 rfl ?_
                  refine lv_bipush (v := iZ (100)) hx hb dX6_readSunset_80 (by decide) ?_
                  refine lv_iload_n hx hb dX6_readSunset_82 rfl (lv_at hl 2 rfl) ?_
                  refine z_imul (z := (100 * (q_dgt T n ps))) hx hb (by omega) dX6_readSunset_83 ?_
                  refine lv_bipush (v := iZ (10)) hx hb dX6_readSunset_84 (by decide) ?_
                  refine lv_iload_n hx hb dX6_readSunset_86 rfl (lv_at hl 1 rfl) ?_
                  refine z_imul (z := (10 * (q_dgt T n (ps + 1)))) hx hb (by omega) dX6_readSunset_87 ?_
                  refine z_iadd (z := (100 * (q_dgt T n ps) + 10 * (q_dgt T n (ps + 1)))) hx hb (by omega) dX6_readSunset_88 ?_
                  refine lv_iload_n hx hb dX6_readSunset_89 rfl (lv_at hl 0 rfl) ?_
                  refine z_iadd (z := (100 * (q_dgt T n ps) + 10 * (q_dgt T n (ps + 1)) + (q_dgt T n (ps + 2)))) hx hb (by omega) dX6_readSunset_90 ?_
                  refine g_iast (j := 2) hx hb hG (o := 171) (hdm 171 (by decide)) (fun f => rfl) (by omega) (by omega) (by omega) dX6_readSunset_91 (fun H locs hG => ?_)
                  obtain ⟨M11, hM11⟩ : ∃ X, X = (q_wr M10 171 2 (100 * (q_dgt T n ps) + 10 * (q_dgt T n (ps + 1)) + (q_dgt T n (ps + 2)))) := ⟨_, rfl⟩
                  rw [← hM11] at hG
                  have h29 : M11 169 3 = (((ps + 3) : Nat) : Int) := by rw [hM11, wr_off _ _ _ (by decide)]; exact h2_M10
                  have hfx9 : q_fm M M11 := by rw [hM11]; exact q_fm.wp hfx_M10
                  refine lv_iload_n hx hb dX6_readSunset_92 rfl (lv_at hl 0 rfl) ?_
                  refine lv_bipush (v := iZ (-9)) hx hb dX6_readSunset_93 (by decide) ?_
                  refine z_icmp_eq (tgt := 102) hx hb (by omega) (by decide) dX6_readSunset_95 (by decide) (fun c_95 => ?_) (fun c_95 => ?_)
                  · exfalso; omega
                  · skip
                    refine lv_iconst (v := iZ 1) hx hb dX6_readSunset_98 rfl ?_
                    refine lv_goto (tgt := 103) hx hb dX6_readSunset_99 (by decide) ?_
                    have hsn : q_sn T n ps = 3 := q_sn_3 (by omega) (by omega) (by omega)
                    exact g_zret (post := fun z M1 => z = (if q_sn T n ps = 3 then 1 else 0) ∧ M1 169 3 = ((ps + q_sn T n ps : Nat) : Int) ∧ q_fm M M1 ∧ (q_sn T n ps = 3 → M1 171 = q_sun (M 171) (q_sv T n ps))) (z := 1) hx hb hr hG hlocks (Or.inr rfl) (⟨by rw [hsn, if_pos rfl], by rw [hsn]; have e9 := h29; omega, hfx9, fun _ => by rw [hM11, wr_at, hpv_M10_171]; unfold q_sun q_sv; congr 1⟩) dX6_readSunset_103
                · skip
                  replace hz_71 := hz_71.symm; subst hz_71; replace hM_71 := hM_71.symm; subst hM_71
                  have hdg_71 := q_dgt_in T n (ps + 2)
                  refine lv_istore_n (lv' := [(3, .int (iZ (-9))), (2, .int (iZ (q_dgt T n (ps + 1)))), (1, .int (iZ (q_dgt T n ps))), (0, .ref (gad G 169))]) hx hb dX6_readSunset_74 rfl hl (by decide) rfl (fun ls hl => ?_)
                  refine lv_aload_n hx hb dX6_readSunset_75 rfl (lv_at hl 3 rfl) ?_
                  refine g_get hx hb hts hinX6 hown hG (o := 169) (hdm 169 (by decide)) rfl rfl 4 (by decide) f13 (fun _ h => h) rfl dX6_readSunset_76 ?_
                  refine lv_iconst (v := iZ 2) hx hb dX6_readSunset_79 rfl ?_
                  refine lv_bipush (v := iZ (100)) hx hb dX6_readSunset_80 (by decide) ?_
                  refine lv_iload_n hx hb dX6_readSunset_82 rfl (lv_at hl 2 rfl) ?_
                  refine z_imul (z := (100 * (q_dgt T n ps))) hx hb (by omega) dX6_readSunset_83 ?_
                  refine lv_bipush (v := iZ (10)) hx hb dX6_readSunset_84 (by decide) ?_
                  refine lv_iload_n hx hb dX6_readSunset_86 rfl (lv_at hl 1 rfl) ?_
                  refine z_imul (z := (10 * (q_dgt T n (ps + 1)))) hx hb (by omega) dX6_readSunset_87 ?_
                  refine z_iadd (z := (100 * (q_dgt T n ps) + 10 * (q_dgt T n (ps + 1)))) hx hb (by omega) dX6_readSunset_88 ?_
                  refine lv_iload_n hx hb dX6_readSunset_89 rfl (lv_at hl 0 rfl) ?_
                  refine z_iadd (z := (100 * (q_dgt T n ps) + 10 * (q_dgt T n (ps + 1)) - 9)) hx hb (by omega) dX6_readSunset_90 ?_
                  refine g_iast (j := 2) hx hb hG (o := 171) (hdm 171 (by decide)) (fun f => rfl) (by omega) (by omega) (by omega) dX6_readSunset_91 (fun H locs hG => ?_)
                  obtain ⟨M12, hM12⟩ : ∃ X, X = (q_wr M4 171 2 (100 * (q_dgt T n ps) + 10 * (q_dgt T n (ps + 1)) - 9)) := ⟨_, rfl⟩
                  rw [← hM12] at hG
                  have h29 : M12 169 3 = (((ps + 2) : Nat) : Int) := by rw [hM12, wr_off _ _ _ (by decide)]; exact h2_M4
                  have hfx9 : q_fm M M12 := by rw [hM12]; exact q_fm.wp hfx_M4
                  refine lv_iload_n hx hb dX6_readSunset_92 rfl (lv_at hl 0 rfl) ?_
                  refine lv_bipush (v := iZ (-9)) hx hb dX6_readSunset_93 (by decide) ?_
                  refine z_icmp_eq (tgt := 102) hx hb (by decide) (by decide) dX6_readSunset_95 (by decide) (fun c_95 => ?_) (fun c_95 => ?_)
                  · skip
                    refine lv_iconst (v := iZ 0) hx hb dX6_readSunset_102 rfl ?_
                    have hsn : q_sn T n ps = 2 := q_sn_2 (by omega) (by omega) (by omega)
                    exact g_zret (post := fun z M1 => z = (if q_sn T n ps = 3 then 1 else 0) ∧ M1 169 3 = ((ps + q_sn T n ps : Nat) : Int) ∧ q_fm M M1 ∧ (q_sn T n ps = 3 → M1 171 = q_sun (M 171) (q_sv T n ps))) (z := 0) hx hb hr hG hlocks (Or.inl rfl) (⟨by rw [hsn, if_neg (by decide)], by rw [hsn]; have e9 := h29; omega, hfx9, fun h9 => by omega⟩) dX6_readSunset_103
                  · exfalso; omega
            · exfalso; omega
          · skip
            replace hz_42 := hz_42.symm; subst hz_42; replace hM_42 := hM_42.symm; subst hM_42
            have hdg_42 := q_dgt_in T n (ps + 1)
            refine lv_istore_n (lv' := [(2, .int (iZ (-9))), (1, .int (iZ (q_dgt T n ps))), (0, .ref (gad G 169))]) hx hb dX6_readSunset_45 rfl hl (by decide) rfl (fun ls hl => ?_)
            refine lv_iload_n hx hb dX6_readSunset_46 rfl (lv_at hl 0 rfl) ?_
            refine lv_bipush (v := iZ (-9)) hx hb dX6_readSunset_47 (by decide) ?_
            refine z_icmp_ne (tgt := 57) hx hb (by decide) (by decide) dX6_readSunset_49 (by decide) (fun c_49 => ?_) (fun c_49 => ?_)
            · exfalso; omega
            · skip
              refine lv_bipush (v := iZ (-9)) hx hb dX6_readSunset_52 (by decide) ?_
              refine lv_goto (tgt := 74) hx hb dX6_readSunset_54 (by decide) ?_
              refine lv_istore_n (lv' := [(3, .int (iZ (-9))), (2, .int (iZ (-9))), (1, .int (iZ (q_dgt T n ps))), (0, .ref (gad G 169))]) hx hb dX6_readSunset_74 rfl hl (by decide) rfl (fun ls hl => ?_)
              refine lv_aload_n hx hb dX6_readSunset_75 rfl (lv_at hl 3 rfl) ?_
              refine g_get hx hb hts hinX6 hown hG (o := 169) (hdm 169 (by decide)) rfl rfl 4 (by decide) f13 (fun _ h => h) rfl dX6_readSunset_76 ?_
              refine lv_iconst (v := iZ 2) hx hb dX6_readSunset_79 rfl ?_
              refine lv_bipush (v := iZ (100)) hx hb dX6_readSunset_80 (by decide) ?_
              refine lv_iload_n hx hb dX6_readSunset_82 rfl (lv_at hl 2 rfl) ?_
              refine z_imul (z := (100 * (q_dgt T n ps))) hx hb (by omega) dX6_readSunset_83 ?_
              refine lv_bipush (v := iZ (10)) hx hb dX6_readSunset_84 (by decide) ?_
              refine lv_iload_n hx hb dX6_readSunset_86 rfl (lv_at hl 1 rfl) ?_
              refine z_imul (z := (-90)) hx hb (by omega) dX6_readSunset_87 ?_
              refine z_iadd (z := (100 * (q_dgt T n ps) - 90)) hx hb (by omega) dX6_readSunset_88 ?_
              refine lv_iload_n hx hb dX6_readSunset_89 rfl (lv_at hl 0 rfl) ?_
              refine z_iadd (z := (100 * (q_dgt T n ps) - 99)) hx hb (by omega) dX6_readSunset_90 ?_
              refine g_iast (j := 2) hx hb hG (o := 171) (hdm 171 (by decide)) (fun f => rfl) (by omega) (by omega) (by omega) dX6_readSunset_91 (fun H locs hG => ?_)
              obtain ⟨M13, hM13⟩ : ∃ X, X = (q_wr M2 171 2 (100 * (q_dgt T n ps) - 99)) := ⟨_, rfl⟩
              rw [← hM13] at hG
              have h29 : M13 169 3 = (((ps + 1) : Nat) : Int) := by rw [hM13, wr_off _ _ _ (by decide)]; exact h2_M2
              have hfx9 : q_fm M M13 := by rw [hM13]; exact q_fm.wp hfx_M2
              refine lv_iload_n hx hb dX6_readSunset_92 rfl (lv_at hl 0 rfl) ?_
              refine lv_bipush (v := iZ (-9)) hx hb dX6_readSunset_93 (by decide) ?_
              refine z_icmp_eq (tgt := 102) hx hb (by decide) (by decide) dX6_readSunset_95 (by decide) (fun c_95 => ?_) (fun c_95 => ?_)
              · skip
                refine lv_iconst (v := iZ 0) hx hb dX6_readSunset_102 rfl ?_
                have hsn : q_sn T n ps = 1 := q_sn_1 (by omega) (by omega)
                exact g_zret (post := fun z M1 => z = (if q_sn T n ps = 3 then 1 else 0) ∧ M1 169 3 = ((ps + q_sn T n ps : Nat) : Int) ∧ q_fm M M1 ∧ (q_sn T n ps = 3 → M1 171 = q_sun (M 171) (q_sv T n ps))) (z := 0) hx hb hr hG hlocks (Or.inl rfl) (⟨by rw [hsn, if_neg (by decide)], by rw [hsn]; have e9 := h29; omega, hfx9, fun h9 => by omega⟩) dX6_readSunset_103
              · exfalso; omega
        · skip
          refine lv_iconst (v := iZ 0) hx hb dX6_readSunset_36 rfl ?_
          refine lv_goto (tgt := 42) hx hb dX6_readSunset_37 (by decide) ?_
          refine g_callV (b := 169) (As := [.int (iZ 0), .int (iZ 0)]) (rest := []) ⟨hx, hb, hml, hown, hts⟩ (c_X6_digit l G M2 hdm T n (ps + 1) hn (by omega) ((hfx_M2.1 170 (by decide) (by decide)).trans hTx) ((hfx_M2.2 2 (by decide)).trans h1) h2_M2 hch 0 0 (by omega) (by omega)) (cwV 2 hts gX6_readSunset_X6_digit rfl rfl rfl (by decide +kernel) ⟨Nat.le_of_ble_eq_true rfl, Nat.le_of_ble_eq_true rfl⟩) hG (g_recv hG (b := 169) (hdm 169 (by decide)) rfl rfl) rfl hl.1 rfl (Nat.le_of_ble_eq_true rfl) dX6_readSunset_42 ⟨Nat.zero_le _, Nat.zero_le _⟩ (fun z14 M15 H locs hp_42 hG => ?_)
          rcases hp_42 with ⟨ha_42, hb1_42, hb2_42, hz_42, hM_42⟩ | ⟨hn_42, hz_42, hM_42⟩
          · skip
            replace hz_42 := hz_42.symm; subst hz_42
            have hdg_42 := q_dgt_in T n (ps + 1)
            have h2_M15 : M15 169 3 = (((ps + 2) : Nat) : Int) := by rw [hM_42, wr_eq]; omega
            have hfx_M15 : q_fm M M15 := by rw [hM_42]; exact q_fm.wr hfx_M2
            have hpv_M15_171 : M15 171 = (M 171) := by rw [hM_42, wr_off _ _ _ (by decide)]; exact hpv_M2_171
            refine lv_istore_n (lv' := [(2, .int (iZ (q_dgt T n (ps + 1)))), (1, .int (iZ (q_dgt T n ps))), (0, .ref (gad G 169))]) hx hb dX6_readSunset_45 rfl hl (by decide) rfl (fun ls hl => ?_)
            refine lv_iload_n hx hb dX6_readSunset_46 rfl (lv_at hl 0 rfl) ?_
            refine lv_bipush (v := iZ (-9)) hx hb dX6_readSunset_47 (by decide) ?_
            refine z_icmp_ne (tgt := 57) hx hb (by omega) (by decide) dX6_readSunset_49 (by decide) (fun c_49 => ?_) (fun c_49 => ?_)
            · skip
              refine lv_aload_n hx hb dX6_readSunset_57 rfl (lv_at hl 2 rfl) ?_
              refine lv_iconst (v := iZ 0) hx hb dX6_readSunset_58 rfl ?_
              refine lv_iload_n hx hb dX6_readSunset_59 rfl (lv_at hl 1 rfl) ?_
              refine lv_bipush (v := iZ (6)) hx hb dX6_readSunset_60 (by decide) ?_
              refine z_icmp_ne (tgt := 69) hx hb (by omega) (by decide) dX6_readSunset_62 (by decide) (fun c_62 => ?_) (fun c_62 => ?_)
              · skip
                refine lv_bipush (v := iZ (9)) hx hb dX6_readSunset_69 (by decide) ?_
                refine g_callV (b := 169) (As := [.int (iZ 0), .int (iZ 9)]) (rest := []) ⟨hx, hb, hml, hown, hts⟩ (c_X6_digit l G M15 hdm T n (ps + 2) hn (by omega) ((hfx_M15.1 170 (by decide) (by decide)).trans hTx) ((hfx_M15.2 2 (by decide)).trans h1) h2_M15 hch 0 9 (by omega) (by omega)) (cwV 2 hts gX6_readSunset_X6_digit rfl rfl rfl (by decide +kernel) ⟨Nat.le_of_ble_eq_true rfl, Nat.le_of_ble_eq_true rfl⟩) hG (g_recv hG (b := 169) (hdm 169 (by decide)) rfl rfl) rfl hl.1 rfl (Nat.le_of_ble_eq_true rfl) dX6_readSunset_71 ⟨Nat.zero_le _, Nat.zero_le _⟩ (fun z16 M17 H locs hp_71 hG => ?_)
                rcases hp_71 with ⟨ha_71, hb1_71, hb2_71, hz_71, hM_71⟩ | ⟨hn_71, hz_71, hM_71⟩
                · skip
                  replace hz_71 := hz_71.symm; subst hz_71
                  have hdg_71 := q_dgt_in T n (ps + 2)
                  have h2_M17 : M17 169 3 = (((ps + 3) : Nat) : Int) := by rw [hM_71, wr_eq]; omega
                  have hfx_M17 : q_fm M M17 := by rw [hM_71]; exact q_fm.wr hfx_M15
                  have hpv_M17_171 : M17 171 = (M 171) := by rw [hM_71, wr_off _ _ _ (by decide)]; exact hpv_M15_171
                  refine lv_istore_n (lv' := [(3, .int (iZ (q_dgt T n (ps + 2)))), (2, .int (iZ (q_dgt T n (ps + 1)))), (1, .int (iZ (q_dgt T n ps))), (0, .ref (gad G 169))]) hx hb dX6_readSunset_74 rfl hl (by decide) rfl (fun ls hl => ?_)
                  refine lv_aload_n hx hb dX6_readSunset_75 rfl (lv_at hl 3 rfl) ?_
                  refine g_get hx hb hts hinX6 hown hG (o := 169) (hdm 169 (by decide)) rfl rfl 4 (by decide) f13 (fun _ h => h) rfl dX6_readSunset_76 ?_
                  refine lv_iconst (v := iZ 2) hx hb dX6_readSunset_79 rfl ?_
                  refine lv_bipush (v := iZ (100)) hx hb dX6_readSunset_80 (by decide) ?_
                  refine lv_iload_n hx hb dX6_readSunset_82 rfl (lv_at hl 2 rfl) ?_
                  refine z_imul (z := (100 * (q_dgt T n ps))) hx hb (by omega) dX6_readSunset_83 ?_
                  refine lv_bipush (v := iZ (10)) hx hb dX6_readSunset_84 (by decide) ?_
                  refine lv_iload_n hx hb dX6_readSunset_86 rfl (lv_at hl 1 rfl) ?_
                  refine z_imul (z := (10 * (q_dgt T n (ps + 1)))) hx hb (by omega) dX6_readSunset_87 ?_
                  refine z_iadd (z := (100 * (q_dgt T n ps) + 10 * (q_dgt T n (ps + 1)))) hx hb (by omega) dX6_readSunset_88 ?_
                  refine lv_iload_n hx hb dX6_readSunset_89 rfl (lv_at hl 0 rfl) ?_
                  refine z_iadd (z := (100 * (q_dgt T n ps) + 10 * (q_dgt T n (ps + 1)) + (q_dgt T n (ps + 2)))) hx hb (by omega) dX6_readSunset_90 ?_
                  refine g_iast (j := 2) hx hb hG (o := 171) (hdm 171 (by decide)) (fun f => rfl) (by omega) (by omega) (by omega) dX6_readSunset_91 (fun H locs hG => ?_)
                  obtain ⟨M18, hM18⟩ : ∃ X, X = (q_wr M17 171 2 (100 * (q_dgt T n ps) + 10 * (q_dgt T n (ps + 1)) + (q_dgt T n (ps + 2)))) := ⟨_, rfl⟩
                  rw [← hM18] at hG
                  have h29 : M18 169 3 = (((ps + 3) : Nat) : Int) := by rw [hM18, wr_off _ _ _ (by decide)]; exact h2_M17
                  have hfx9 : q_fm M M18 := by rw [hM18]; exact q_fm.wp hfx_M17
                  refine lv_iload_n hx hb dX6_readSunset_92 rfl (lv_at hl 0 rfl) ?_
                  refine lv_bipush (v := iZ (-9)) hx hb dX6_readSunset_93 (by decide) ?_
                  refine z_icmp_eq (tgt := 102) hx hb (by omega) (by decide) dX6_readSunset_95 (by decide) (fun c_95 => ?_) (fun c_95 => ?_)
                  · exfalso; omega
                  · skip
                    refine lv_iconst (v := iZ 1) hx hb dX6_readSunset_98 rfl ?_
                    refine lv_goto (tgt := 103) hx hb dX6_readSunset_99 (by decide) ?_
                    have hsn : q_sn T n ps = 3 := q_sn_3 (by omega) (by omega) (by omega)
                    exact g_zret (post := fun z M1 => z = (if q_sn T n ps = 3 then 1 else 0) ∧ M1 169 3 = ((ps + q_sn T n ps : Nat) : Int) ∧ q_fm M M1 ∧ (q_sn T n ps = 3 → M1 171 = q_sun (M 171) (q_sv T n ps))) (z := 1) hx hb hr hG hlocks (Or.inr rfl) (⟨by rw [hsn, if_pos rfl], by rw [hsn]; have e9 := h29; omega, hfx9, fun _ => by rw [hM18, wr_at, hpv_M17_171]; unfold q_sun q_sv; congr 1⟩) dX6_readSunset_103
                · skip
                  replace hz_71 := hz_71.symm; subst hz_71; replace hM_71 := hM_71.symm; subst hM_71
                  have hdg_71 := q_dgt_in T n (ps + 2)
                  refine lv_istore_n (lv' := [(3, .int (iZ (-9))), (2, .int (iZ (q_dgt T n (ps + 1)))), (1, .int (iZ (q_dgt T n ps))), (0, .ref (gad G 169))]) hx hb dX6_readSunset_74 rfl hl (by decide) rfl (fun ls hl => ?_)
                  refine lv_aload_n hx hb dX6_readSunset_75 rfl (lv_at hl 3 rfl) ?_
                  refine g_get hx hb hts hinX6 hown hG (o := 169) (hdm 169 (by decide)) rfl rfl 4 (by decide) f13 (fun _ h => h) rfl dX6_readSunset_76 ?_
                  refine lv_iconst (v := iZ 2) hx hb dX6_readSunset_79 rfl ?_
                  refine lv_bipush (v := iZ (100)) hx hb dX6_readSunset_80 (by decide) ?_
                  refine lv_iload_n hx hb dX6_readSunset_82 rfl (lv_at hl 2 rfl) ?_
                  refine z_imul (z := (100 * (q_dgt T n ps))) hx hb (by omega) dX6_readSunset_83 ?_
                  refine lv_bipush (v := iZ (10)) hx hb dX6_readSunset_84 (by decide) ?_
                  refine lv_iload_n hx hb dX6_readSunset_86 rfl (lv_at hl 1 rfl) ?_
                  refine z_imul (z := (10 * (q_dgt T n (ps + 1)))) hx hb (by omega) dX6_readSunset_87 ?_
                  refine z_iadd (z := (100 * (q_dgt T n ps) + 10 * (q_dgt T n (ps + 1)))) hx hb (by omega) dX6_readSunset_88 ?_
                  refine lv_iload_n hx hb dX6_readSunset_89 rfl (lv_at hl 0 rfl) ?_
                  refine z_iadd (z := (100 * (q_dgt T n ps) + 10 * (q_dgt T n (ps + 1)) - 9)) hx hb (by omega) dX6_readSunset_90 ?_
                  refine g_iast (j := 2) hx hb hG (o := 171) (hdm 171 (by decide)) (fun f => rfl) (by omega) (by omega) (by omega) dX6_readSunset_91 (fun H locs hG => ?_)
                  obtain ⟨M19, hM19⟩ : ∃ X, X = (q_wr M15 171 2 (100 * (q_dgt T n ps) + 10 * (q_dgt T n (ps + 1)) - 9)) := ⟨_, rfl⟩
                  rw [← hM19] at hG
                  have h29 : M19 169 3 = (((ps + 2) : Nat) : Int) := by rw [hM19, wr_off _ _ _ (by decide)]; exact h2_M15
                  have hfx9 : q_fm M M19 := by rw [hM19]; exact q_fm.wp hfx_M15
                  refine lv_iload_n hx hb dX6_readSunset_92 rfl (lv_at hl 0 rfl) ?_
                  refine lv_bipush (v := iZ (-9)) hx hb dX6_readSunset_93 (by decide) ?_
                  refine z_icmp_eq (tgt := 102) hx hb (by decide) (by decide) dX6_readSunset_95 (by decide) (fun c_95 => ?_) (fun c_95 => ?_)
                  · skip
                    refine lv_iconst (v := iZ 0) hx hb dX6_readSunset_102 rfl ?_
                    have hsn : q_sn T n ps = 2 := q_sn_2 (by omega) (by omega) (by omega)
                    exact g_zret (post := fun z M1 => z = (if q_sn T n ps = 3 then 1 else 0) ∧ M1 169 3 = ((ps + q_sn T n ps : Nat) : Int) ∧ q_fm M M1 ∧ (q_sn T n ps = 3 → M1 171 = q_sun (M 171) (q_sv T n ps))) (z := 0) hx hb hr hG hlocks (Or.inl rfl) (⟨by rw [hsn, if_neg (by decide)], by rw [hsn]; have e9 := h29; omega, hfx9, fun h9 => by omega⟩) dX6_readSunset_103
                  · exfalso; omega
              · skip
                refine lv_iconst (v := iZ 0) hx hb dX6_readSunset_65 rfl ?_
                refine lv_goto (tgt := 71) hx hb dX6_readSunset_66 (by decide) ?_
                refine g_callV (b := 169) (As := [.int (iZ 0), .int (iZ 0)]) (rest := []) ⟨hx, hb, hml, hown, hts⟩ (c_X6_digit l G M15 hdm T n (ps + 2) hn (by omega) ((hfx_M15.1 170 (by decide) (by decide)).trans hTx) ((hfx_M15.2 2 (by decide)).trans h1) h2_M15 hch 0 0 (by omega) (by omega)) (cwV 2 hts gX6_readSunset_X6_digit rfl rfl rfl (by decide +kernel) ⟨Nat.le_of_ble_eq_true rfl, Nat.le_of_ble_eq_true rfl⟩) hG (g_recv hG (b := 169) (hdm 169 (by decide)) rfl rfl) rfl hl.1 rfl (Nat.le_of_ble_eq_true rfl) dX6_readSunset_71 ⟨Nat.zero_le _, Nat.zero_le _⟩ (fun z20 M21 H locs hp_71 hG => ?_)
                rcases hp_71 with ⟨ha_71, hb1_71, hb2_71, hz_71, hM_71⟩ | ⟨hn_71, hz_71, hM_71⟩
                · skip
                  replace hz_71 := hz_71.symm; subst hz_71
                  have hdg_71 := q_dgt_in T n (ps + 2)
                  have h2_M21 : M21 169 3 = (((ps + 3) : Nat) : Int) := by rw [hM_71, wr_eq]; omega
                  have hfx_M21 : q_fm M M21 := by rw [hM_71]; exact q_fm.wr hfx_M15
                  have hpv_M21_171 : M21 171 = (M 171) := by rw [hM_71, wr_off _ _ _ (by decide)]; exact hpv_M15_171
                  refine lv_istore_n (lv' := [(3, .int (iZ (q_dgt T n (ps + 2)))), (2, .int (iZ (q_dgt T n (ps + 1)))), (1, .int (iZ (q_dgt T n ps))), (0, .ref (gad G 169))]) hx hb dX6_readSunset_74 rfl hl (by decide) rfl (fun ls hl => ?_)
                  refine lv_aload_n hx hb dX6_readSunset_75 rfl (lv_at hl 3 rfl) ?_
                  refine g_get hx hb hts hinX6 hown hG (o := 169) (hdm 169 (by decide)) rfl rfl 4 (by decide) f13 (fun _ h => h) rfl dX6_readSunset_76 ?_
                  refine lv_iconst (v := iZ 2) hx hb dX6_readSunset_79 rfl ?_
                  refine lv_bipush (v := iZ (100)) hx hb dX6_readSunset_80 (by decide) ?_
                  refine lv_iload_n hx hb dX6_readSunset_82 rfl (lv_at hl 2 rfl) ?_
                  refine z_imul (z := (100 * (q_dgt T n ps))) hx hb (by omega) dX6_readSunset_83 ?_
                  refine lv_bipush (v := iZ (10)) hx hb dX6_readSunset_84 (by decide) ?_
                  refine lv_iload_n hx hb dX6_readSunset_86 rfl (lv_at hl 1 rfl) ?_
                  refine z_imul (z := (10 * (q_dgt T n (ps + 1)))) hx hb (by omega) dX6_readSunset_87 ?_
                  refine z_iadd (z := (100 * (q_dgt T n ps) + 10 * (q_dgt T n (ps + 1)))) hx hb (by omega) dX6_readSunset_88 ?_
                  refine lv_iload_n hx hb dX6_readSunset_89 rfl (lv_at hl 0 rfl) ?_
                  refine z_iadd (z := (100 * (q_dgt T n ps) + 10 * (q_dgt T n (ps + 1)) + (q_dgt T n (ps + 2)))) hx hb (by omega) dX6_readSunset_90 ?_
                  refine g_iast (j := 2) hx hb hG (o := 171) (hdm 171 (by decide)) (fun f => rfl) (by omega) (by omega) (by omega) dX6_readSunset_91 (fun H locs hG => ?_)
                  obtain ⟨M22, hM22⟩ : ∃ X, X = (q_wr M21 171 2 (100 * (q_dgt T n ps) + 10 * (q_dgt T n (ps + 1)) + (q_dgt T n (ps + 2)))) := ⟨_, rfl⟩
                  rw [← hM22] at hG
                  have h29 : M22 169 3 = (((ps + 3) : Nat) : Int) := by rw [hM22, wr_off _ _ _ (by decide)]; exact h2_M21
                  have hfx9 : q_fm M M22 := by rw [hM22]; exact q_fm.wp hfx_M21
                  refine lv_iload_n hx hb dX6_readSunset_92 rfl (lv_at hl 0 rfl) ?_
                  refine lv_bipush (v := iZ (-9)) hx hb dX6_readSunset_93 (by decide) ?_
                  refine z_icmp_eq (tgt := 102) hx hb (by omega) (by decide) dX6_readSunset_95 (by decide) (fun c_95 => ?_) (fun c_95 => ?_)
                  · exfalso; omega
                  · skip
                    refine lv_iconst (v := iZ 1) hx hb dX6_readSunset_98 rfl ?_
                    refine lv_goto (tgt := 103) hx hb dX6_readSunset_99 (by decide) ?_
                    have hsn : q_sn T n ps = 3 := q_sn_3 (by omega) (by omega) (by omega)
                    exact g_zret (post := fun z M1 => z = (if q_sn T n ps = 3 then 1 else 0) ∧ M1 169 3 = ((ps + q_sn T n ps : Nat) : Int) ∧ q_fm M M1 ∧ (q_sn T n ps = 3 → M1 171 = q_sun (M 171) (q_sv T n ps))) (z := 1) hx hb hr hG hlocks (Or.inr rfl) (⟨by rw [hsn, if_pos rfl], by rw [hsn]; have e9 := h29; omega, hfx9, fun _ => by rw [hM22, wr_at, hpv_M21_171]; unfold q_sun q_sv; congr 1⟩) dX6_readSunset_103
                · skip
                  replace hz_71 := hz_71.symm; subst hz_71; replace hM_71 := hM_71.symm; subst hM_71
                  have hdg_71 := q_dgt_in T n (ps + 2)
                  refine lv_istore_n (lv' := [(3, .int (iZ (-9))), (2, .int (iZ (q_dgt T n (ps + 1)))), (1, .int (iZ (q_dgt T n ps))), (0, .ref (gad G 169))]) hx hb dX6_readSunset_74 rfl hl (by decide) rfl (fun ls hl => ?_)
                  refine lv_aload_n hx hb dX6_readSunset_75 rfl (lv_at hl 3 rfl) ?_
                  refine g_get hx hb hts hinX6 hown hG (o := 169) (hdm 169 (by decide)) rfl rfl 4 (by decide) f13 (fun _ h => h) rfl dX6_readSunset_76 ?_
                  refine lv_iconst (v := iZ 2) hx hb dX6_readSunset_79 rfl ?_
                  refine lv_bipush (v := iZ (100)) hx hb dX6_readSunset_80 (by decide) ?_
                  refine lv_iload_n hx hb dX6_readSunset_82 rfl (lv_at hl 2 rfl) ?_
                  refine z_imul (z := (100 * (q_dgt T n ps))) hx hb (by omega) dX6_readSunset_83 ?_
                  refine lv_bipush (v := iZ (10)) hx hb dX6_readSunset_84 (by decide) ?_
                  refine lv_iload_n hx hb dX6_readSunset_86 rfl (lv_at hl 1 rfl) ?_
                  refine z_imul (z := (10 * (q_dgt T n (ps + 1)))) hx hb (by omega) dX6_readSunset_87 ?_
                  refine z_iadd (z := (100 * (q_dgt T n ps) + 10 * (q_dgt T n (ps + 1)))) hx hb (by omega) dX6_readSunset_88 ?_
                  refine lv_iload_n hx hb dX6_readSunset_89 rfl (lv_at hl 0 rfl) ?_
                  refine z_iadd (z := (100 * (q_dgt T n ps) + 10 * (q_dgt T n (ps + 1)) - 9)) hx hb (by omega) dX6_readSunset_90 ?_
                  refine g_iast (j := 2) hx hb hG (o := 171) (hdm 171 (by decide)) (fun f => rfl) (by omega) (by omega) (by omega) dX6_readSunset_91 (fun H locs hG => ?_)
                  obtain ⟨M23, hM23⟩ : ∃ X, X = (q_wr M15 171 2 (100 * (q_dgt T n ps) + 10 * (q_dgt T n (ps + 1)) - 9)) := ⟨_, rfl⟩
                  rw [← hM23] at hG
                  have h29 : M23 169 3 = (((ps + 2) : Nat) : Int) := by rw [hM23, wr_off _ _ _ (by decide)]; exact h2_M15
                  have hfx9 : q_fm M M23 := by rw [hM23]; exact q_fm.wp hfx_M15
                  refine lv_iload_n hx hb dX6_readSunset_92 rfl (lv_at hl 0 rfl) ?_
                  refine lv_bipush (v := iZ (-9)) hx hb dX6_readSunset_93 (by decide) ?_
                  refine z_icmp_eq (tgt := 102) hx hb (by decide) (by decide) dX6_readSunset_95 (by decide) (fun c_95 => ?_) (fun c_95 => ?_)
                  · skip
                    refine lv_iconst (v := iZ 0) hx hb dX6_readSunset_102 rfl ?_
                    have hsn : q_sn T n ps = 2 := q_sn_2 (by omega) (by omega) (by omega)
                    exact g_zret (post := fun z M1 => z = (if q_sn T n ps = 3 then 1 else 0) ∧ M1 169 3 = ((ps + q_sn T n ps : Nat) : Int) ∧ q_fm M M1 ∧ (q_sn T n ps = 3 → M1 171 = q_sun (M 171) (q_sv T n ps))) (z := 0) hx hb hr hG hlocks (Or.inl rfl) (⟨by rw [hsn, if_neg (by decide)], by rw [hsn]; have e9 := h29; omega, hfx9, fun h9 => by omega⟩) dX6_readSunset_103
                  · exfalso; omega
            · exfalso; omega
          · skip
            replace hz_42 := hz_42.symm; subst hz_42; replace hM_42 := hM_42.symm; subst hM_42
            have hdg_42 := q_dgt_in T n (ps + 1)
            refine lv_istore_n (lv' := [(2, .int (iZ (-9))), (1, .int (iZ (q_dgt T n ps))), (0, .ref (gad G 169))]) hx hb dX6_readSunset_45 rfl hl (by decide) rfl (fun ls hl => ?_)
            refine lv_iload_n hx hb dX6_readSunset_46 rfl (lv_at hl 0 rfl) ?_
            refine lv_bipush (v := iZ (-9)) hx hb dX6_readSunset_47 (by decide) ?_
            refine z_icmp_ne (tgt := 57) hx hb (by decide) (by decide) dX6_readSunset_49 (by decide) (fun c_49 => ?_) (fun c_49 => ?_)
            · exfalso; omega
            · skip
              refine lv_bipush (v := iZ (-9)) hx hb dX6_readSunset_52 (by decide) ?_
              refine lv_goto (tgt := 74) hx hb dX6_readSunset_54 (by decide) ?_
              refine lv_istore_n (lv' := [(3, .int (iZ (-9))), (2, .int (iZ (-9))), (1, .int (iZ (q_dgt T n ps))), (0, .ref (gad G 169))]) hx hb dX6_readSunset_74 rfl hl (by decide) rfl (fun ls hl => ?_)
              refine lv_aload_n hx hb dX6_readSunset_75 rfl (lv_at hl 3 rfl) ?_
              refine g_get hx hb hts hinX6 hown hG (o := 169) (hdm 169 (by decide)) rfl rfl 4 (by decide) f13 (fun _ h => h) rfl dX6_readSunset_76 ?_
              refine lv_iconst (v := iZ 2) hx hb dX6_readSunset_79 rfl ?_
              refine lv_bipush (v := iZ (100)) hx hb dX6_readSunset_80 (by decide) ?_
              refine lv_iload_n hx hb dX6_readSunset_82 rfl (lv_at hl 2 rfl) ?_
              refine z_imul (z := (100 * (q_dgt T n ps))) hx hb (by omega) dX6_readSunset_83 ?_
              refine lv_bipush (v := iZ (10)) hx hb dX6_readSunset_84 (by decide) ?_
              refine lv_iload_n hx hb dX6_readSunset_86 rfl (lv_at hl 1 rfl) ?_
              refine z_imul (z := (-90)) hx hb (by omega) dX6_readSunset_87 ?_
              refine z_iadd (z := (100 * (q_dgt T n ps) - 90)) hx hb (by omega) dX6_readSunset_88 ?_
              refine lv_iload_n hx hb dX6_readSunset_89 rfl (lv_at hl 0 rfl) ?_
              refine z_iadd (z := (100 * (q_dgt T n ps) - 99)) hx hb (by omega) dX6_readSunset_90 ?_
              refine g_iast (j := 2) hx hb hG (o := 171) (hdm 171 (by decide)) (fun f => rfl) (by omega) (by omega) (by omega) dX6_readSunset_91 (fun H locs hG => ?_)
              obtain ⟨M24, hM24⟩ : ∃ X, X = (q_wr M2 171 2 (100 * (q_dgt T n ps) - 99)) := ⟨_, rfl⟩
              rw [← hM24] at hG
              have h29 : M24 169 3 = (((ps + 1) : Nat) : Int) := by rw [hM24, wr_off _ _ _ (by decide)]; exact h2_M2
              have hfx9 : q_fm M M24 := by rw [hM24]; exact q_fm.wp hfx_M2
              refine lv_iload_n hx hb dX6_readSunset_92 rfl (lv_at hl 0 rfl) ?_
              refine lv_bipush (v := iZ (-9)) hx hb dX6_readSunset_93 (by decide) ?_
              refine z_icmp_eq (tgt := 102) hx hb (by decide) (by decide) dX6_readSunset_95 (by decide) (fun c_95 => ?_) (fun c_95 => ?_)
              · skip
                refine lv_iconst (v := iZ 0) hx hb dX6_readSunset_102 rfl ?_
                have hsn : q_sn T n ps = 1 := q_sn_1 (by omega) (by omega)
                exact g_zret (post := fun z M1 => z = (if q_sn T n ps = 3 then 1 else 0) ∧ M1 169 3 = ((ps + q_sn T n ps : Nat) : Int) ∧ q_fm M M1 ∧ (q_sn T n ps = 3 → M1 171 = q_sun (M 171) (q_sv T n ps))) (z := 0) hx hb hr hG hlocks (Or.inl rfl) (⟨by rw [hsn, if_neg (by decide)], by rw [hsn]; have e9 := h29; omega, hfx9, fun h9 => by omega⟩) dX6_readSunset_103
              · exfalso; omega
      · skip
        refine lv_bipush (v := iZ (6)) hx hb dX6_readSunset_24 (by decide) ?_
        refine lv_goto (tgt := 30) hx hb dX6_readSunset_26 (by decide) ?_
        refine lv_iload_n hx hb dX6_readSunset_30 rfl (lv_at hl 0 rfl) ?_
        refine lv_bipush (v := iZ (6)) hx hb dX6_readSunset_31 (by decide) ?_
        refine z_icmp_ne (tgt := 40) hx hb (by omega) (by decide) dX6_readSunset_33 (by decide) (fun c_33 => ?_) (fun c_33 => ?_)
        · skip
          refine lv_bipush (v := iZ (9)) hx hb dX6_readSunset_40 (by decide) ?_
          refine g_callV (b := 169) (As := [.int (iZ 6), .int (iZ 9)]) (rest := []) ⟨hx, hb, hml, hown, hts⟩ (c_X6_digit l G M2 hdm T n (ps + 1) hn (by omega) ((hfx_M2.1 170 (by decide) (by decide)).trans hTx) ((hfx_M2.2 2 (by decide)).trans h1) h2_M2 hch 6 9 (by omega) (by omega)) (cwV 2 hts gX6_readSunset_X6_digit rfl rfl rfl (by decide +kernel) ⟨Nat.le_of_ble_eq_true rfl, Nat.le_of_ble_eq_true rfl⟩) hG (g_recv hG (b := 169) (hdm 169 (by decide)) rfl rfl) rfl hl.1 rfl (Nat.le_of_ble_eq_true rfl) dX6_readSunset_42 ⟨Nat.zero_le _, Nat.zero_le _⟩ (fun z25 M26 H locs hp_42 hG => ?_)
          rcases hp_42 with ⟨ha_42, hb1_42, hb2_42, hz_42, hM_42⟩ | ⟨hn_42, hz_42, hM_42⟩
          · skip
            replace hz_42 := hz_42.symm; subst hz_42
            have hdg_42 := q_dgt_in T n (ps + 1)
            have h2_M26 : M26 169 3 = (((ps + 2) : Nat) : Int) := by rw [hM_42, wr_eq]; omega
            have hfx_M26 : q_fm M M26 := by rw [hM_42]; exact q_fm.wr hfx_M2
            have hpv_M26_171 : M26 171 = (M 171) := by rw [hM_42, wr_off _ _ _ (by decide)]; exact hpv_M2_171
            refine lv_istore_n (lv' := [(2, .int (iZ (q_dgt T n (ps + 1)))), (1, .int (iZ (q_dgt T n ps))), (0, .ref (gad G 169))]) hx hb dX6_readSunset_45 rfl hl (by decide) rfl (fun ls hl => ?_)
            refine lv_iload_n hx hb dX6_readSunset_46 rfl (lv_at hl 0 rfl) ?_
            refine lv_bipush (v := iZ (-9)) hx hb dX6_readSunset_47 (by decide) ?_
            refine z_icmp_ne (tgt := 57) hx hb (by omega) (by decide) dX6_readSunset_49 (by decide) (fun c_49 => ?_) (fun c_49 => ?_)
            · skip
              refine lv_aload_n hx hb dX6_readSunset_57 rfl (lv_at hl 2 rfl) ?_
              refine lv_iconst (v := iZ 0) hx hb dX6_readSunset_58 rfl ?_
              refine lv_iload_n hx hb dX6_readSunset_59 rfl (lv_at hl 1 rfl) ?_
              refine lv_bipush (v := iZ (6)) hx hb dX6_readSunset_60 (by decide) ?_
              refine z_icmp_ne (tgt := 69) hx hb (by omega) (by decide) dX6_readSunset_62 (by decide) (fun c_62 => ?_) (fun c_62 => ?_)
              · skip
                refine lv_bipush (v := iZ (9)) hx hb dX6_readSunset_69 (by decide) ?_
                refine g_callV (b := 169) (As := [.int (iZ 0), .int (iZ 9)]) (rest := []) ⟨hx, hb, hml, hown, hts⟩ (c_X6_digit l G M26 hdm T n (ps + 2) hn (by omega) ((hfx_M26.1 170 (by decide) (by decide)).trans hTx) ((hfx_M26.2 2 (by decide)).trans h1) h2_M26 hch 0 9 (by omega) (by omega)) (cwV 2 hts gX6_readSunset_X6_digit rfl rfl rfl (by decide +kernel) ⟨Nat.le_of_ble_eq_true rfl, Nat.le_of_ble_eq_true rfl⟩) hG (g_recv hG (b := 169) (hdm 169 (by decide)) rfl rfl) rfl hl.1 rfl (Nat.le_of_ble_eq_true rfl) dX6_readSunset_71 ⟨Nat.zero_le _, Nat.zero_le _⟩ (fun z27 M28 H locs hp_71 hG => ?_)
                rcases hp_71 with ⟨ha_71, hb1_71, hb2_71, hz_71, hM_71⟩ | ⟨hn_71, hz_71, hM_71⟩
                · skip
                  replace hz_71 := hz_71.symm; subst hz_71
                  have hdg_71 := q_dgt_in T n (ps + 2)
                  have h2_M28 : M28 169 3 = (((ps + 3) : Nat) : Int) := by rw [hM_71, wr_eq]; omega
                  have hfx_M28 : q_fm M M28 := by rw [hM_71]; exact q_fm.wr hfx_M26
                  have hpv_M28_171 : M28 171 = (M 171) := by rw [hM_71, wr_off _ _ _ (by decide)]; exact hpv_M26_171
                  refine lv_istore_n (lv' := [(3, .int (iZ (q_dgt T n (ps + 2)))), (2, .int (iZ (q_dgt T n (ps + 1)))), (1, .int (iZ (q_dgt T n ps))), (0, .ref (gad G 169))]) hx hb dX6_readSunset_74 rfl hl (by decide) rfl (fun ls hl => ?_)
                  refine lv_aload_n hx hb dX6_readSunset_75 rfl (lv_at hl 3 rfl) ?_
                  refine g_get hx hb hts hinX6 hown hG (o := 169) (hdm 169 (by decide)) rfl rfl 4 (by decide) f13 (fun _ h => h) rfl dX6_readSunset_76 ?_
                  refine lv_iconst (v := iZ 2) hx hb dX6_readSunset_79 rfl ?_
                  refine lv_bipush (v := iZ (100)) hx hb dX6_readSunset_80 (by decide) ?_
                  refine lv_iload_n hx hb dX6_readSunset_82 rfl (lv_at hl 2 rfl) ?_
                  refine z_imul (z := (100 * (q_dgt T n ps))) hx hb (by omega) dX6_readSunset_83 ?_
                  refine lv_bipush (v := iZ (10)) hx hb dX6_readSunset_84 (by decide) ?_
                  refine lv_iload_n hx hb dX6_readSunset_86 rfl (lv_at hl 1 rfl) ?_
                  refine z_imul (z := (10 * (q_dgt T n (ps + 1)))) hx hb (by omega) dX6_readSunset_87 ?_
                  refine z_iadd (z := (100 * (q_dgt T n ps) + 10 * (q_dgt T n (ps + 1)))) hx hb (by omega) dX6_readSunset_88 ?_
                  refine lv_iload_n hx hb dX6_readSunset_89 rfl (lv_at hl 0 rfl) ?_
                  refine z_iadd (z := (100 * (q_dgt T n ps) + 10 * (q_dgt T n (ps + 1)) + (q_dgt T n (ps + 2)))) hx hb (by omega) dX6_readSunset_90 ?_
                  refine g_iast (j := 2) hx hb hG (o := 171) (hdm 171 (by decide)) (fun f => rfl) (by omega) (by omega) (by omega) dX6_readSunset_91 (fun H locs hG => ?_)
                  obtain ⟨M29, hM29⟩ : ∃ X, X = (q_wr M28 171 2 (100 * (q_dgt T n ps) + 10 * (q_dgt T n (ps + 1)) + (q_dgt T n (ps + 2)))) := ⟨_, rfl⟩
                  rw [← hM29] at hG
                  have h29 : M29 169 3 = (((ps + 3) : Nat) : Int) := by rw [hM29, wr_off _ _ _ (by decide)]; exact h2_M28
                  have hfx9 : q_fm M M29 := by rw [hM29]; exact q_fm.wp hfx_M28
                  refine lv_iload_n hx hb dX6_readSunset_92 rfl (lv_at hl 0 rfl) ?_
                  refine lv_bipush (v := iZ (-9)) hx hb dX6_readSunset_93 (by decide) ?_
                  refine z_icmp_eq (tgt := 102) hx hb (by omega) (by decide) dX6_readSunset_95 (by decide) (fun c_95 => ?_) (fun c_95 => ?_)
                  · exfalso; omega
                  · skip
                    refine lv_iconst (v := iZ 1) hx hb dX6_readSunset_98 rfl ?_
                    refine lv_goto (tgt := 103) hx hb dX6_readSunset_99 (by decide) ?_
                    have hsn : q_sn T n ps = 3 := q_sn_3 (by omega) (by omega) (by omega)
                    exact g_zret (post := fun z M1 => z = (if q_sn T n ps = 3 then 1 else 0) ∧ M1 169 3 = ((ps + q_sn T n ps : Nat) : Int) ∧ q_fm M M1 ∧ (q_sn T n ps = 3 → M1 171 = q_sun (M 171) (q_sv T n ps))) (z := 1) hx hb hr hG hlocks (Or.inr rfl) (⟨by rw [hsn, if_pos rfl], by rw [hsn]; have e9 := h29; omega, hfx9, fun _ => by rw [hM29, wr_at, hpv_M28_171]; unfold q_sun q_sv; congr 1⟩) dX6_readSunset_103
                · skip
                  replace hz_71 := hz_71.symm; subst hz_71; replace hM_71 := hM_71.symm; subst hM_71
                  have hdg_71 := q_dgt_in T n (ps + 2)
                  refine lv_istore_n (lv' := [(3, .int (iZ (-9))), (2, .int (iZ (q_dgt T n (ps + 1)))), (1, .int (iZ (q_dgt T n ps))), (0, .ref (gad G 169))]) hx hb dX6_readSunset_74 rfl hl (by decide) rfl (fun ls hl => ?_)
                  refine lv_aload_n hx hb dX6_readSunset_75 rfl (lv_at hl 3 rfl) ?_
                  refine g_get hx hb hts hinX6 hown hG (o := 169) (hdm 169 (by decide)) rfl rfl 4 (by decide) f13 (fun _ h => h) rfl dX6_readSunset_76 ?_
                  refine lv_iconst (v := iZ 2) hx hb dX6_readSunset_79 rfl ?_
                  refine lv_bipush (v := iZ (100)) hx hb dX6_readSunset_80 (by decide) ?_
                  refine lv_iload_n hx hb dX6_readSunset_82 rfl (lv_at hl 2 rfl) ?_
                  refine z_imul (z := (100 * (q_dgt T n ps))) hx hb (by omega) dX6_readSunset_83 ?_
                  refine lv_bipush (v := iZ (10)) hx hb dX6_readSunset_84 (by decide) ?_
                  refine lv_iload_n hx hb dX6_readSunset_86 rfl (lv_at hl 1 rfl) ?_
                  refine z_imul (z := (10 * (q_dgt T n (ps + 1)))) hx hb (by omega) dX6_readSunset_87 ?_
                  refine z_iadd (z := (100 * (q_dgt T n ps) + 10 * (q_dgt T n (ps + 1)))) hx hb (by omega) dX6_readSunset_88 ?_
                  refine lv_iload_n hx hb dX6_readSunset_89 rfl (lv_at hl 0 rfl) ?_
                  refine z_iadd (z := (100 * (q_dgt T n ps) + 10 * (q_dgt T n (ps + 1)) - 9)) hx hb (by omega) dX6_readSunset_90 ?_
                  refine g_iast (j := 2) hx hb hG (o := 171) (hdm 171 (by decide)) (fun f => rfl) (by omega) (by omega) (by omega) dX6_readSunset_91 (fun H locs hG => ?_)
                  obtain ⟨M30, hM30⟩ : ∃ X, X = (q_wr M26 171 2 (100 * (q_dgt T n ps) + 10 * (q_dgt T n (ps + 1)) - 9)) := ⟨_, rfl⟩
                  rw [← hM30] at hG
                  have h29 : M30 169 3 = (((ps + 2) : Nat) : Int) := by rw [hM30, wr_off _ _ _ (by decide)]; exact h2_M26
                  have hfx9 : q_fm M M30 := by rw [hM30]; exact q_fm.wp hfx_M26
                  refine lv_iload_n hx hb dX6_readSunset_92 rfl (lv_at hl 0 rfl) ?_
                  refine lv_bipush (v := iZ (-9)) hx hb dX6_readSunset_93 (by decide) ?_
                  refine z_icmp_eq (tgt := 102) hx hb (by decide) (by decide) dX6_readSunset_95 (by decide) (fun c_95 => ?_) (fun c_95 => ?_)
                  · skip
                    refine lv_iconst (v := iZ 0) hx hb dX6_readSunset_102 rfl ?_
                    have hsn : q_sn T n ps = 2 := q_sn_2 (by omega) (by omega) (by omega)
                    exact g_zret (post := fun z M1 => z = (if q_sn T n ps = 3 then 1 else 0) ∧ M1 169 3 = ((ps + q_sn T n ps : Nat) : Int) ∧ q_fm M M1 ∧ (q_sn T n ps = 3 → M1 171 = q_sun (M 171) (q_sv T n ps))) (z := 0) hx hb hr hG hlocks (Or.inl rfl) (⟨by rw [hsn, if_neg (by decide)], by rw [hsn]; have e9 := h29; omega, hfx9, fun h9 => by omega⟩) dX6_readSunset_103
                  · exfalso; omega
              · skip
                refine lv_iconst (v := iZ 0) hx hb dX6_readSunset_65 rfl ?_
                refine lv_goto (tgt := 71) hx hb dX6_readSunset_66 (by decide) ?_
                refine g_callV (b := 169) (As := [.int (iZ 0), .int (iZ 0)]) (rest := []) ⟨hx, hb, hml, hown, hts⟩ (c_X6_digit l G M26 hdm T n (ps + 2) hn (by omega) ((hfx_M26.1 170 (by decide) (by decide)).trans hTx) ((hfx_M26.2 2 (by decide)).trans h1) h2_M26 hch 0 0 (by omega) (by omega)) (cwV 2 hts gX6_readSunset_X6_digit rfl rfl rfl (by decide +kernel) ⟨Nat.le_of_ble_eq_true rfl, Nat.le_of_ble_eq_true rfl⟩) hG (g_recv hG (b := 169) (hdm 169 (by decide)) rfl rfl) rfl hl.1 rfl (Nat.le_of_ble_eq_true rfl) dX6_readSunset_71 ⟨Nat.zero_le _, Nat.zero_le _⟩ (fun z31 M32 H locs hp_71 hG => ?_)
                rcases hp_71 with ⟨ha_71, hb1_71, hb2_71, hz_71, hM_71⟩ | ⟨hn_71, hz_71, hM_71⟩
                · skip
                  replace hz_71 := hz_71.symm; subst hz_71
                  have hdg_71 := q_dgt_in T n (ps + 2)
                  have h2_M32 : M32 169 3 = (((ps + 3) : Nat) : Int) := by rw [hM_71, wr_eq]; omega
                  have hfx_M32 : q_fm M M32 := by rw [hM_71]; exact q_fm.wr hfx_M26
                  have hpv_M32_171 : M32 171 = (M 171) := by rw [hM_71, wr_off _ _ _ (by decide)]; exact hpv_M26_171
                  refine lv_istore_n (lv' := [(3, .int (iZ (q_dgt T n (ps + 2)))), (2, .int (iZ (q_dgt T n (ps + 1)))), (1, .int (iZ (q_dgt T n ps))), (0, .ref (gad G 169))]) hx hb dX6_readSunset_74 rfl hl (by decide) rfl (fun ls hl => ?_)
                  refine lv_aload_n hx hb dX6_readSunset_75 rfl (lv_at hl 3 rfl) ?_
                  refine g_get hx hb hts hinX6 hown hG (o := 169) (hdm 169 (by decide)) rfl rfl 4 (by decide) f13 (fun _ h => h) rfl dX6_readSunset_76 ?_
                  refine lv_iconst (v := iZ 2) hx hb dX6_readSunset_79 rfl ?_
                  refine lv_bipush (v := iZ (100)) hx hb dX6_readSunset_80 (by decide) ?_
                  refine lv_iload_n hx hb dX6_readSunset_82 rfl (lv_at hl 2 rfl) ?_
                  refine z_imul (z := (100 * (q_dgt T n ps))) hx hb (by omega) dX6_readSunset_83 ?_
                  refine lv_bipush (v := iZ (10)) hx hb dX6_readSunset_84 (by decide) ?_
                  refine lv_iload_n hx hb dX6_readSunset_86 rfl (lv_at hl 1 rfl) ?_
                  refine z_imul (z := (10 * (q_dgt T n (ps + 1)))) hx hb (by omega) dX6_readSunset_87 ?_
                  refine z_iadd (z := (100 * (q_dgt T n ps) + 10 * (q_dgt T n (ps + 1)))) hx hb (by omega) dX6_readSunset_88 ?_
                  refine lv_iload_n hx hb dX6_readSunset_89 rfl (lv_at hl 0 rfl) ?_
                  refine z_iadd (z := (100 * (q_dgt T n ps) + 10 * (q_dgt T n (ps + 1)) + (q_dgt T n (ps + 2)))) hx hb (by omega) dX6_readSunset_90 ?_
                  refine g_iast (j := 2) hx hb hG (o := 171) (hdm 171 (by decide)) (fun f => rfl) (by omega) (by omega) (by omega) dX6_readSunset_91 (fun H locs hG => ?_)
                  obtain ⟨M33, hM33⟩ : ∃ X, X = (q_wr M32 171 2 (100 * (q_dgt T n ps) + 10 * (q_dgt T n (ps + 1)) + (q_dgt T n (ps + 2)))) := ⟨_, rfl⟩
                  rw [← hM33] at hG
                  have h29 : M33 169 3 = (((ps + 3) : Nat) : Int) := by rw [hM33, wr_off _ _ _ (by decide)]; exact h2_M32
                  have hfx9 : q_fm M M33 := by rw [hM33]; exact q_fm.wp hfx_M32
                  refine lv_iload_n hx hb dX6_readSunset_92 rfl (lv_at hl 0 rfl) ?_
                  refine lv_bipush (v := iZ (-9)) hx hb dX6_readSunset_93 (by decide) ?_
                  refine z_icmp_eq (tgt := 102) hx hb (by omega) (by decide) dX6_readSunset_95 (by decide) (fun c_95 => ?_) (fun c_95 => ?_)
                  · exfalso; omega
                  · skip
                    refine lv_iconst (v := iZ 1) hx hb dX6_readSunset_98 rfl ?_
                    refine lv_goto (tgt := 103) hx hb dX6_readSunset_99 (by decide) ?_
                    have hsn : q_sn T n ps = 3 := q_sn_3 (by omega) (by omega) (by omega)
                    exact g_zret (post := fun z M1 => z = (if q_sn T n ps = 3 then 1 else 0) ∧ M1 169 3 = ((ps + q_sn T n ps : Nat) : Int) ∧ q_fm M M1 ∧ (q_sn T n ps = 3 → M1 171 = q_sun (M 171) (q_sv T n ps))) (z := 1) hx hb hr hG hlocks (Or.inr rfl) (⟨by rw [hsn, if_pos rfl], by rw [hsn]; have e9 := h29; omega, hfx9, fun _ => by rw [hM33, wr_at, hpv_M32_171]; unfold q_sun q_sv; congr 1⟩) dX6_readSunset_103
                · skip
                  replace hz_71 := hz_71.symm; subst hz_71; replace hM_71 := hM_71.symm; subst hM_71
                  have hdg_71 := q_dgt_in T n (ps + 2)
                  refine lv_istore_n (lv' := [(3, .int (iZ (-9))), (2, .int (iZ (q_dgt T n (ps + 1)))), (1, .int (iZ (q_dgt T n ps))), (0, .ref (gad G 169))]) hx hb dX6_readSunset_74 rfl hl (by decide) rfl (fun ls hl => ?_)
                  refine lv_aload_n hx hb dX6_readSunset_75 rfl (lv_at hl 3 rfl) ?_
                  refine g_get hx hb hts hinX6 hown hG (o := 169) (hdm 169 (by decide)) rfl rfl 4 (by decide) f13 (fun _ h => h) rfl dX6_readSunset_76 ?_
                  refine lv_iconst (v := iZ 2) hx hb dX6_readSunset_79 rfl ?_
                  refine lv_bipush (v := iZ (100)) hx hb dX6_readSunset_80 (by decide) ?_
                  refine lv_iload_n hx hb dX6_readSunset_82 rfl (lv_at hl 2 rfl) ?_
                  refine z_imul (z := (100 * (q_dgt T n ps))) hx hb (by omega) dX6_readSunset_83 ?_
                  refine lv_bipush (v := iZ (10)) hx hb dX6_readSunset_84 (by decide) ?_
                  refine lv_iload_n hx hb dX6_readSunset_86 rfl (lv_at hl 1 rfl) ?_
                  refine z_imul (z := (10 * (q_dgt T n (ps + 1)))) hx hb (by omega) dX6_readSunset_87 ?_
                  refine z_iadd (z := (100 * (q_dgt T n ps) + 10 * (q_dgt T n (ps + 1)))) hx hb (by omega) dX6_readSunset_88 ?_
                  refine lv_iload_n hx hb dX6_readSunset_89 rfl (lv_at hl 0 rfl) ?_
                  refine z_iadd (z := (100 * (q_dgt T n ps) + 10 * (q_dgt T n (ps + 1)) - 9)) hx hb (by omega) dX6_readSunset_90 ?_
                  refine g_iast (j := 2) hx hb hG (o := 171) (hdm 171 (by decide)) (fun f => rfl) (by omega) (by omega) (by omega) dX6_readSunset_91 (fun H locs hG => ?_)
                  obtain ⟨M34, hM34⟩ : ∃ X, X = (q_wr M26 171 2 (100 * (q_dgt T n ps) + 10 * (q_dgt T n (ps + 1)) - 9)) := ⟨_, rfl⟩
                  rw [← hM34] at hG
                  have h29 : M34 169 3 = (((ps + 2) : Nat) : Int) := by rw [hM34, wr_off _ _ _ (by decide)]; exact h2_M26
                  have hfx9 : q_fm M M34 := by rw [hM34]; exact q_fm.wp hfx_M26
                  refine lv_iload_n hx hb dX6_readSunset_92 rfl (lv_at hl 0 rfl) ?_
                  refine lv_bipush (v := iZ (-9)) hx hb dX6_readSunset_93 (by decide) ?_
                  refine z_icmp_eq (tgt := 102) hx hb (by decide) (by decide) dX6_readSunset_95 (by decide) (fun c_95 => ?_) (fun c_95 => ?_)
                  · skip
                    refine lv_iconst (v := iZ 0) hx hb dX6_readSunset_102 rfl ?_
                    have hsn : q_sn T n ps = 2 := q_sn_2 (by omega) (by omega) (by omega)
                    exact g_zret (post := fun z M1 => z = (if q_sn T n ps = 3 then 1 else 0) ∧ M1 169 3 = ((ps + q_sn T n ps : Nat) : Int) ∧ q_fm M M1 ∧ (q_sn T n ps = 3 → M1 171 = q_sun (M 171) (q_sv T n ps))) (z := 0) hx hb hr hG hlocks (Or.inl rfl) (⟨by rw [hsn, if_neg (by decide)], by rw [hsn]; have e9 := h29; omega, hfx9, fun h9 => by omega⟩) dX6_readSunset_103
                  · exfalso; omega
            · exfalso; omega
          · skip
            replace hz_42 := hz_42.symm; subst hz_42; replace hM_42 := hM_42.symm; subst hM_42
            have hdg_42 := q_dgt_in T n (ps + 1)
            refine lv_istore_n (lv' := [(2, .int (iZ (-9))), (1, .int (iZ (q_dgt T n ps))), (0, .ref (gad G 169))]) hx hb dX6_readSunset_45 rfl hl (by decide) rfl (fun ls hl => ?_)
            refine lv_iload_n hx hb dX6_readSunset_46 rfl (lv_at hl 0 rfl) ?_
            refine lv_bipush (v := iZ (-9)) hx hb dX6_readSunset_47 (by decide) ?_
            refine z_icmp_ne (tgt := 57) hx hb (by decide) (by decide) dX6_readSunset_49 (by decide) (fun c_49 => ?_) (fun c_49 => ?_)
            · exfalso; omega
            · skip
              refine lv_bipush (v := iZ (-9)) hx hb dX6_readSunset_52 (by decide) ?_
              refine lv_goto (tgt := 74) hx hb dX6_readSunset_54 (by decide) ?_
              refine lv_istore_n (lv' := [(3, .int (iZ (-9))), (2, .int (iZ (-9))), (1, .int (iZ (q_dgt T n ps))), (0, .ref (gad G 169))]) hx hb dX6_readSunset_74 rfl hl (by decide) rfl (fun ls hl => ?_)
              refine lv_aload_n hx hb dX6_readSunset_75 rfl (lv_at hl 3 rfl) ?_
              refine g_get hx hb hts hinX6 hown hG (o := 169) (hdm 169 (by decide)) rfl rfl 4 (by decide) f13 (fun _ h => h) rfl dX6_readSunset_76 ?_
              refine lv_iconst (v := iZ 2) hx hb dX6_readSunset_79 rfl ?_
              refine lv_bipush (v := iZ (100)) hx hb dX6_readSunset_80 (by decide) ?_
              refine lv_iload_n hx hb dX6_readSunset_82 rfl (lv_at hl 2 rfl) ?_
              refine z_imul (z := (100 * (q_dgt T n ps))) hx hb (by omega) dX6_readSunset_83 ?_
              refine lv_bipush (v := iZ (10)) hx hb dX6_readSunset_84 (by decide) ?_
              refine lv_iload_n hx hb dX6_readSunset_86 rfl (lv_at hl 1 rfl) ?_
              refine z_imul (z := (-90)) hx hb (by omega) dX6_readSunset_87 ?_
              refine z_iadd (z := (100 * (q_dgt T n ps) - 90)) hx hb (by omega) dX6_readSunset_88 ?_
              refine lv_iload_n hx hb dX6_readSunset_89 rfl (lv_at hl 0 rfl) ?_
              refine z_iadd (z := (100 * (q_dgt T n ps) - 99)) hx hb (by omega) dX6_readSunset_90 ?_
              refine g_iast (j := 2) hx hb hG (o := 171) (hdm 171 (by decide)) (fun f => rfl) (by omega) (by omega) (by omega) dX6_readSunset_91 (fun H locs hG => ?_)
              obtain ⟨M35, hM35⟩ : ∃ X, X = (q_wr M2 171 2 (100 * (q_dgt T n ps) - 99)) := ⟨_, rfl⟩
              rw [← hM35] at hG
              have h29 : M35 169 3 = (((ps + 1) : Nat) : Int) := by rw [hM35, wr_off _ _ _ (by decide)]; exact h2_M2
              have hfx9 : q_fm M M35 := by rw [hM35]; exact q_fm.wp hfx_M2
              refine lv_iload_n hx hb dX6_readSunset_92 rfl (lv_at hl 0 rfl) ?_
              refine lv_bipush (v := iZ (-9)) hx hb dX6_readSunset_93 (by decide) ?_
              refine z_icmp_eq (tgt := 102) hx hb (by decide) (by decide) dX6_readSunset_95 (by decide) (fun c_95 => ?_) (fun c_95 => ?_)
              · skip
                refine lv_iconst (v := iZ 0) hx hb dX6_readSunset_102 rfl ?_
                have hsn : q_sn T n ps = 1 := q_sn_1 (by omega) (by omega)
                exact g_zret (post := fun z M1 => z = (if q_sn T n ps = 3 then 1 else 0) ∧ M1 169 3 = ((ps + q_sn T n ps : Nat) : Int) ∧ q_fm M M1 ∧ (q_sn T n ps = 3 → M1 171 = q_sun (M 171) (q_sv T n ps))) (z := 0) hx hb hr hG hlocks (Or.inl rfl) (⟨by rw [hsn, if_neg (by decide)], by rw [hsn]; have e9 := h29; omega, hfx9, fun h9 => by omega⟩) dX6_readSunset_103
              · exfalso; omega
        · skip
          refine lv_iconst (v := iZ 0) hx hb dX6_readSunset_36 rfl ?_
          refine lv_goto (tgt := 42) hx hb dX6_readSunset_37 (by decide) ?_
          refine g_callV (b := 169) (As := [.int (iZ 6), .int (iZ 0)]) (rest := []) ⟨hx, hb, hml, hown, hts⟩ (c_X6_digit l G M2 hdm T n (ps + 1) hn (by omega) ((hfx_M2.1 170 (by decide) (by decide)).trans hTx) ((hfx_M2.2 2 (by decide)).trans h1) h2_M2 hch 6 0 (by omega) (by omega)) (cwV 2 hts gX6_readSunset_X6_digit rfl rfl rfl (by decide +kernel) ⟨Nat.le_of_ble_eq_true rfl, Nat.le_of_ble_eq_true rfl⟩) hG (g_recv hG (b := 169) (hdm 169 (by decide)) rfl rfl) rfl hl.1 rfl (Nat.le_of_ble_eq_true rfl) dX6_readSunset_42 ⟨Nat.zero_le _, Nat.zero_le _⟩ (fun z36 M37 H locs hp_42 hG => ?_)
          rcases hp_42 with ⟨ha_42, hb1_42, hb2_42, hz_42, hM_42⟩ | ⟨hn_42, hz_42, hM_42⟩
          · skip
            replace hz_42 := hz_42.symm; subst hz_42
            have hdg_42 := q_dgt_in T n (ps + 1)
            have h2_M37 : M37 169 3 = (((ps + 2) : Nat) : Int) := by rw [hM_42, wr_eq]; omega
            have hfx_M37 : q_fm M M37 := by rw [hM_42]; exact q_fm.wr hfx_M2
            have hpv_M37_171 : M37 171 = (M 171) := by rw [hM_42, wr_off _ _ _ (by decide)]; exact hpv_M2_171
            refine lv_istore_n (lv' := [(2, .int (iZ (q_dgt T n (ps + 1)))), (1, .int (iZ (q_dgt T n ps))), (0, .ref (gad G 169))]) hx hb dX6_readSunset_45 rfl hl (by decide) rfl (fun ls hl => ?_)
            refine lv_iload_n hx hb dX6_readSunset_46 rfl (lv_at hl 0 rfl) ?_
            refine lv_bipush (v := iZ (-9)) hx hb dX6_readSunset_47 (by decide) ?_
            refine z_icmp_ne (tgt := 57) hx hb (by omega) (by decide) dX6_readSunset_49 (by decide) (fun c_49 => ?_) (fun c_49 => ?_)
            · skip
              refine lv_aload_n hx hb dX6_readSunset_57 rfl (lv_at hl 2 rfl) ?_
              refine lv_iconst (v := iZ 0) hx hb dX6_readSunset_58 rfl ?_
              refine lv_iload_n hx hb dX6_readSunset_59 rfl (lv_at hl 1 rfl) ?_
              refine lv_bipush (v := iZ (6)) hx hb dX6_readSunset_60 (by decide) ?_
              refine z_icmp_ne (tgt := 69) hx hb (by omega) (by decide) dX6_readSunset_62 (by decide) (fun c_62 => ?_) (fun c_62 => ?_)
              · skip
                refine lv_bipush (v := iZ (9)) hx hb dX6_readSunset_69 (by decide) ?_
                refine g_callV (b := 169) (As := [.int (iZ 0), .int (iZ 9)]) (rest := []) ⟨hx, hb, hml, hown, hts⟩ (c_X6_digit l G M37 hdm T n (ps + 2) hn (by omega) ((hfx_M37.1 170 (by decide) (by decide)).trans hTx) ((hfx_M37.2 2 (by decide)).trans h1) h2_M37 hch 0 9 (by omega) (by omega)) (cwV 2 hts gX6_readSunset_X6_digit rfl rfl rfl (by decide +kernel) ⟨Nat.le_of_ble_eq_true rfl, Nat.le_of_ble_eq_true rfl⟩) hG (g_recv hG (b := 169) (hdm 169 (by decide)) rfl rfl) rfl hl.1 rfl (Nat.le_of_ble_eq_true rfl) dX6_readSunset_71 ⟨Nat.zero_le _, Nat.zero_le _⟩ (fun z38 M39 H locs hp_71 hG => ?_)
                rcases hp_71 with ⟨ha_71, hb1_71, hb2_71, hz_71, hM_71⟩ | ⟨hn_71, hz_71, hM_71⟩
                · skip
                  replace hz_71 := hz_71.symm; subst hz_71
                  have hdg_71 := q_dgt_in T n (ps + 2)
                  have h2_M39 : M39 169 3 = (((ps + 3) : Nat) : Int) := by rw [hM_71, wr_eq]; omega
                  have hfx_M39 : q_fm M M39 := by rw [hM_71]; exact q_fm.wr hfx_M37
                  have hpv_M39_171 : M39 171 = (M 171) := by rw [hM_71, wr_off _ _ _ (by decide)]; exact hpv_M37_171
                  refine lv_istore_n (lv' := [(3, .int (iZ (q_dgt T n (ps + 2)))), (2, .int (iZ (q_dgt T n (ps + 1)))), (1, .int (iZ (q_dgt T n ps))), (0, .ref (gad G 169))]) hx hb dX6_readSunset_74 rfl hl (by decide) rfl (fun ls hl => ?_)
                  refine lv_aload_n hx hb dX6_readSunset_75 rfl (lv_at hl 3 rfl) ?_
                  refine g_get hx hb hts hinX6 hown hG (o := 169) (hdm 169 (by decide)) rfl rfl 4 (by decide) f13 (fun _ h => h) rfl dX6_readSunset_76 ?_
                  refine lv_iconst (v := iZ 2) hx hb dX6_readSunset_79 rfl ?_
                  refine lv_bipush (v := iZ (100)) hx hb dX6_readSunset_80 (by decide) ?_
                  refine lv_iload_n hx hb dX6_readSunset_82 rfl (lv_at hl 2 rfl) ?_
                  refine z_imul (z := (100 * (q_dgt T n ps))) hx hb (by omega) dX6_readSunset_83 ?_
                  refine lv_bipush (v := iZ (10)) hx hb dX6_readSunset_84 (by decide) ?_
                  refine lv_iload_n hx hb dX6_readSunset_86 rfl (lv_at hl 1 rfl) ?_
                  refine z_imul (z := (10 * (q_dgt T n (ps + 1)))) hx hb (by omega) dX6_readSunset_87 ?_
                  refine z_iadd (z := (100 * (q_dgt T n ps) + 10 * (q_dgt T n (ps + 1)))) hx hb (by omega) dX6_readSunset_88 ?_
                  refine lv_iload_n hx hb dX6_readSunset_89 rfl (lv_at hl 0 rfl) ?_
                  refine z_iadd (z := (100 * (q_dgt T n ps) + 10 * (q_dgt T n (ps + 1)) + (q_dgt T n (ps + 2)))) hx hb (by omega) dX6_readSunset_90 ?_
                  refine g_iast (j := 2) hx hb hG (o := 171) (hdm 171 (by decide)) (fun f => rfl) (by omega) (by omega) (by omega) dX6_readSunset_91 (fun H locs hG => ?_)
                  obtain ⟨M40, hM40⟩ : ∃ X, X = (q_wr M39 171 2 (100 * (q_dgt T n ps) + 10 * (q_dgt T n (ps + 1)) + (q_dgt T n (ps + 2)))) := ⟨_, rfl⟩
                  rw [← hM40] at hG
                  have h29 : M40 169 3 = (((ps + 3) : Nat) : Int) := by rw [hM40, wr_off _ _ _ (by decide)]; exact h2_M39
                  have hfx9 : q_fm M M40 := by rw [hM40]; exact q_fm.wp hfx_M39
                  refine lv_iload_n hx hb dX6_readSunset_92 rfl (lv_at hl 0 rfl) ?_
                  refine lv_bipush (v := iZ (-9)) hx hb dX6_readSunset_93 (by decide) ?_
                  refine z_icmp_eq (tgt := 102) hx hb (by omega) (by decide) dX6_readSunset_95 (by decide) (fun c_95 => ?_) (fun c_95 => ?_)
                  · exfalso; omega
                  · skip
                    refine lv_iconst (v := iZ 1) hx hb dX6_readSunset_98 rfl ?_
                    refine lv_goto (tgt := 103) hx hb dX6_readSunset_99 (by decide) ?_
                    have hsn : q_sn T n ps = 3 := q_sn_3 (by omega) (by omega) (by omega)
                    exact g_zret (post := fun z M1 => z = (if q_sn T n ps = 3 then 1 else 0) ∧ M1 169 3 = ((ps + q_sn T n ps : Nat) : Int) ∧ q_fm M M1 ∧ (q_sn T n ps = 3 → M1 171 = q_sun (M 171) (q_sv T n ps))) (z := 1) hx hb hr hG hlocks (Or.inr rfl) (⟨by rw [hsn, if_pos rfl], by rw [hsn]; have e9 := h29; omega, hfx9, fun _ => by rw [hM40, wr_at, hpv_M39_171]; unfold q_sun q_sv; congr 1⟩) dX6_readSunset_103
                · skip
                  replace hz_71 := hz_71.symm; subst hz_71; replace hM_71 := hM_71.symm; subst hM_71
                  have hdg_71 := q_dgt_in T n (ps + 2)
                  refine lv_istore_n (lv' := [(3, .int (iZ (-9))), (2, .int (iZ (q_dgt T n (ps + 1)))), (1, .int (iZ (q_dgt T n ps))), (0, .ref (gad G 169))]) hx hb dX6_readSunset_74 rfl hl (by decide) rfl (fun ls hl => ?_)
                  refine lv_aload_n hx hb dX6_readSunset_75 rfl (lv_at hl 3 rfl) ?_
                  refine g_get hx hb hts hinX6 hown hG (o := 169) (hdm 169 (by decide)) rfl rfl 4 (by decide) f13 (fun _ h => h) rfl dX6_readSunset_76 ?_
                  refine lv_iconst (v := iZ 2) hx hb dX6_readSunset_79 rfl ?_
                  refine lv_bipush (v := iZ (100)) hx hb dX6_readSunset_80 (by decide) ?_
                  refine lv_iload_n hx hb dX6_readSunset_82 rfl (lv_at hl 2 rfl) ?_
                  refine z_imul (z := (100 * (q_dgt T n ps))) hx hb (by omega) dX6_readSunset_83 ?_
                  refine lv_bipush (v := iZ (10)) hx hb dX6_readSunset_84 (by decide) ?_
                  refine lv_iload_n hx hb dX6_readSunset_86 rfl (lv_at hl 1 rfl) ?_
                  refine z_imul (z := (10 * (q_dgt T n (ps + 1)))) hx hb (by omega) dX6_readSunset_87 ?_
                  refine z_iadd (z := (100 * (q_dgt T n ps) + 10 * (q_dgt T n (ps + 1)))) hx hb (by omega) dX6_readSunset_88 ?_
                  refine lv_iload_n hx hb dX6_readSunset_89 rfl (lv_at hl 0 rfl) ?_
                  refine z_iadd (z := (100 * (q_dgt T n ps) + 10 * (q_dgt T n (ps + 1)) - 9)) hx hb (by omega) dX6_readSunset_90 ?_
                  refine g_iast (j := 2) hx hb hG (o := 171) (hdm 171 (by decide)) (fun f => rfl) (by omega) (by omega) (by omega) dX6_readSunset_91 (fun H locs hG => ?_)
                  obtain ⟨M41, hM41⟩ : ∃ X, X = (q_wr M37 171 2 (100 * (q_dgt T n ps) + 10 * (q_dgt T n (ps + 1)) - 9)) := ⟨_, rfl⟩
                  rw [← hM41] at hG
                  have h29 : M41 169 3 = (((ps + 2) : Nat) : Int) := by rw [hM41, wr_off _ _ _ (by decide)]; exact h2_M37
                  have hfx9 : q_fm M M41 := by rw [hM41]; exact q_fm.wp hfx_M37
                  refine lv_iload_n hx hb dX6_readSunset_92 rfl (lv_at hl 0 rfl) ?_
                  refine lv_bipush (v := iZ (-9)) hx hb dX6_readSunset_93 (by decide) ?_
                  refine z_icmp_eq (tgt := 102) hx hb (by decide) (by decide) dX6_readSunset_95 (by decide) (fun c_95 => ?_) (fun c_95 => ?_)
                  · skip
                    refine lv_iconst (v := iZ 0) hx hb dX6_readSunset_102 rfl ?_
                    have hsn : q_sn T n ps = 2 := q_sn_2 (by omega) (by omega) (by omega)
                    exact g_zret (post := fun z M1 => z = (if q_sn T n ps = 3 then 1 else 0) ∧ M1 169 3 = ((ps + q_sn T n ps : Nat) : Int) ∧ q_fm M M1 ∧ (q_sn T n ps = 3 → M1 171 = q_sun (M 171) (q_sv T n ps))) (z := 0) hx hb hr hG hlocks (Or.inl rfl) (⟨by rw [hsn, if_neg (by decide)], by rw [hsn]; have e9 := h29; omega, hfx9, fun h9 => by omega⟩) dX6_readSunset_103
                  · exfalso; omega
              · skip
                refine lv_iconst (v := iZ 0) hx hb dX6_readSunset_65 rfl ?_
                refine lv_goto (tgt := 71) hx hb dX6_readSunset_66 (by decide) ?_
                refine g_callV (b := 169) (As := [.int (iZ 0), .int (iZ 0)]) (rest := []) ⟨hx, hb, hml, hown, hts⟩ (c_X6_digit l G M37 hdm T n (ps + 2) hn (by omega) ((hfx_M37.1 170 (by decide) (by decide)).trans hTx) ((hfx_M37.2 2 (by decide)).trans h1) h2_M37 hch 0 0 (by omega) (by omega)) (cwV 2 hts gX6_readSunset_X6_digit rfl rfl rfl (by decide +kernel) ⟨Nat.le_of_ble_eq_true rfl, Nat.le_of_ble_eq_true rfl⟩) hG (g_recv hG (b := 169) (hdm 169 (by decide)) rfl rfl) rfl hl.1 rfl (Nat.le_of_ble_eq_true rfl) dX6_readSunset_71 ⟨Nat.zero_le _, Nat.zero_le _⟩ (fun z42 M43 H locs hp_71 hG => ?_)
                rcases hp_71 with ⟨ha_71, hb1_71, hb2_71, hz_71, hM_71⟩ | ⟨hn_71, hz_71, hM_71⟩
                · skip
                  replace hz_71 := hz_71.symm; subst hz_71
                  have hdg_71 := q_dgt_in T n (ps + 2)
                  have h2_M43 : M43 169 3 = (((ps + 3) : Nat) : Int) := by rw [hM_71, wr_eq]; omega
                  have hfx_M43 : q_fm M M43 := by rw [hM_71]; exact q_fm.wr hfx_M37
                  have hpv_M43_171 : M43 171 = (M 171) := by rw [hM_71, wr_off _ _ _ (by decide)]; exact hpv_M37_171
                  refine lv_istore_n (lv' := [(3, .int (iZ (q_dgt T n (ps + 2)))), (2, .int (iZ (q_dgt T n (ps + 1)))), (1, .int (iZ (q_dgt T n ps))), (0, .ref (gad G 169))]) hx hb dX6_readSunset_74 rfl hl (by decide) rfl (fun ls hl => ?_)
                  refine lv_aload_n hx hb dX6_readSunset_75 rfl (lv_at hl 3 rfl) ?_
                  refine g_get hx hb hts hinX6 hown hG (o := 169) (hdm 169 (by decide)) rfl rfl 4 (by decide) f13 (fun _ h => h) rfl dX6_readSunset_76 ?_
                  refine lv_iconst (v := iZ 2) hx hb dX6_readSunset_79 rfl ?_
                  refine lv_bipush (v := iZ (100)) hx hb dX6_readSunset_80 (by decide) ?_
                  refine lv_iload_n hx hb dX6_readSunset_82 rfl (lv_at hl 2 rfl) ?_
                  refine z_imul (z := (100 * (q_dgt T n ps))) hx hb (by omega) dX6_readSunset_83 ?_
                  refine lv_bipush (v := iZ (10)) hx hb dX6_readSunset_84 (by decide) ?_
                  refine lv_iload_n hx hb dX6_readSunset_86 rfl (lv_at hl 1 rfl) ?_
                  refine z_imul (z := (10 * (q_dgt T n (ps + 1)))) hx hb (by omega) dX6_readSunset_87 ?_
                  refine z_iadd (z := (100 * (q_dgt T n ps) + 10 * (q_dgt T n (ps + 1)))) hx hb (by omega) dX6_readSunset_88 ?_
                  refine lv_iload_n hx hb dX6_readSunset_89 rfl (lv_at hl 0 rfl) ?_
                  refine z_iadd (z := (100 * (q_dgt T n ps) + 10 * (q_dgt T n (ps + 1)) + (q_dgt T n (ps + 2)))) hx hb (by omega) dX6_readSunset_90 ?_
                  refine g_iast (j := 2) hx hb hG (o := 171) (hdm 171 (by decide)) (fun f => rfl) (by omega) (by omega) (by omega) dX6_readSunset_91 (fun H locs hG => ?_)
                  obtain ⟨M44, hM44⟩ : ∃ X, X = (q_wr M43 171 2 (100 * (q_dgt T n ps) + 10 * (q_dgt T n (ps + 1)) + (q_dgt T n (ps + 2)))) := ⟨_, rfl⟩
                  rw [← hM44] at hG
                  have h29 : M44 169 3 = (((ps + 3) : Nat) : Int) := by rw [hM44, wr_off _ _ _ (by decide)]; exact h2_M43
                  have hfx9 : q_fm M M44 := by rw [hM44]; exact q_fm.wp hfx_M43
                  refine lv_iload_n hx hb dX6_readSunset_92 rfl (lv_at hl 0 rfl) ?_
                  refine lv_bipush (v := iZ (-9)) hx hb dX6_readSunset_93 (by decide) ?_
                  refine z_icmp_eq (tgt := 102) hx hb (by omega) (by decide) dX6_readSunset_95 (by decide) (fun c_95 => ?_) (fun c_95 => ?_)
                  · exfalso; omega
                  · skip
                    refine lv_iconst (v := iZ 1) hx hb dX6_readSunset_98 rfl ?_
                    refine lv_goto (tgt := 103) hx hb dX6_readSunset_99 (by decide) ?_
                    have hsn : q_sn T n ps = 3 := q_sn_3 (by omega) (by omega) (by omega)
                    exact g_zret (post := fun z M1 => z = (if q_sn T n ps = 3 then 1 else 0) ∧ M1 169 3 = ((ps + q_sn T n ps : Nat) : Int) ∧ q_fm M M1 ∧ (q_sn T n ps = 3 → M1 171 = q_sun (M 171) (q_sv T n ps))) (z := 1) hx hb hr hG hlocks (Or.inr rfl) (⟨by rw [hsn, if_pos rfl], by rw [hsn]; have e9 := h29; omega, hfx9, fun _ => by rw [hM44, wr_at, hpv_M43_171]; unfold q_sun q_sv; congr 1⟩) dX6_readSunset_103
                · skip
                  replace hz_71 := hz_71.symm; subst hz_71; replace hM_71 := hM_71.symm; subst hM_71
                  have hdg_71 := q_dgt_in T n (ps + 2)
                  refine lv_istore_n (lv' := [(3, .int (iZ (-9))), (2, .int (iZ (q_dgt T n (ps + 1)))), (1, .int (iZ (q_dgt T n ps))), (0, .ref (gad G 169))]) hx hb dX6_readSunset_74 rfl hl (by decide) rfl (fun ls hl => ?_)
                  refine lv_aload_n hx hb dX6_readSunset_75 rfl (lv_at hl 3 rfl) ?_
                  refine g_get hx hb hts hinX6 hown hG (o := 169) (hdm 169 (by decide)) rfl rfl 4 (by decide) f13 (fun _ h => h) rfl dX6_readSunset_76 ?_
                  refine lv_iconst (v := iZ 2) hx hb dX6_readSunset_79 rfl ?_
                  refine lv_bipush (v := iZ (100)) hx hb dX6_readSunset_80 (by decide) ?_
                  refine lv_iload_n hx hb dX6_readSunset_82 rfl (lv_at hl 2 rfl) ?_
                  refine z_imul (z := (100 * (q_dgt T n ps))) hx hb (by omega) dX6_readSunset_83 ?_
                  refine lv_bipush (v := iZ (10)) hx hb dX6_readSunset_84 (by decide) ?_
                  refine lv_iload_n hx hb dX6_readSunset_86 rfl (lv_at hl 1 rfl) ?_
                  refine z_imul (z := (10 * (q_dgt T n (ps + 1)))) hx hb (by omega) dX6_readSunset_87 ?_
                  refine z_iadd (z := (100 * (q_dgt T n ps) + 10 * (q_dgt T n (ps + 1)))) hx hb (by omega) dX6_readSunset_88 ?_
                  refine lv_iload_n hx hb dX6_readSunset_89 rfl (lv_at hl 0 rfl) ?_
                  refine z_iadd (z := (100 * (q_dgt T n ps) + 10 * (q_dgt T n (ps + 1)) - 9)) hx hb (by omega) dX6_readSunset_90 ?_
                  refine g_iast (j := 2) hx hb hG (o := 171) (hdm 171 (by decide)) (fun f => rfl) (by omega) (by omega) (by omega) dX6_readSunset_91 (fun H locs hG => ?_)
                  obtain ⟨M45, hM45⟩ : ∃ X, X = (q_wr M37 171 2 (100 * (q_dgt T n ps) + 10 * (q_dgt T n (ps + 1)) - 9)) := ⟨_, rfl⟩
                  rw [← hM45] at hG
                  have h29 : M45 169 3 = (((ps + 2) : Nat) : Int) := by rw [hM45, wr_off _ _ _ (by decide)]; exact h2_M37
                  have hfx9 : q_fm M M45 := by rw [hM45]; exact q_fm.wp hfx_M37
                  refine lv_iload_n hx hb dX6_readSunset_92 rfl (lv_at hl 0 rfl) ?_
                  refine lv_bipush (v := iZ (-9)) hx hb dX6_readSunset_93 (by decide) ?_
                  refine z_icmp_eq (tgt := 102) hx hb (by decide) (by decide) dX6_readSunset_95 (by decide) (fun c_95 => ?_) (fun c_95 => ?_)
                  · skip
                    refine lv_iconst (v := iZ 0) hx hb dX6_readSunset_102 rfl ?_
                    have hsn : q_sn T n ps = 2 := q_sn_2 (by omega) (by omega) (by omega)
                    exact g_zret (post := fun z M1 => z = (if q_sn T n ps = 3 then 1 else 0) ∧ M1 169 3 = ((ps + q_sn T n ps : Nat) : Int) ∧ q_fm M M1 ∧ (q_sn T n ps = 3 → M1 171 = q_sun (M 171) (q_sv T n ps))) (z := 0) hx hb hr hG hlocks (Or.inl rfl) (⟨by rw [hsn, if_neg (by decide)], by rw [hsn]; have e9 := h29; omega, hfx9, fun h9 => by omega⟩) dX6_readSunset_103
                  · exfalso; omega
            · exfalso; omega
          · skip
            replace hz_42 := hz_42.symm; subst hz_42; replace hM_42 := hM_42.symm; subst hM_42
            have hdg_42 := q_dgt_in T n (ps + 1)
            refine lv_istore_n (lv' := [(2, .int (iZ (-9))), (1, .int (iZ (q_dgt T n ps))), (0, .ref (gad G 169))]) hx hb dX6_readSunset_45 rfl hl (by decide) rfl (fun ls hl => ?_)
            refine lv_iload_n hx hb dX6_readSunset_46 rfl (lv_at hl 0 rfl) ?_
            refine lv_bipush (v := iZ (-9)) hx hb dX6_readSunset_47 (by decide) ?_
            refine z_icmp_ne (tgt := 57) hx hb (by decide) (by decide) dX6_readSunset_49 (by decide) (fun c_49 => ?_) (fun c_49 => ?_)
            · exfalso; omega
            · skip
              refine lv_bipush (v := iZ (-9)) hx hb dX6_readSunset_52 (by decide) ?_
              refine lv_goto (tgt := 74) hx hb dX6_readSunset_54 (by decide) ?_
              refine lv_istore_n (lv' := [(3, .int (iZ (-9))), (2, .int (iZ (-9))), (1, .int (iZ (q_dgt T n ps))), (0, .ref (gad G 169))]) hx hb dX6_readSunset_74 rfl hl (by decide) rfl (fun ls hl => ?_)
              refine lv_aload_n hx hb dX6_readSunset_75 rfl (lv_at hl 3 rfl) ?_
              refine g_get hx hb hts hinX6 hown hG (o := 169) (hdm 169 (by decide)) rfl rfl 4 (by decide) f13 (fun _ h => h) rfl dX6_readSunset_76 ?_
              refine lv_iconst (v := iZ 2) hx hb dX6_readSunset_79 rfl ?_
              refine lv_bipush (v := iZ (100)) hx hb dX6_readSunset_80 (by decide) ?_
              refine lv_iload_n hx hb dX6_readSunset_82 rfl (lv_at hl 2 rfl) ?_
              refine z_imul (z := (100 * (q_dgt T n ps))) hx hb (by omega) dX6_readSunset_83 ?_
              refine lv_bipush (v := iZ (10)) hx hb dX6_readSunset_84 (by decide) ?_
              refine lv_iload_n hx hb dX6_readSunset_86 rfl (lv_at hl 1 rfl) ?_
              refine z_imul (z := (-90)) hx hb (by omega) dX6_readSunset_87 ?_
              refine z_iadd (z := (100 * (q_dgt T n ps) - 90)) hx hb (by omega) dX6_readSunset_88 ?_
              refine lv_iload_n hx hb dX6_readSunset_89 rfl (lv_at hl 0 rfl) ?_
              refine z_iadd (z := (100 * (q_dgt T n ps) - 99)) hx hb (by omega) dX6_readSunset_90 ?_
              refine g_iast (j := 2) hx hb hG (o := 171) (hdm 171 (by decide)) (fun f => rfl) (by omega) (by omega) (by omega) dX6_readSunset_91 (fun H locs hG => ?_)
              obtain ⟨M46, hM46⟩ : ∃ X, X = (q_wr M2 171 2 (100 * (q_dgt T n ps) - 99)) := ⟨_, rfl⟩
              rw [← hM46] at hG
              have h29 : M46 169 3 = (((ps + 1) : Nat) : Int) := by rw [hM46, wr_off _ _ _ (by decide)]; exact h2_M2
              have hfx9 : q_fm M M46 := by rw [hM46]; exact q_fm.wp hfx_M2
              refine lv_iload_n hx hb dX6_readSunset_92 rfl (lv_at hl 0 rfl) ?_
              refine lv_bipush (v := iZ (-9)) hx hb dX6_readSunset_93 (by decide) ?_
              refine z_icmp_eq (tgt := 102) hx hb (by decide) (by decide) dX6_readSunset_95 (by decide) (fun c_95 => ?_) (fun c_95 => ?_)
              · skip
                refine lv_iconst (v := iZ 0) hx hb dX6_readSunset_102 rfl ?_
                have hsn : q_sn T n ps = 1 := q_sn_1 (by omega) (by omega)
                exact g_zret (post := fun z M1 => z = (if q_sn T n ps = 3 then 1 else 0) ∧ M1 169 3 = ((ps + q_sn T n ps : Nat) : Int) ∧ q_fm M M1 ∧ (q_sn T n ps = 3 → M1 171 = q_sun (M 171) (q_sv T n ps))) (z := 0) hx hb hr hG hlocks (Or.inl rfl) (⟨by rw [hsn, if_neg (by decide)], by rw [hsn]; have e9 := h29; omega, hfx9, fun h9 => by omega⟩) dX6_readSunset_103
              · exfalso; omega
    · exfalso; omega
  · skip
    replace hz_4 := hz_4.symm; subst hz_4; replace hM_4 := hM_4.symm; subst hM_4
    have hdg_4 := q_dgt_in T n ps
    refine lv_istore_n (lv' := [(1, .int (iZ (-9))), (0, .ref (gad G 169))]) hx hb dX6_readSunset_7 rfl hl (by decide) rfl (fun ls hl => ?_)
    refine lv_iload_n hx hb dX6_readSunset_8 rfl (lv_at hl 0 rfl) ?_
    refine lv_bipush (v := iZ (-9)) hx hb dX6_readSunset_9 (by decide) ?_
    refine z_icmp_ne (tgt := 19) hx hb (by decide) (by decide) dX6_readSunset_11 (by decide) (fun c_11 => ?_) (fun c_11 => ?_)
    · exfalso; omega
    · skip
      refine lv_bipush (v := iZ (-9)) hx hb dX6_readSunset_14 (by decide) ?_
      refine lv_goto (tgt := 45) hx hb dX6_readSunset_16 (by decide) ?_
      refine lv_istore_n (lv' := [(2, .int (iZ (-9))), (1, .int (iZ (-9))), (0, .ref (gad G 169))]) hx hb dX6_readSunset_45 rfl hl (by decide) rfl (fun ls hl => ?_)
      refine lv_iload_n hx hb dX6_readSunset_46 rfl (lv_at hl 0 rfl) ?_
      refine lv_bipush (v := iZ (-9)) hx hb dX6_readSunset_47 (by decide) ?_
      refine z_icmp_ne (tgt := 57) hx hb (by decide) (by decide) dX6_readSunset_49 (by decide) (fun c_49 => ?_) (fun c_49 => ?_)
      · exfalso; omega
      · skip
        refine lv_bipush (v := iZ (-9)) hx hb dX6_readSunset_52 (by decide) ?_
        refine lv_goto (tgt := 74) hx hb dX6_readSunset_54 (by decide) ?_
        refine lv_istore_n (lv' := [(3, .int (iZ (-9))), (2, .int (iZ (-9))), (1, .int (iZ (-9))), (0, .ref (gad G 169))]) hx hb dX6_readSunset_74 rfl hl (by decide) rfl (fun ls hl => ?_)
        refine lv_aload_n hx hb dX6_readSunset_75 rfl (lv_at hl 3 rfl) ?_
        refine g_get hx hb hts hinX6 hown hG (o := 169) (hdm 169 (by decide)) rfl rfl 4 (by decide) f13 (fun _ h => h) rfl dX6_readSunset_76 ?_
        refine lv_iconst (v := iZ 2) hx hb dX6_readSunset_79 rfl ?_
        refine lv_bipush (v := iZ (100)) hx hb dX6_readSunset_80 (by decide) ?_
        refine lv_iload_n hx hb dX6_readSunset_82 rfl (lv_at hl 2 rfl) ?_
        refine z_imul (z := (-900)) hx hb (by omega) dX6_readSunset_83 ?_
        refine lv_bipush (v := iZ (10)) hx hb dX6_readSunset_84 (by decide) ?_
        refine lv_iload_n hx hb dX6_readSunset_86 rfl (lv_at hl 1 rfl) ?_
        refine z_imul (z := (-90)) hx hb (by omega) dX6_readSunset_87 ?_
        refine z_iadd (z := (-990)) hx hb (by omega) dX6_readSunset_88 ?_
        refine lv_iload_n hx hb dX6_readSunset_89 rfl (lv_at hl 0 rfl) ?_
        refine z_iadd (z := (-999)) hx hb (by omega) dX6_readSunset_90 ?_
        refine g_iast (j := 2) hx hb hG (o := 171) (hdm 171 (by decide)) (fun f => rfl) (by omega) (by omega) (by omega) dX6_readSunset_91 (fun H locs hG => ?_)
        obtain ⟨M47, hM47⟩ : ∃ X, X = (q_wr M 171 2 (-999)) := ⟨_, rfl⟩
        rw [← hM47] at hG
        have h29 : M47 169 3 = ((ps : Nat) : Int) := by rw [hM47, wr_off _ _ _ (by decide)]; exact h2
        have hfx9 : q_fm M M47 := by rw [hM47]; exact q_fm.wp (q_fm.rf M)
        refine lv_iload_n hx hb dX6_readSunset_92 rfl (lv_at hl 0 rfl) ?_
        refine lv_bipush (v := iZ (-9)) hx hb dX6_readSunset_93 (by decide) ?_
        refine z_icmp_eq (tgt := 102) hx hb (by decide) (by decide) dX6_readSunset_95 (by decide) (fun c_95 => ?_) (fun c_95 => ?_)
        · skip
          refine lv_iconst (v := iZ 0) hx hb dX6_readSunset_102 rfl ?_
          have hsn : q_sn T n ps = 0 := q_sn_0 (by omega)
          exact g_zret (post := fun z M1 => z = (if q_sn T n ps = 3 then 1 else 0) ∧ M1 169 3 = ((ps + q_sn T n ps : Nat) : Int) ∧ q_fm M M1 ∧ (q_sn T n ps = 3 → M1 171 = q_sun (M 171) (q_sv T n ps))) (z := 0) hx hb hr hG hlocks (Or.inl rfl) (⟨by rw [hsn, if_neg (by decide)], by rw [hsn]; have e9 := h29; omega, hfx9, fun h9 => by omega⟩) dX6_readSunset_103
        · exfalso; omega
set_option maxHeartbeats 4000000 in
set_option maxRecDepth 100000 in
theorem c_X6_isFree (l : Launch) (G : gG) (M : Nat → Nat → Int) (hdm : ∀ k, k < 179 → gdm G k) (hI : q_inv (M 171)) (d : Int) (hd : -1000 ≤ d ∧ d ≤ 1000) : gMi l yX6_isFree wsX6_isFree ({ frames := 2, cells := 0, slots := 0, locals := 44 } : Room) G M [.ref (gad G 169), .int (iZ d)] (fun z M1 => z = (if q_fre (M 171) d = true then 1 else 0) ∧ M1 = M) := by
  refine gMi_of (cc := cX6_isFree) (maxL := 2) (ret := some .boolean) (by decide) rfl (Nat.le_of_ble_eq_true rfl) ?_
  intro p e s m below meth c ls hx hb hr hml hown hts hlocks hl hG
  have hown : s.vm.findClass RX6 = some m.cls := hown
  have hl : lv_has ls 2 [(0, .ref (gad G 169)), (1, .int (iZ d))] := hl
  have hinX6 : ∀ w ∈ u_ws RX6 TX6 13, w ∈ wsX6_isFree := by decide +kernel
  have f13 := hts (.fieldLink RX6 13 "DogTrialsModel" "read" "[I") (by decide +kernel)
  refine lv_iload_n hx hb dX6_isFree_0 rfl (lv_at hl 1 rfl) ?_
  refine z_i2l hx hb (by omega) dX6_isFree_1 ?_
  refine lv_lconst (v := lZ 1) hx hb dX6_isFree_2 rfl ?_
  refine lv_ldc2 (v := lZ 99) hx hb hown (by rw [show lZ 99 = (99 : Int64) from by decide]; exact hts (.constantLong RX6 114 99) (by decide +kernel)) dX6_isFree_3 ?_
  refine g_callS (As := [.long (lZ d), .long (lZ 1), .long (lZ 99)]) (rest := []) ⟨hx, hb, hml, hown, hts⟩ (c_X6_in l G M d 1 99 (by omega) (by omega) (by omega)) (va_cwS 3 hts gX6_isFree_X6_in rfl rfl rfl (by decide +kernel) ⟨Nat.le_of_ble_eq_true rfl, Nat.le_of_ble_eq_true rfl⟩) hG rfl hl.1 rfl (Nat.le_of_ble_eq_true rfl) dX6_isFree_6 ⟨Nat.zero_le _, Nat.zero_le _⟩ (fun z1 M2 H locs hp_6 hG => ?_)
  obtain ⟨hz_6, hM_6⟩ := hp_6; replace hz_6 := hz_6.symm; subst hz_6; replace hM_6 := hM_6.symm; subst hM_6
  refine z_ifP_eq (tgt := 29) hx hb dX6_isFree_9 (by decide) (fun c_9 => ?_) (fun c_9 => ?_)
  · skip
    refine lv_iconst (v := iZ 0) hx hb dX6_isFree_29 rfl ?_
    exact g_zret (post := fun z M1 => z = (if q_fre (M 171) d = true then 1 else 0) ∧ M1 = M) (z := 0) hx hb hr hG hlocks (Or.inl rfl) (⟨by first | (rw [if_neg (q_fre_out c_9)]; done) | (rw [if_neg (q_fre_dn c_22)]; done) | (rw [if_pos (q_fre_yes c_9 (Bool.eq_false_iff.mpr c_22))]; done), rfl⟩) dX6_isFree_30
  · skip
    refine lv_aload_n hx hb dX6_isFree_12 rfl (lv_at hl 0 rfl) ?_
    refine g_get hx hb hts hinX6 hown hG (o := 169) (hdm 169 (by decide)) rfl rfl 4 (by decide) f13 (fun _ h => h) rfl dX6_isFree_13 ?_
    refine lv_iload_n hx hb dX6_isFree_16 rfl (lv_at hl 1 rfl) ?_
    refine lv_bipush (v := iZ (-9)) hx hb dX6_isFree_17 (by decide) ?_
    refine g_callS (As := [.ref (gad G 171), .int (iZ d), .int (iZ (-9))]) (rest := []) ⟨hx, hb, hml, hown, hts⟩ (c_X6_isDrawn l G M hdm 171 (Or.inl rfl) hI d (-9) (by omega) (by omega)) (va_cwS 3 hts gX6_isFree_X6_isDrawn rfl rfl rfl (by decide +kernel) ⟨Nat.le_of_ble_eq_true rfl, Nat.le_of_ble_eq_true rfl⟩) hG rfl hl.1 rfl (Nat.le_of_ble_eq_true rfl) dX6_isFree_19 ⟨Nat.zero_le _, Nat.zero_le _⟩ (fun z3 M4 H locs hp_19 hG => ?_)
    obtain ⟨hz_19, hM_19⟩ := hp_19; replace hz_19 := hz_19.symm; subst hz_19; replace hM_19 := hM_19.symm; subst hM_19
    refine z_ifP_ne (tgt := 29) hx hb dX6_isFree_22 (by decide) (fun c_22 => ?_) (fun c_22 => ?_)
    · skip
      refine lv_iconst (v := iZ 0) hx hb dX6_isFree_29 rfl ?_
      exact g_zret (post := fun z M1 => z = (if q_fre (M 171) d = true then 1 else 0) ∧ M1 = M) (z := 0) hx hb hr hG hlocks (Or.inl rfl) (⟨by first | (rw [if_neg (q_fre_out c_9)]; done) | (rw [if_neg (q_fre_dn c_22)]; done) | (rw [if_pos (q_fre_yes c_9 (Bool.eq_false_iff.mpr c_22))]; done), rfl⟩) dX6_isFree_30
    · skip
      refine lv_iconst (v := iZ 1) hx hb dX6_isFree_25 rfl ?_
      refine lv_goto (tgt := 30) hx hb dX6_isFree_26 (by decide) ?_
      exact g_zret (post := fun z M1 => z = (if q_fre (M 171) d = true then 1 else 0) ∧ M1 = M) (z := 1) hx hb hr hG hlocks (Or.inr rfl) (⟨by first | (rw [if_neg (q_fre_out c_9)]; done) | (rw [if_neg (q_fre_dn c_22)]; done) | (rw [if_pos (q_fre_yes c_9 (Bool.eq_false_iff.mpr c_22))]; done), rfl⟩) dX6_isFree_30
set_option maxHeartbeats 4000000 in
set_option maxRecDepth 100000 in
theorem c_X6_isOpen (l : Launch) (G : gG) (M : Nat → Nat → Int) (hdm : ∀ k, k < 179 → gdm G k) (hI : q_inv (M 171)) (t : Int) (ht : 0 ≤ t ∧ t ≤ 9) : gMi l yX6_isOpen wsX6_isOpen ({ frames := 3, cells := 0, slots := 0, locals := 65 } : Room) G M [.ref (gad G 169), .int (iZ t)] (fun z M1 => z = (if q_opn (M 171) t = true then 1 else 0) ∧ M1 = M) := by
  refine gMi_of (cc := cX6_isOpen) (maxL := 4) (ret := some .boolean) (by decide) rfl (Nat.le_of_ble_eq_true rfl) ?_
  intro p e s m below meth c ls hx hb hr hml hown hts hlocks hl hG
  have hown : s.vm.findClass RX6 = some m.cls := hown
  have hl : lv_has ls 4 [(0, .ref (gad G 169)), (1, .int (iZ t))] := hl
  refine lv_iconst (v := iZ 0) hx hb dX6_isOpen_0 rfl ?_
  refine lv_istore_n (lv' := [(2, .int (iZ 0)), (0, .ref (gad G 169)), (1, .int (iZ t))]) hx hb dX6_isOpen_1 rfl hl (by decide) rfl (fun ls hl => ?_)
  refine lv_iconst (v := iZ 0) hx hb dX6_isOpen_2 rfl ?_
  refine lv_istore_n (lv' := [(3, .int (iZ 0)), (2, .int (iZ 0)), (0, .ref (gad G 169)), (1, .int (iZ t))]) hx hb dX6_isOpen_3 rfl hl (by decide) rfl (fun ls hl => ?_)
  have L_4 : ∀ (n_4 : Nat) (k : Nat) (x_i : Int) (x_b : Int), (x_i = (k : Int)) → (x_b = (if q_any (fun j => q_fre (M 171) (10 * t + (j : Int))) k = true then 1 else 0)) → (k ≤ 10) → 10 - k < n_4 → ∀ (H : Heap) (locs : List Loc) (ls : Array Slot), gH G M s H locs → lv_has ls 4 [(3, .int (iZ x_i)), (2, .int (iZ x_b)), (0, .ref (gad G 169)), (1, .int (iZ t))] → W p l e ({ frames := 3, cells := 0, slots := 0, locals := 65 } : Room) s m [.ref (gad G 169), .int (iZ t)].toArray below meth c H locs 0 0 (MQ below (va_Qi (fun r (u : Int × (Nat → Nat → Int)) => r = iZ u.1 ∧ (fun z M1 => z = (if q_opn (M 171) t = true then 1 else 0) ∧ M1 = M) u.1 u.2) (fun u U => gB G u.2 U) (gA G)) [.ref (gad G 169), .int (iZ t)].toArray s 0 0 (gA G)) (F0 m 4 ls []) := by
    intro n_4
    induction n_4 with
    | zero => intro k x_i x_b he_x_i he_x_b hk hm_4; exact absurd hm_4 (Nat.not_lt_zero _)
    | succ n_4 ih_4 =>
      intro k x_i x_b he_x_i he_x_b hk hm_4 H locs ls hG hl
      subst he_x_i
      subst he_x_b
      refine lv_iload_n hx hb dX6_isOpen_4 rfl (lv_at hl 0 rfl) ?_
      refine lv_bipush (v := iZ (10)) hx hb dX6_isOpen_5 (by decide) ?_
      refine z_icmp_ge (tgt := 29) hx hb (by omega) (by decide) dX6_isOpen_7 (by decide) (fun c_7 => ?_) (fun c_7 => ?_)
      · skip
        refine lv_iload_n hx hb dX6_isOpen_29 rfl (lv_at hl 1 rfl) ?_
        exact g_zret (post := fun z M1 => z = (if q_opn (M 171) t = true then 1 else 0) ∧ M1 = M) (z := (if q_any (fun j => q_fre (M 171) (10 * t + (j : Int))) k = true then 1 else 0)) hx hb hr hG hlocks (by split <;> simp) (⟨by unfold q_opn; rw [show 10 = k by omega], rfl⟩) dX6_isOpen_30
      · skip
        refine lv_iload_n hx hb dX6_isOpen_10 rfl (lv_at hl 1 rfl) ?_
        refine lv_aload_n hx hb dX6_isOpen_11 rfl (lv_at hl 2 rfl) ?_
        refine lv_bipush (v := iZ (10)) hx hb dX6_isOpen_12 (by decide) ?_
        refine lv_iload_n hx hb dX6_isOpen_14 rfl (lv_at hl 3 rfl) ?_
        refine z_imul (z := (10 * t)) hx hb (by omega) dX6_isOpen_15 ?_
        refine lv_iload_n hx hb dX6_isOpen_16 rfl (lv_at hl 0 rfl) ?_
        refine z_iadd (z := (10 * t + (k : Int))) hx hb (by omega) dX6_isOpen_17 ?_
        refine g_callV (b := 169) (As := [.int (iZ (10 * t + (k : Int)))]) (rest := [.int (iZ (if q_any (fun j => q_fre (M 171) (10 * t + (j : Int))) k = true then 1 else 0))]) ⟨hx, hb, hml, hown, hts⟩ (c_X6_isFree l G M hdm hI (10 * t + (k : Int)) (by omega)) (cwV 1 hts gX6_isOpen_X6_isFree rfl rfl rfl (by decide +kernel) ⟨Nat.le_of_ble_eq_true rfl, Nat.le_of_ble_eq_true rfl⟩) hG (g_recv hG (b := 169) (hdm 169 (by decide)) rfl rfl) rfl hl.1 rfl (Nat.le_of_ble_eq_true rfl) dX6_isOpen_18 ⟨Nat.zero_le _, Nat.zero_le _⟩ (fun z1 M2 H locs hp_18 hG => ?_)
        obtain ⟨hz_18, hM_18⟩ := hp_18; replace hM_18 := hM_18.symm; subst hM_18
        by_cases hc_18 : q_fre (M 171) (10 * t + (k : Int)) = true
        · skip
          rw [if_pos hc_18] at hz_18; replace hz_18 := hz_18.symm; subst hz_18
          refine z_ior1 hx hb (by first | omega | (split <;> omega)) dX6_isOpen_21 ?_
          refine lv_istore_n (lv' := [(2, .int (iZ 1)), (3, .int (iZ (k : Int))), (0, .ref (gad G 169)), (1, .int (iZ t))]) hx hb dX6_isOpen_22 rfl hl (by decide) rfl (fun ls hl => ?_)
          refine z_iinc (z := ((k : Int) + 1)) (lv' := [(3, .int (iZ ((k : Int) + 1))), (2, .int (iZ 1)), (0, .ref (gad G 169)), (1, .int (iZ t))]) hx hb dX6_isOpen_23 hl (k := 1) rfl (by omega) (by decide) rfl (fun ls hl => ?_)
          refine lv_goto (tgt := 4) hx hb dX6_isOpen_26 (by decide) ?_
          exact ih_4 (k + 1) ((k : Int) + 1) 1  (by omega) (by rw [q_any]; simp [hc_18]) (by omega) (by omega) _ _ _ hG (lv_sub hl [0, 1, 2, 3] rfl)
        · skip
          rw [if_neg hc_18] at hz_18; replace hz_18 := hz_18.symm; subst hz_18
          refine z_ior0 hx hb dX6_isOpen_21 ?_
          refine lv_istore_n (lv' := [(2, .int (iZ (if q_any (fun j => q_fre (M 171) (10 * t + (j : Int))) k = true then 1 else 0))), (3, .int (iZ (k : Int))), (0, .ref (gad G 169)), (1, .int (iZ t))]) hx hb dX6_isOpen_22 rfl hl (by decide) rfl (fun ls hl => ?_)
          refine z_iinc (z := ((k : Int) + 1)) (lv' := [(3, .int (iZ ((k : Int) + 1))), (2, .int (iZ (if q_any (fun j => q_fre (M 171) (10 * t + (j : Int))) k = true then 1 else 0))), (0, .ref (gad G 169)), (1, .int (iZ t))]) hx hb dX6_isOpen_23 hl (k := 1) rfl (by omega) (by decide) rfl (fun ls hl => ?_)
          refine lv_goto (tgt := 4) hx hb dX6_isOpen_26 (by decide) ?_
          exact ih_4 (k + 1) ((k : Int) + 1) (if q_any (fun j => q_fre (M 171) (10 * t + (j : Int))) k = true then 1 else 0)  (by omega) (by rw [q_any]; simp [hc_18]) (by omega) (by omega) _ _ _ hG (lv_sub hl [0, 1, 2, 3] rfl)
  exact L_4 _ 0 0 0  rfl rfl (by omega) (Nat.lt_succ_self _) _ _ _ hG (lv_sub hl [0, 1, 2, 3] rfl)
set_option maxHeartbeats 4000000 in
set_option maxRecDepth 100000 in
theorem c_X6_readDog (l : Launch) (G : gG) (M : Nat → Nat → Int) (hdm : ∀ k, k < 179 → gdm G k) (T : Nat → Int) (n ps : Nat) (hn : n ≤ 70) (hs : ps ≤ n) (hTx : M 170 = T) (h1 : M 169 2 = (n : Int)) (h2 : M 169 3 = (ps : Int)) (hch : ∀ j, j < n → 0 ≤ T j ∧ T j ≤ 255) (hI : q_inv (M 171)) (hnd : q_nd (M 171) < 12) : gMi l yX6_readDog wsX6_readDog ({ frames := 4, cells := 0, slots := 0, locals := 88 } : Room) G M [.ref (gad G 169)] (fun z M1 => z = (if q_dg T n ps (M 171) = 3 then 1 else 0) ∧ M1 169 3 = ((ps + q_dg T n ps (M 171) : Nat) : Int) ∧ q_fm M M1 ∧ (q_dg T n ps (M 171) = 3 → M1 171 = q_dgp T n ps (M 171))) := by
  refine gMi_of (cc := cX6_readDog) (maxL := 4) (ret := some .boolean) (by decide) rfl (Nat.le_of_ble_eq_true rfl) ?_
  intro p e s m below meth c ls hx hb hr hml hown hts hlocks hl hG
  have hown : s.vm.findClass RX6 = some m.cls := hown
  have hl : lv_has ls 4 [(0, .ref (gad G 169))] := hl
  have hinX6 : ∀ w ∈ u_ws RX6 TX6 13, w ∈ wsX6_readDog := by decide +kernel
  have f13 := hts (.fieldLink RX6 13 "DogTrialsModel" "read" "[I") (by decide +kernel)
  have f105 := hts (.fieldLink RX6 105 "DogTrialsModel" "spot" "I") (by decide +kernel)
  have hnd0 := hI.1
  refine lv_aload_n hx hb dX6_readDog_0 rfl (lv_at hl 0 rfl) ?_
  refine lv_iconst (v := iZ 0) hx hb dX6_readDog_1 rfl ?_
  refine lv_iconst (v := iZ 5) hx hb dX6_readDog_2 rfl ?_
  refine g_callV (b := 169) (As := [.int (iZ 0), .int (iZ 5)]) (rest := []) ⟨hx, hb, hml, hown, hts⟩ (c_X6_digit l G M hdm T n ps hn (by omega) hTx h1 h2 hch 0 5 (by omega) (by omega)) (cwV 2 hts gX6_readDog_X6_digit rfl rfl rfl (by decide +kernel) ⟨Nat.le_of_ble_eq_true rfl, Nat.le_of_ble_eq_true rfl⟩) hG (g_recv hG (b := 169) (hdm 169 (by decide)) rfl rfl) rfl hl.1 rfl (Nat.le_of_ble_eq_true rfl) dX6_readDog_3 ⟨Nat.zero_le _, Nat.zero_le _⟩ (fun z1 M2 H locs hp_3 hG => ?_)
  rcases hp_3 with ⟨ha_3, hb1_3, hb2_3, hz_3, hM_3⟩ | ⟨hn_3, hz_3, hM_3⟩
  · skip
    replace hz_3 := hz_3.symm; subst hz_3
    have hdg_3 := q_dgt_in T n ps
    have h2_M2 : M2 169 3 = (((ps + 1) : Nat) : Int) := by rw [hM_3, wr_eq]; omega
    have hfx_M2 : q_fm M M2 := by rw [hM_3]; exact q_fm.wr (q_fm.rf M)
    have hpv_M2_171 : M2 171 = (M 171) := by rw [hM_3, wr_off _ _ _ (by decide)]
    refine lv_istore_n (lv' := [(1, .int (iZ (q_dgt T n ps))), (0, .ref (gad G 169))]) hx hb dX6_readDog_6 rfl hl (by decide) rfl (fun ls hl => ?_)
    refine lv_iload_n hx hb dX6_readDog_7 rfl (lv_at hl 0 rfl) ?_
    refine lv_bipush (v := iZ (-9)) hx hb dX6_readDog_8 (by decide) ?_
    refine z_icmp_ne (tgt := 18) hx hb (by omega) (by decide) dX6_readDog_10 (by decide) (fun c_10 => ?_) (fun c_10 => ?_)
    · skip
      refine lv_aload_n hx hb dX6_readDog_18 rfl (lv_at hl 1 rfl) ?_
      refine lv_iconst (v := iZ 0) hx hb dX6_readDog_19 rfl ?_
      refine lv_bipush (v := iZ (9)) hx hb dX6_readDog_20 (by decide) ?_
      refine g_callV (b := 169) (As := [.int (iZ 0), .int (iZ 9)]) (rest := []) ⟨hx, hb, hml, hown, hts⟩ (c_X6_digit l G M2 hdm T n (ps + 1) hn (by omega) ((hfx_M2.1 170 (by decide) (by decide)).trans hTx) ((hfx_M2.2 2 (by decide)).trans h1) h2_M2 hch 0 9 (by omega) (by omega)) (cwV 2 hts gX6_readDog_X6_digit rfl rfl rfl (by decide +kernel) ⟨Nat.le_of_ble_eq_true rfl, Nat.le_of_ble_eq_true rfl⟩) hG (g_recv hG (b := 169) (hdm 169 (by decide)) rfl rfl) rfl hl.1 rfl (Nat.le_of_ble_eq_true rfl) dX6_readDog_22 ⟨Nat.zero_le _, Nat.zero_le _⟩ (fun z3 M4 H locs hp_22 hG => ?_)
      rcases hp_22 with ⟨ha_22, hb1_22, hb2_22, hz_22, hM_22⟩ | ⟨hn_22, hz_22, hM_22⟩
      · skip
        replace hz_22 := hz_22.symm; subst hz_22
        have hdg_22 := q_dgt_in T n (ps + 1)
        have h2_M4 : M4 169 3 = (((ps + 2) : Nat) : Int) := by rw [hM_22, wr_eq]; omega
        have hfx_M4 : q_fm M M4 := by rw [hM_22]; exact q_fm.wr hfx_M2
        have hpv_M4_171 : M4 171 = (M 171) := by rw [hM_22, wr_off _ _ _ (by decide)]; exact hpv_M2_171
        refine lv_istore_n (lv' := [(2, .int (iZ (q_dgt T n (ps + 1)))), (1, .int (iZ (q_dgt T n ps))), (0, .ref (gad G 169))]) hx hb dX6_readDog_25 rfl hl (by decide) rfl (fun ls hl => ?_)
        refine lv_iload_n hx hb dX6_readDog_26 rfl (lv_at hl 0 rfl) ?_
        refine lv_bipush (v := iZ (-9)) hx hb dX6_readDog_27 (by decide) ?_
        refine z_icmp_ne (tgt := 34) hx hb (by omega) (by decide) dX6_readDog_29 (by decide) (fun c_29 => ?_) (fun c_29 => ?_)
        · skip
          refine lv_aload_n hx hb dX6_readDog_34 rfl (lv_at hl 2 rfl) ?_
          refine lv_iload_n hx hb dX6_readDog_35 rfl (lv_at hl 0 rfl) ?_
          refine g_callV (b := 169) (As := [.int (iZ (q_dgt T n (ps + 1)))]) (rest := []) ⟨hx, hb, hml, hown, hts⟩ (c_X6_isOpen l G M4 hdm (by rw [hpv_M4_171]; exact hI) (q_dgt T n (ps + 1)) (by omega)) (cwV 1 hts gX6_readDog_X6_isOpen rfl rfl rfl (by decide +kernel) ⟨Nat.le_of_ble_eq_true rfl, Nat.le_of_ble_eq_true rfl⟩) hG (g_recv hG (b := 169) (hdm 169 (by decide)) rfl rfl) rfl hl.1 rfl (Nat.le_of_ble_eq_true rfl) dX6_readDog_36 ⟨Nat.zero_le _, Nat.zero_le _⟩ (fun z5 M6 H locs hp_36 hG => ?_)
          rw [hpv_M4_171] at hp_36
          obtain ⟨hz_36, hM_36⟩ := hp_36; replace hM_36 := hM_36.symm; subst hM_36
          by_cases hc_36 : q_opn (M 171) (q_dgt T n (ps + 1)) = true
          · skip
            rw [if_pos hc_36] at hz_36; replace hz_36 := hz_36.symm; subst hz_36
            refine z_if_ne (tgt := 54) hx hb (by decide) dX6_readDog_39 (by decide) (fun c_39 => ?_) (fun c_39 => ?_)
            · skip
              refine lv_aload_n hx hb dX6_readDog_54 rfl (lv_at hl 2 rfl) ?_
              refine lv_iconst (v := iZ 0) hx hb dX6_readDog_55 rfl ?_
              refine lv_bipush (v := iZ (9)) hx hb dX6_readDog_56 (by decide) ?_
              refine g_callV (b := 169) (As := [.int (iZ 0), .int (iZ 9)]) (rest := []) ⟨hx, hb, hml, hown, hts⟩ (c_X6_digit l G M4 hdm T n (ps + 2) hn (by omega) ((hfx_M4.1 170 (by decide) (by decide)).trans hTx) ((hfx_M4.2 2 (by decide)).trans h1) h2_M4 hch 0 9 (by omega) (by omega)) (cwV 2 hts gX6_readDog_X6_digit rfl rfl rfl (by decide +kernel) ⟨Nat.le_of_ble_eq_true rfl, Nat.le_of_ble_eq_true rfl⟩) hG (g_recv hG (b := 169) (hdm 169 (by decide)) rfl rfl) rfl hl.1 rfl (Nat.le_of_ble_eq_true rfl) dX6_readDog_58 ⟨Nat.zero_le _, Nat.zero_le _⟩ (fun z7 M8 H locs hp_58 hG => ?_)
              rcases hp_58 with ⟨ha_58, hb1_58, hb2_58, hz_58, hM_58⟩ | ⟨hn_58, hz_58, hM_58⟩
              · skip
                replace hz_58 := hz_58.symm; subst hz_58
                have hdg_58 := q_dgt_in T n (ps + 2)
                have h2_M8 : M8 169 3 = (((ps + 3) : Nat) : Int) := by rw [hM_58, wr_eq]; omega
                have hfx_M8 : q_fm M M8 := by rw [hM_58]; exact q_fm.wr hfx_M4
                have hpv_M8_171 : M8 171 = (M 171) := by rw [hM_58, wr_off _ _ _ (by decide)]; exact hpv_M4_171
                refine lv_istore_n (lv' := [(3, .int (iZ (q_dgt T n (ps + 2)))), (2, .int (iZ (q_dgt T n (ps + 1)))), (1, .int (iZ (q_dgt T n ps))), (0, .ref (gad G 169))]) hx hb dX6_readDog_61 rfl hl (by decide) rfl (fun ls hl => ?_)
                refine lv_iload_n hx hb dX6_readDog_62 rfl (lv_at hl 0 rfl) ?_
                refine lv_bipush (v := iZ (-9)) hx hb dX6_readDog_63 (by decide) ?_
                refine z_icmp_ne (tgt := 70) hx hb (by omega) (by decide) dX6_readDog_65 (by decide) (fun c_65 => ?_) (fun c_65 => ?_)
                · skip
                  refine lv_aload_n hx hb dX6_readDog_70 rfl (lv_at hl 3 rfl) ?_
                  refine lv_bipush (v := iZ (10)) hx hb dX6_readDog_71 (by decide) ?_
                  refine lv_iload_n hx hb dX6_readDog_73 rfl (lv_at hl 1 rfl) ?_
                  refine z_imul (z := (10 * (q_dgt T n (ps + 1)))) hx hb (by omega) dX6_readDog_74 ?_
                  refine lv_iload_n hx hb dX6_readDog_75 rfl (lv_at hl 0 rfl) ?_
                  refine z_iadd (z := (10 * (q_dgt T n (ps + 1)) + (q_dgt T n (ps + 2)))) hx hb (by omega) dX6_readDog_76 ?_
                  refine g_callV (b := 169) (As := [.int (iZ (10 * (q_dgt T n (ps + 1)) + (q_dgt T n (ps + 2))))]) (rest := []) ⟨hx, hb, hml, hown, hts⟩ (c_X6_isFree l G M8 hdm (by rw [hpv_M8_171]; exact hI) (10 * (q_dgt T n (ps + 1)) + (q_dgt T n (ps + 2))) (by omega)) (cwV 1 hts gX6_readDog_X6_isFree rfl rfl rfl (by decide +kernel) ⟨Nat.le_of_ble_eq_true rfl, Nat.le_of_ble_eq_true rfl⟩) hG (g_recv hG (b := 169) (hdm 169 (by decide)) rfl rfl) rfl hl.1 rfl (Nat.le_of_ble_eq_true rfl) dX6_readDog_77 ⟨Nat.zero_le _, Nat.zero_le _⟩ (fun z9 M10 H locs hp_77 hG => ?_)
                  rw [hpv_M8_171] at hp_77
                  obtain ⟨hz_77, hM_77⟩ := hp_77; replace hM_77 := hM_77.symm; subst hM_77
                  by_cases hc_77 : q_fre (M 171) (10 * (q_dgt T n (ps + 1)) + (q_dgt T n (ps + 2))) = true
                  · skip
                    rw [if_pos hc_77] at hz_77; replace hz_77 := hz_77.symm; subst hz_77
                    refine z_if_ne (tgt := 95) hx hb (by decide) dX6_readDog_80 (by decide) (fun c_80 => ?_) (fun c_80 => ?_)
                    · skip
                      refine lv_aload_n hx hb dX6_readDog_95 rfl (lv_at hl 3 rfl) ?_
                      refine g_get hx hb hts hinX6 hown hG (o := 169) (hdm 169 (by decide)) rfl rfl 4 (by decide) f13 (fun _ h => h) rfl dX6_readDog_96 ?_
                      refine lv_iload_n hx hb dX6_readDog_99 rfl (lv_at hl 2 rfl) ?_
                      refine lv_bipush (v := iZ (10)) hx hb dX6_readDog_100 (by decide) ?_
                      refine lv_iload_n hx hb dX6_readDog_102 rfl (lv_at hl 1 rfl) ?_
                      refine z_imul (z := (10 * (q_dgt T n (ps + 1)))) hx hb (by omega) dX6_readDog_103 ?_
                      refine lv_iload_n hx hb dX6_readDog_104 rfl (lv_at hl 0 rfl) ?_
                      refine z_iadd (z := (10 * (q_dgt T n (ps + 1)) + (q_dgt T n (ps + 2)))) hx hb (by omega) dX6_readDog_105 ?_
                      refine g_vcallS (As := [.ref (gad G 171), .int (iZ (q_dgt T n ps)), .int (iZ (10 * (q_dgt T n (ps + 1)) + (q_dgt T n (ps + 2))))]) (rest := []) ⟨hx, hb, hml, hown, hts⟩ (c_X6_enterOn l G M8 hdm 171 (Or.inl rfl) (by rw [hpv_M8_171]; exact hI) (q_nd (M 171)).toNat (by rw [hpv_M8_171]; omega) (by omega) (q_dgt T n ps) (10 * (q_dgt T n (ps + 1)) + (q_dgt T n (ps + 2)))) (va_cwS 3 hts gX6_readDog_X6_enterOn rfl rfl rfl (by decide +kernel) ⟨Nat.le_of_ble_eq_true rfl, Nat.le_of_ble_eq_true rfl⟩) hG rfl hl.1 rfl (Nat.le_of_ble_eq_true rfl) dX6_readDog_106 ⟨Nat.zero_le _, Nat.zero_le _⟩ (fun M12 H locs hp_106 hG => ?_)
                      rw [hpv_M8_171] at hp_106
                      have hpv_M12_171 : M12 171 = q_dgp T n ps (M 171) := by rw [hp_106, q_set_at]; rfl
                      have h29 : M12 169 3 = (((ps + 3) : Nat) : Int) := by rw [hp_106, q_set_off _ _ (by decide)]; exact h2_M8
                      have hfx9 : q_fm M M12 := by rw [hp_106]; exact q_fm.set hfx_M8
                      refine lv_iconst (v := iZ 1) hx hb dX6_readDog_109 rfl ?_
                      have hdg : q_dg T n ps (M 171) = 3 := q_dg_3 (by omega) ⟨by omega, hc_36⟩ ⟨by omega, hc_77⟩
                      exact g_zret (post := fun z M1 => z = (if q_dg T n ps (M 171) = 3 then 1 else 0) ∧ M1 169 3 = ((ps + q_dg T n ps (M 171) : Nat) : Int) ∧ q_fm M M1 ∧ (q_dg T n ps (M 171) = 3 → M1 171 = q_dgp T n ps (M 171))) (z := 1) hx hb hr hG hlocks (Or.inr rfl) (⟨by rw [hdg, if_pos rfl], by rw [hdg]; have e9 := h29; omega, hfx9, fun _ => hpv_M12_171⟩) dX6_readDog_110
                    · exfalso; omega
                  · skip
                    rw [if_neg hc_77] at hz_77; replace hz_77 := hz_77.symm; subst hz_77
                    refine z_if_ne (tgt := 95) hx hb (by decide) dX6_readDog_80 (by decide) (fun c_80 => ?_) (fun c_80 => ?_)
                    · exfalso; omega
                    · skip
                      refine lv_aload_n hx hb dX6_readDog_83 rfl (lv_at hl 3 rfl) ?_
                      refine lv_dup hx hb dX6_readDog_84 rfl ?_
                      refine g_geti (z := ((ps : Int) + 3)) hx hb hts hinX6 hown hG (o := 169) (hdm 169 (by decide)) rfl rfl 3 (by decide) f105 (fun _ h => h) rfl (by rw [h2_M8] <;> omega) dX6_readDog_85 ?_
                      refine lv_iconst (v := iZ 1) hx hb dX6_readDog_88 rfl ?_
                      refine z_isub (z := ((ps : Int) + 2)) hx hb (by omega) dX6_readDog_89 ?_
                      refine g_put (F := (oR G)) hx hb hts hinX6 tyX6 tyX6_ok nmX6 hown hG (o := 169) (hdm 169 (by decide)) (fun f => rfl) rfl 3 (by decide) f105 (fun _ h => h) rfl rfl (fun _ => Nat.lt_of_lt_of_le (by decide) (Nat.le_refl 13)) (fun _ => rfl) dX6_readDog_90 (fun H locs hG => ?_)
                      obtain ⟨M13, hM13⟩ : ∃ X, X = (q_wr M8 169 3 ((ps : Int) + 2)) := ⟨_, rfl⟩
                      rw [← hM13] at hG
                      have hpv_M13_171 : M13 171 = (M 171) := Eq.trans (by rw [hM13, wr_off _ _ _ (by omega)]) hpv_M8_171
                      have h2_M13 : M13 169 3 = (((ps + 2) : Nat) : Int) := by rw [hM13, wr_eq]; omega
                      have hfx_M13 : q_fm M M13 := by rw [hM13]; exact q_fm.wr hfx_M8
                      refine lv_iconst (v := iZ 0) hx hb dX6_readDog_93 rfl ?_
                      have hdg : q_dg T n ps (M 171) = 2 := q_dg_2 (by omega) ⟨by omega, hc_36⟩ (fun h9 => by first | exact hc_77 h9.2 | omega)
                      exact g_zret (post := fun z M1 => z = (if q_dg T n ps (M 171) = 3 then 1 else 0) ∧ M1 169 3 = ((ps + q_dg T n ps (M 171) : Nat) : Int) ∧ q_fm M M1 ∧ (q_dg T n ps (M 171) = 3 → M1 171 = q_dgp T n ps (M 171))) (z := 0) hx hb hr hG hlocks (Or.inl rfl) (⟨by rw [hdg, if_neg (by decide)], by rw [hdg]; have e9 := h2_M13; omega, hfx_M13, fun h9 => by omega⟩) dX6_readDog_94
                · exfalso; omega
              · skip
                replace hz_58 := hz_58.symm; subst hz_58; replace hM_58 := hM_58.symm; subst hM_58
                have hdg_58 := q_dgt_in T n (ps + 2)
                refine lv_istore_n (lv' := [(3, .int (iZ (-9))), (2, .int (iZ (q_dgt T n (ps + 1)))), (1, .int (iZ (q_dgt T n ps))), (0, .ref (gad G 169))]) hx hb dX6_readDog_61 rfl hl (by decide) rfl (fun ls hl => ?_)
                refine lv_iload_n hx hb dX6_readDog_62 rfl (lv_at hl 0 rfl) ?_
                refine lv_bipush (v := iZ (-9)) hx hb dX6_readDog_63 (by decide) ?_
                refine z_icmp_ne (tgt := 70) hx hb (by decide) (by decide) dX6_readDog_65 (by decide) (fun c_65 => ?_) (fun c_65 => ?_)
                · exfalso; omega
                · skip
                  refine lv_iconst (v := iZ 0) hx hb dX6_readDog_68 rfl ?_
                  have hdg : q_dg T n ps (M 171) = 2 := q_dg_2 (by omega) ⟨by omega, hc_36⟩ (fun h9 => by first | exact hc_77 h9.2 | omega)
                  exact g_zret (post := fun z M1 => z = (if q_dg T n ps (M 171) = 3 then 1 else 0) ∧ M1 169 3 = ((ps + q_dg T n ps (M 171) : Nat) : Int) ∧ q_fm M M1 ∧ (q_dg T n ps (M 171) = 3 → M1 171 = q_dgp T n ps (M 171))) (z := 0) hx hb hr hG hlocks (Or.inl rfl) (⟨by rw [hdg, if_neg (by decide)], by rw [hdg]; have e9 := h2_M4; omega, hfx_M4, fun h9 => by omega⟩) dX6_readDog_69
            · exfalso; omega
          · skip
            rw [if_neg hc_36] at hz_36; replace hz_36 := hz_36.symm; subst hz_36
            refine z_if_ne (tgt := 54) hx hb (by decide) dX6_readDog_39 (by decide) (fun c_39 => ?_) (fun c_39 => ?_)
            · exfalso; omega
            · skip
              refine lv_aload_n hx hb dX6_readDog_42 rfl (lv_at hl 2 rfl) ?_
              refine lv_dup hx hb dX6_readDog_43 rfl ?_
              refine g_geti (z := ((ps : Int) + 2)) hx hb hts hinX6 hown hG (o := 169) (hdm 169 (by decide)) rfl rfl 3 (by decide) f105 (fun _ h => h) rfl (by rw [h2_M4] <;> omega) dX6_readDog_44 ?_
              refine lv_iconst (v := iZ 1) hx hb dX6_readDog_47 rfl ?_
              refine z_isub (z := ((ps : Int) + 1)) hx hb (by omega) dX6_readDog_48 ?_
              refine g_put (F := (oR G)) hx hb hts hinX6 tyX6 tyX6_ok nmX6 hown hG (o := 169) (hdm 169 (by decide)) (fun f => rfl) rfl 3 (by decide) f105 (fun _ h => h) rfl rfl (fun _ => Nat.lt_of_lt_of_le (by decide) (Nat.le_refl 13)) (fun _ => rfl) dX6_readDog_49 (fun H locs hG => ?_)
              obtain ⟨M14, hM14⟩ : ∃ X, X = (q_wr M4 169 3 ((ps : Int) + 1)) := ⟨_, rfl⟩
              rw [← hM14] at hG
              have hpv_M14_171 : M14 171 = (M 171) := Eq.trans (by rw [hM14, wr_off _ _ _ (by omega)]) hpv_M4_171
              have h2_M14 : M14 169 3 = (((ps + 1) : Nat) : Int) := by rw [hM14, wr_eq]; omega
              have hfx_M14 : q_fm M M14 := by rw [hM14]; exact q_fm.wr hfx_M4
              refine lv_iconst (v := iZ 0) hx hb dX6_readDog_52 rfl ?_
              have hdg : q_dg T n ps (M 171) = 1 := q_dg_1 (by omega) (fun h9 => by first | exact hc_36 h9.2 | omega)
              exact g_zret (post := fun z M1 => z = (if q_dg T n ps (M 171) = 3 then 1 else 0) ∧ M1 169 3 = ((ps + q_dg T n ps (M 171) : Nat) : Int) ∧ q_fm M M1 ∧ (q_dg T n ps (M 171) = 3 → M1 171 = q_dgp T n ps (M 171))) (z := 0) hx hb hr hG hlocks (Or.inl rfl) (⟨by rw [hdg, if_neg (by decide)], by rw [hdg]; have e9 := h2_M14; omega, hfx_M14, fun h9 => by omega⟩) dX6_readDog_53
        · exfalso; omega
      · skip
        replace hz_22 := hz_22.symm; subst hz_22; replace hM_22 := hM_22.symm; subst hM_22
        have hdg_22 := q_dgt_in T n (ps + 1)
        refine lv_istore_n (lv' := [(2, .int (iZ (-9))), (1, .int (iZ (q_dgt T n ps))), (0, .ref (gad G 169))]) hx hb dX6_readDog_25 rfl hl (by decide) rfl (fun ls hl => ?_)
        refine lv_iload_n hx hb dX6_readDog_26 rfl (lv_at hl 0 rfl) ?_
        refine lv_bipush (v := iZ (-9)) hx hb dX6_readDog_27 (by decide) ?_
        refine z_icmp_ne (tgt := 34) hx hb (by decide) (by decide) dX6_readDog_29 (by decide) (fun c_29 => ?_) (fun c_29 => ?_)
        · exfalso; omega
        · skip
          refine lv_iconst (v := iZ 0) hx hb dX6_readDog_32 rfl ?_
          have hdg : q_dg T n ps (M 171) = 1 := q_dg_1 (by omega) (fun h9 => by first | exact hc_36 h9.2 | omega)
          exact g_zret (post := fun z M1 => z = (if q_dg T n ps (M 171) = 3 then 1 else 0) ∧ M1 169 3 = ((ps + q_dg T n ps (M 171) : Nat) : Int) ∧ q_fm M M1 ∧ (q_dg T n ps (M 171) = 3 → M1 171 = q_dgp T n ps (M 171))) (z := 0) hx hb hr hG hlocks (Or.inl rfl) (⟨by rw [hdg, if_neg (by decide)], by rw [hdg]; have e9 := h2_M2; omega, hfx_M2, fun h9 => by omega⟩) dX6_readDog_33
    · exfalso; omega
  · skip
    replace hz_3 := hz_3.symm; subst hz_3; replace hM_3 := hM_3.symm; subst hM_3
    have hdg_3 := q_dgt_in T n ps
    refine lv_istore_n (lv' := [(1, .int (iZ (-9))), (0, .ref (gad G 169))]) hx hb dX6_readDog_6 rfl hl (by decide) rfl (fun ls hl => ?_)
    refine lv_iload_n hx hb dX6_readDog_7 rfl (lv_at hl 0 rfl) ?_
    refine lv_bipush (v := iZ (-9)) hx hb dX6_readDog_8 (by decide) ?_
    refine z_icmp_ne (tgt := 18) hx hb (by decide) (by decide) dX6_readDog_10 (by decide) (fun c_10 => ?_) (fun c_10 => ?_)
    · exfalso; omega
    · skip
      refine lv_bipush (v := iZ (-9)) hx hb dX6_readDog_13 (by decide) ?_
      refine lv_goto (tgt := 25) hx hb dX6_readDog_15 (by decide) ?_
      refine lv_istore_n (lv' := [(2, .int (iZ (-9))), (1, .int (iZ (-9))), (0, .ref (gad G 169))]) hx hb dX6_readDog_25 rfl hl (by decide) rfl (fun ls hl => ?_)
      refine lv_iload_n hx hb dX6_readDog_26 rfl (lv_at hl 0 rfl) ?_
      refine lv_bipush (v := iZ (-9)) hx hb dX6_readDog_27 (by decide) ?_
      refine z_icmp_ne (tgt := 34) hx hb (by decide) (by decide) dX6_readDog_29 (by decide) (fun c_29 => ?_) (fun c_29 => ?_)
      · exfalso; omega
      · skip
        refine lv_iconst (v := iZ 0) hx hb dX6_readDog_32 rfl ?_
        have hdg : q_dg T n ps (M 171) = 0 := q_dg_0 (by omega)
        exact g_zret (post := fun z M1 => z = (if q_dg T n ps (M 171) = 3 then 1 else 0) ∧ M1 169 3 = ((ps + q_dg T n ps (M 171) : Nat) : Int) ∧ q_fm M M1 ∧ (q_dg T n ps (M 171) = 3 → M1 171 = q_dgp T n ps (M 171))) (z := 0) hx hb hr hG hlocks (Or.inl rfl) (⟨by rw [hdg, if_neg (by decide)], by rw [hdg]; have e9 := h2; omega, (q_fm.rf M), fun h9 => by omega⟩) dX6_readDog_33
set_option maxHeartbeats 4000000 in
set_option maxRecDepth 100000 in
theorem c_X6_readRank (l : Launch) (G : gG) (M : Nat → Nat → Int) (hdm : ∀ k, k < 179 → gdm G k) (T : Nat → Int) (n ps : Nat) (hn : n ≤ 70) (hs : ps ≤ n) (hTx : M 170 = T) (h1 : M 169 2 = (n : Int)) (h2 : M 169 3 = (ps : Int)) (hch : ∀ j, j < n → 0 ≤ T j ∧ T j ≤ 255) (hI : q_inv (M 171)) : gMi l yX6_readRank wsX6_readRank ({ frames := 2, cells := 0, slots := 0, locals := 49 } : Room) G M [.ref (gad G 169)] (fun z M1 => z = (if q_rn6 T n ps = 6 then 1 else 0) ∧ M1 169 3 = ((ps + q_rn6 T n ps : Nat) : Int) ∧ q_fm M M1 ∧ (q_rn6 T n ps = 6 → M1 171 = q_srk (M 171) (q_rkd T n ps))) := by
  refine gMi_of (cc := cX6_readRank) (maxL := 4) (ret := some .boolean) (by decide) rfl (Nat.le_of_ble_eq_true rfl) ?_
  intro p e s m below meth c ls hx hb hr hml hown hts hlocks hl hG
  have hown : s.vm.findClass RX6 = some m.cls := hown
  have hl : lv_has ls 4 [(0, .ref (gad G 169))] := hl
  have hinX6 : ∀ w ∈ u_ws RX6 TX6 13, w ∈ wsX6_readRank := by decide +kernel
  have f13 := hts (.fieldLink RX6 13 "DogTrialsModel" "read" "[I") (by decide +kernel)
  have f105 := hts (.fieldLink RX6 105 "DogTrialsModel" "spot" "I") (by decide +kernel)
  refine lv_iconst (v := iZ 0) hx hb dX6_readRank_0 rfl ?_
  refine lv_istore_n (lv' := [(1, .int (iZ 0)), (0, .ref (gad G 169))]) hx hb dX6_readRank_1 rfl hl (by decide) rfl (fun ls hl => ?_)
  refine lv_iconst (v := iZ 0) hx hb dX6_readRank_2 rfl ?_
  refine lv_istore_n (lv' := [(2, .int (iZ 0)), (1, .int (iZ 0)), (0, .ref (gad G 169))]) hx hb dX6_readRank_3 rfl hl (by decide) rfl (fun ls hl => ?_)
  have L_4 : ∀ (n_4 : Nat) (k : Nat) (x_i : Int) (x_m : Int) (Mk : Nat → Nat → Int), (x_i = (k : Int)) → (x_m = ((q_msk (q_rkd T n ps) k) : Int)) → (k ≤ 6) → (ps + k ≤ n) → ((∀ j, j < k → q_rkb T n ps j = true)) → (Mk 169 3 = ((ps + k : Nat) : Int)) → ((∀ b : Nat, Mk 171 b = if 8 ≤ b ∧ b < 8 + k then q_rkd T n ps (b - 8) else M 171 b)) → (q_fm M Mk) → 6 - k < n_4 → ∀ (H : Heap) (locs : List Loc) (ls : Array Slot), gH G Mk s H locs → lv_has ls 4 [(2, .int (iZ x_i)), (1, .int (iZ x_m)), (0, .ref (gad G 169))] → W p l e ({ frames := 2, cells := 0, slots := 0, locals := 49 } : Room) s m [.ref (gad G 169)].toArray below meth c H locs 0 0 (MQ below (va_Qi (fun r (u : Int × (Nat → Nat → Int)) => r = iZ u.1 ∧ (fun z M1 => z = (if q_rn6 T n ps = 6 then 1 else 0) ∧ M1 169 3 = ((ps + q_rn6 T n ps : Nat) : Int) ∧ q_fm M M1 ∧ (q_rn6 T n ps = 6 → M1 171 = q_srk (M 171) (q_rkd T n ps))) u.1 u.2) (fun u U => gB G u.2 U) (gA G)) [.ref (gad G 169)].toArray s 0 0 (gA G)) (F0 m 4 ls []) := by
    intro n_4
    induction n_4 with
    | zero => intro k x_i x_m Mk he_x_i he_x_m hk hsk hok h2k hrk hfx hm_4; exact absurd hm_4 (Nat.not_lt_zero _)
    | succ n_4 ih_4 =>
      intro k x_i x_m Mk he_x_i he_x_m hk hsk hok h2k hrk hfx hm_4 H locs ls hG hl
      subst he_x_i
      subst he_x_m
      have hms := q_msk_in (q_rkb_in hok)
      refine lv_iload_n hx hb dX6_readRank_4 rfl (lv_at hl 0 rfl) ?_
      refine lv_bipush (v := iZ (6)) hx hb dX6_readRank_5 (by decide) ?_
      refine z_icmp_ge (tgt := 68) hx hb (by omega) (by decide) dX6_readRank_7 (by decide) (fun c_7 => ?_) (fun c_7 => ?_)
      · skip
        refine lv_iconst (v := iZ 1) hx hb dX6_readRank_68 rfl ?_
        have hrn : q_rn6 T n ps = 6 := q_pre_all (P := q_rkb T n ps) (fun j hj => hok j (by omega))
        exact g_zret (post := fun z M1 => z = (if q_rn6 T n ps = 6 then 1 else 0) ∧ M1 169 3 = ((ps + q_rn6 T n ps : Nat) : Int) ∧ q_fm M M1 ∧ (q_rn6 T n ps = 6 → M1 171 = q_srk (M 171) (q_rkd T n ps))) (z := 1) hx hb hr hG hlocks (Or.inr rfl) (⟨by rw [hrn, if_pos rfl], by rw [hrn, h2k]; omega, hfx, fun _ => by funext b; rw [hrk b]; unfold q_srk; rw [show 8 + k = 14 by omega]⟩) dX6_readRank_69
      · skip
        refine lv_aload_n hx hb dX6_readRank_10 rfl (lv_at hl 2 rfl) ?_
        refine lv_iconst (v := iZ 0) hx hb dX6_readRank_11 rfl ?_
        refine lv_iconst (v := iZ 5) hx hb dX6_readRank_12 rfl ?_
        refine g_callV (b := 169) (As := [.int (iZ 0), .int (iZ 5)]) (rest := []) ⟨hx, hb, hml, hown, hts⟩ (c_X6_digit l G Mk hdm T n (ps + k) hn (by omega) ((hfx.1 170 (by decide) (by decide)).trans hTx) ((hfx.2 2 (by decide)).trans h1) h2k hch 0 5 (by omega) (by omega)) (cwV 2 hts gX6_readRank_X6_digit rfl rfl rfl (by decide +kernel) ⟨Nat.le_of_ble_eq_true rfl, Nat.le_of_ble_eq_true rfl⟩) hG (g_recv hG (b := 169) (hdm 169 (by decide)) rfl rfl) rfl hl.1 rfl (Nat.le_of_ble_eq_true rfl) dX6_readRank_13 ⟨Nat.zero_le _, Nat.zero_le _⟩ (fun z1 M2 H locs hp_13 hG => ?_)
        rcases hp_13 with ⟨ha_13, hb1_13, hb2_13, hz_13, hM_13⟩ | ⟨hn_13, hz_13, hM_13⟩
        · skip
          replace hz_13 := hz_13.symm; subst hz_13
          have hdg_13 := q_dgt_in T n (ps + k)
          have h2_M2 : M2 169 3 = ((((ps + k) + 1) : Nat) : Int) := by rw [hM_13, wr_eq]; omega
          have hfx_M2 : q_fm M M2 := by rw [hM_13]; exact q_fm.wr hfx
          replace hdg_13 : q_rkd T n ps k = -9 ∨ (0 ≤ q_rkd T n ps k ∧ q_rkd T n ps k ≤ 9 ∧ ps + k < n ∧ T (ps + k) = q_rkd T n ps k + 48) := hdg_13
          rw [show q_dgt T n (ps + k) = q_rkd T n ps k from rfl]
          replace hb1_13 : 0 ≤ q_rkd T n ps k := hb1_13
          replace hb2_13 : q_rkd T n ps k ≤ 5 := hb2_13
          refine lv_istore_n (lv' := [(3, .int (iZ (q_rkd T n ps k))), (2, .int (iZ (k : Int))), (1, .int (iZ ((q_msk (q_rkd T n ps) k) : Int))), (0, .ref (gad G 169))]) hx hb dX6_readRank_16 rfl hl (by decide) rfl (fun ls hl => ?_)
          refine lv_iload_n hx hb dX6_readRank_17 rfl (lv_at hl 0 rfl) ?_
          refine lv_bipush (v := iZ (-9)) hx hb dX6_readRank_18 (by decide) ?_
          refine z_icmp_ne (tgt := 25) hx hb (by omega) (by decide) dX6_readRank_20 (by decide) (fun c_20 => ?_) (fun c_20 => ?_)
          · skip
            refine lv_iload_n hx hb dX6_readRank_25 rfl (lv_at hl 2 rfl) ?_
            refine lv_iload_n hx hb dX6_readRank_26 rfl (lv_at hl 0 rfl) ?_
            refine z_shrm (m9 := (q_msk (q_rkd T n ps) k)) (q9 := (q_rkd T n ps k).toNat) hx hb hms (by omega) (by omega) dX6_readRank_27 ?_
            refine lv_iconst (v := iZ 1) hx hb dX6_readRank_28 rfl ?_
            refine z_andm (m9 := ((q_msk (q_rkd T n ps) k) / 2 ^ (q_rkd T n ps k).toNat)) hx hb (Nat.lt_of_le_of_lt (Nat.div_le_self _ _) hms) dX6_readRank_29 ?_
            refine lv_iconst (v := iZ 1) hx hb dX6_readRank_30 rfl ?_
            refine z_icmp_ne (tgt := 46) hx hb (by omega) (by decide) dX6_readRank_31 (by decide) (fun c_31 => ?_) (fun c_31 => ?_)
            · skip
              refine lv_iload_n hx hb dX6_readRank_46 rfl (lv_at hl 2 rfl) ?_
              refine lv_iconst (v := iZ 1) hx hb dX6_readRank_47 rfl ?_
              refine lv_iload_n hx hb dX6_readRank_48 rfl (lv_at hl 0 rfl) ?_
              refine z_shl1 (q9 := (q_rkd T n ps k).toNat) hx hb (by omega) (by omega) dX6_readRank_49 ?_
              refine z_orm (m9 := (q_msk (q_rkd T n ps) k)) (b9 := (2 ^ (q_rkd T n ps k).toNat)) hx hb hms (q_pw6 _ (by omega)) dX6_readRank_50 ?_
              refine lv_istore_n (lv' := [(1, .int (iZ (((q_msk (q_rkd T n ps) k) ||| (2 ^ (q_rkd T n ps k).toNat) : Nat) : Int))), (3, .int (iZ (q_rkd T n ps k))), (2, .int (iZ (k : Int))), (0, .ref (gad G 169))]) hx hb dX6_readRank_51 rfl hl (by decide) rfl (fun ls hl => ?_)
              refine lv_aload_n hx hb dX6_readRank_52 rfl (lv_at hl 3 rfl) ?_
              refine g_get hx hb hts hinX6 hown hG (o := 169) (hdm 169 (by decide)) rfl rfl 4 (by decide) f13 (fun _ h => h) rfl dX6_readRank_53 ?_
              refine lv_bipush (v := iZ (8)) hx hb dX6_readRank_56 (by decide) ?_
              refine lv_iload_n hx hb dX6_readRank_58 rfl (lv_at hl 2 rfl) ?_
              refine z_iadd (z := ((k : Int) + 8)) hx hb (by omega) dX6_readRank_59 ?_
              refine lv_iload_n hx hb dX6_readRank_60 rfl (lv_at hl 1 rfl) ?_
              refine g_iast (j := (8 + k)) hx hb hG (o := 171) (hdm 171 (by decide)) (fun f => rfl) (by omega) (by omega) (by omega) dX6_readRank_61 (fun H locs hG => ?_)
              obtain ⟨M3, hM3⟩ : ∃ X, X = (q_wr M2 171 (8 + k) (q_rkd T n ps k)) := ⟨_, rfl⟩
              rw [← hM3] at hG
              refine z_iinc (z := ((k : Int) + 1)) (lv' := [(2, .int (iZ ((k : Int) + 1))), (1, .int (iZ (((q_msk (q_rkd T n ps) k) ||| (2 ^ (q_rkd T n ps k).toNat) : Nat) : Int))), (3, .int (iZ (q_rkd T n ps k))), (0, .ref (gad G 169))]) hx hb dX6_readRank_62 hl (k := 2) rfl (by omega) (by decide) rfl (fun ls hl => ?_)
              refine lv_goto (tgt := 4) hx hb dX6_readRank_65 (by decide) ?_
              have hfk : M2 171 = Mk 171 := by rw [hM_13, wr_off _ _ _ (by decide)]
              exact ih_4 (k + 1) ((k : Int) + 1) (((q_msk (q_rkd T n ps) k) ||| (2 ^ (q_rkd T n ps k).toNat) : Nat) : Int) M3 (by omega) rfl (by omega) (by omega) (fun j hj => by rcases (show j < k ∨ j = k by omega) with h9 | h9; exact hok j h9; (subst h9; unfold q_rkb; exact decide_eq_true (by omega))) (by rw [hM3, wr_off _ _ _ (by decide)]; exact h2_M2.trans (by omega)) (fun b => by rw [hM3, wr_ap, hfk, hrk b]; (repeat' split) <;> first | rfl | (exfalso; omega) | (congr 1; omega)) (by rw [hM3]; exact q_fm.wp hfx_M2) (by omega) _ _ _ hG (lv_sub hl [0, 1, 3] rfl)
            · skip
              refine lv_aload_n hx hb dX6_readRank_34 rfl (lv_at hl 3 rfl) ?_
              refine lv_dup hx hb dX6_readRank_35 rfl ?_
              refine g_geti (z := (((ps + k) : Int) + 1)) hx hb hts hinX6 hown hG (o := 169) (hdm 169 (by decide)) rfl rfl 3 (by decide) f105 (fun _ h => h) rfl (by rw [h2_M2] <;> omega) dX6_readRank_36 ?_
              refine lv_iconst (v := iZ 1) hx hb dX6_readRank_39 rfl ?_
              refine z_isub (z := ((ps + k) : Int)) hx hb (by omega) dX6_readRank_40 ?_
              refine g_put (F := (oR G)) hx hb hts hinX6 tyX6 tyX6_ok nmX6 hown hG (o := 169) (hdm 169 (by decide)) (fun f => rfl) rfl 3 (by decide) f105 (fun _ h => h) rfl rfl (fun _ => Nat.lt_of_lt_of_le (by decide) (Nat.le_refl 13)) (fun _ => rfl) dX6_readRank_41 (fun H locs hG => ?_)
              obtain ⟨M4, hM4⟩ : ∃ X, X = (q_wr M2 169 3 ((ps + k) : Int)) := ⟨_, rfl⟩
              rw [← hM4] at hG
              have h2_M4 : M4 169 3 = (((ps + k) : Nat) : Int) := by rw [hM4, wr_eq]; omega
              have hfx_M4 : q_fm M M4 := by rw [hM4]; exact q_fm.wr hfx_M2
              refine lv_iconst (v := iZ 0) hx hb dX6_readRank_44 rfl ?_
              have hrn : q_rn6 T n ps = k := q_pre_hit (P := q_rkb T n ps) (fun h9 => by unfold q_rkb at h9; have h8 := of_decide_eq_true h9; omega) hok (by omega)
              exact g_zret (post := fun z M1 => z = (if q_rn6 T n ps = 6 then 1 else 0) ∧ M1 169 3 = ((ps + q_rn6 T n ps : Nat) : Int) ∧ q_fm M M1 ∧ (q_rn6 T n ps = 6 → M1 171 = q_srk (M 171) (q_rkd T n ps))) (z := 0) hx hb hr hG hlocks (Or.inl rfl) (⟨by rw [hrn, if_neg (by omega)], by rw [hrn]; have e9 := h2_M4; omega, hfx_M4, fun h9 => by omega⟩) dX6_readRank_45
          · exfalso; omega
        · skip
          replace hz_13 := hz_13.symm; subst hz_13; replace hM_13 := hM_13.symm; subst hM_13
          have hdg_13 := q_dgt_in T n (ps + k)
          replace hdg_13 : q_rkd T n ps k = -9 ∨ (0 ≤ q_rkd T n ps k ∧ q_rkd T n ps k ≤ 9 ∧ ps + k < n ∧ T (ps + k) = q_rkd T n ps k + 48) := hdg_13
          replace hn_13 : ¬ (0 ≤ q_rkd T n ps k ∧ 0 ≤ q_rkd T n ps k ∧ q_rkd T n ps k ≤ 5) := hn_13
          refine lv_istore_n (lv' := [(3, .int (iZ (-9))), (2, .int (iZ (k : Int))), (1, .int (iZ ((q_msk (q_rkd T n ps) k) : Int))), (0, .ref (gad G 169))]) hx hb dX6_readRank_16 rfl hl (by decide) rfl (fun ls hl => ?_)
          refine lv_iload_n hx hb dX6_readRank_17 rfl (lv_at hl 0 rfl) ?_
          refine lv_bipush (v := iZ (-9)) hx hb dX6_readRank_18 (by decide) ?_
          refine z_icmp_ne (tgt := 25) hx hb (by decide) (by decide) dX6_readRank_20 (by decide) (fun c_20 => ?_) (fun c_20 => ?_)
          · exfalso; omega
          · skip
            refine lv_iconst (v := iZ 0) hx hb dX6_readRank_23 rfl ?_
            have hrn : q_rn6 T n ps = k := q_pre_hit (P := q_rkb T n ps) (fun h9 => by unfold q_rkb at h9; have h8 := of_decide_eq_true h9; omega) hok (by omega)
            exact g_zret (post := fun z M1 => z = (if q_rn6 T n ps = 6 then 1 else 0) ∧ M1 169 3 = ((ps + q_rn6 T n ps : Nat) : Int) ∧ q_fm M M1 ∧ (q_rn6 T n ps = 6 → M1 171 = q_srk (M 171) (q_rkd T n ps))) (z := 0) hx hb hr hG hlocks (Or.inl rfl) (⟨by rw [hrn, if_neg (by omega)], by rw [hrn]; exact h2k, hfx, fun h9 => by omega⟩) dX6_readRank_24
  exact L_4 _ 0 0 0 M rfl rfl (by omega) (by omega) (fun j h => absurd h (Nat.not_lt_zero _)) h2 (fun b => by rw [if_neg (by omega)]) (q_fm.rf M) (Nat.lt_succ_self _) _ _ _ hG (lv_sub hl [0, 1, 2] rfl)
set_option maxHeartbeats 4000000 in
set_option maxRecDepth 100000 in
theorem c_X6_readAll (l : Launch) (G : gG) (M : Nat → Nat → Int) (hdm : ∀ k, k < 179 → gdm G k) (T : Nat → Int) (n : Nat) (hn : n ≤ 70) (hTx : M 170 = T) (h1 : M 169 2 = (n : Int)) (hch : ∀ j, j < n → 0 ≤ T j ∧ T j ≤ 255) : gMi l yX6_readAll wsX6_readAll ({ frames := 5, cells := 0, slots := 0, locals := 111 } : Room) G M [.ref (gad G 169)] (fun z M1 => z = (if (q_rdt T n).1 = true ∧ n ≤ (q_rdt T n).2.1 then 1 else 0) ∧ M1 169 3 = ((q_rdt T n).2.1 : Int) ∧ q_fm M M1 ∧ ((q_rdt T n).1 = true → M1 171 = (q_rdt T n).2.2)) := by
  refine gMi_of (cc := cX6_readAll) (maxL := 1) (ret := some .boolean) (by decide) rfl (Nat.le_of_ble_eq_true rfl) ?_
  intro p e s m below meth c ls hx hb hr hml hown hts hlocks hl hG
  have hown : s.vm.findClass RX6 = some m.cls := hown
  have hl : lv_has ls 1 [(0, .ref (gad G 169))] := hl
  have hinX6 : ∀ w ∈ u_ws RX6 TX6 13, w ∈ wsX6_readAll := by decide +kernel
  have f13 := hts (.fieldLink RX6 13 "DogTrialsModel" "read" "[I") (by decide +kernel)
  have f99 := hts (.fieldLink RX6 99 "DogTrialsModel" "textSize" "I") (by decide +kernel)
  have f105 := hts (.fieldLink RX6 105 "DogTrialsModel" "spot" "I") (by decide +kernel)
  refine lv_aload_n hx hb dX6_readAll_0 rfl (lv_at hl 0 rfl) ?_
  refine lv_iconst (v := iZ 0) hx hb dX6_readAll_1 rfl ?_
  refine g_put (F := (oR G)) hx hb hts hinX6 tyX6 tyX6_ok nmX6 hown hG (o := 169) (hdm 169 (by decide)) (fun f => rfl) rfl 3 (by decide) f105 (fun _ h => h) rfl rfl (fun _ => Nat.lt_of_lt_of_le (by decide) (Nat.le_refl 13)) (fun _ => rfl) dX6_readAll_2 (fun H locs hG => ?_)
  obtain ⟨M1, hM1⟩ : ∃ X, X = (q_wr M 169 3 0) := ⟨_, rfl⟩
  rw [← hM1] at hG
  refine lv_aload_n hx hb dX6_readAll_5 rfl (lv_at hl 0 rfl) ?_
  refine g_get hx hb hts hinX6 hown hG (o := 169) (hdm 169 (by decide)) rfl rfl 4 (by decide) f13 (fun _ h => h) rfl dX6_readAll_6 ?_
  refine g_vcallS (As := [.ref (gad G 171)]) (rest := []) ⟨hx, hb, hml, hown, hts⟩ (c_clearTo l G M1 171 (Or.inl rfl) (hdm 171 (by decide))) (va_cwS 1 hts gX6_readAll_X6_clear rfl rfl rfl (by decide +kernel) ⟨Nat.le_of_ble_eq_true rfl, Nat.le_of_ble_eq_true rfl⟩) hG rfl hl.1 rfl (Nat.le_of_ble_eq_true rfl) dX6_readAll_9 ⟨Nat.zero_le _, Nat.zero_le _⟩ (fun M3 H locs hp_9 hG => ?_)
  have hpv_M3_171 : M3 171 = q_new := by rw [hp_9, q_set_at]
  have h20 : M3 169 3 = ((0 : Nat) : Int) := by rw [hp_9, q_set_off _ _ (by decide), hM1, wr_eq]; rfl
  have hfx0 : q_fm M M3 := by rw [hp_9, hM1]; exact q_fm.set (q_fm.wr (q_fm.rf M))
  refine lv_aload_n hx hb dX6_readAll_12 rfl (lv_at hl 0 rfl) ?_
  refine lv_bipush (v := iZ (84)) hx hb dX6_readAll_13 (by decide) ?_
  refine g_callV (b := 169) (As := [.int (iZ 84)]) (rest := []) ⟨hx, hb, hml, hown, hts⟩ (c_X6_eat l G M3 hdm T n 0 hn (by omega) ((hfx0.1 170 (by decide) (by decide)).trans hTx) ((hfx0.2 2 (by decide)).trans h1) h20 hch 84 (by omega)) (cwV 1 hts gX6_readAll_X6_eat rfl rfl rfl (by decide +kernel) ⟨Nat.le_of_ble_eq_true rfl, Nat.le_of_ble_eq_true rfl⟩) hG (g_recv hG (b := 169) (hdm 169 (by decide)) rfl rfl) rfl hl.1 rfl (Nat.le_of_ble_eq_true rfl) dX6_readAll_15 ⟨Nat.zero_le _, Nat.zero_le _⟩ (fun z4 M5 H locs hp_15 hG => ?_)
  rcases hp_15 with ⟨hy_15, hc_15, hz_15, hM_15⟩ | ⟨hc_15, hz_15, hM_15⟩
  · skip
    replace hz_15 := hz_15.symm; subst hz_15
    have h2_M5 : M5 169 3 = ((1 : Nat) : Int) := by rw [hM_15, wr_eq]; omega
    have hfx_M5 : q_fm M M5 := by rw [hM_15]; exact q_fm.wr hfx0
    have hpv_M5_171 : M5 171 = q_new := by rw [hM_15, wr_off _ _ _ (by decide)]; exact hpv_M3_171
    refine z_if_eq (tgt := 28) hx hb (by decide) dX6_readAll_18 (by decide) (fun c_18 => ?_) (fun c_18 => ?_)
    · exfalso; omega
    · skip
      refine lv_aload_n hx hb dX6_readAll_21 rfl (lv_at hl 0 rfl) ?_
      refine g_callV (b := 169) (As := []) (rest := []) ⟨hx, hb, hml, hown, hts⟩ (c_X6_readSunset l G M5 hdm T n 1 hn (by omega) ((hfx_M5.1 170 (by decide) (by decide)).trans hTx) ((hfx_M5.2 2 (by decide)).trans h1) h2_M5 hch (by rw [hpv_M5_171]; exact q_new_inv)) (cwV 0 hts gX6_readAll_X6_readSunset rfl rfl rfl (by decide +kernel) ⟨Nat.le_of_ble_eq_true rfl, Nat.le_of_ble_eq_true rfl⟩) hG (g_recv hG (b := 169) (hdm 169 (by decide)) rfl rfl) rfl hl.1 rfl (Nat.le_of_ble_eq_true rfl) dX6_readAll_22 ⟨Nat.zero_le _, Nat.zero_le _⟩ (fun z6 M7 H locs hp_22 hG => ?_)
      obtain ⟨hz_22, h2_M7, hfx0_M7, hpg_M7⟩ := hp_22
      try rw [hpv_M5_171] at hz_22
      try rw [hpv_M5_171] at h2_M7
      try rw [hpv_M5_171] at hpg_M7
      have hfx_M7 : q_fm M M7 := q_fm.tr hfx_M5 hfx0_M7
      by_cases hc_22 : q_sn T n 1 = 3
      · skip
        rw [if_pos hc_22] at hz_22; replace hz_22 := hz_22.symm; subst hz_22
        rw [hc_22] at h2_M7
        have ht_M7 := hpg_M7 hc_22
        have h2y_M7 : M7 169 3 = ((4 : Nat) : Int) := h2_M7.trans (by omega)
        refine z_if_ne (tgt := 30) hx hb (by decide) dX6_readAll_25 (by decide) (fun c_25 => ?_) (fun c_25 => ?_)
        · skip
          have L_30 : ∀ (n_30 : Nat) (k : Nat) (sk : Nat) (Rk : Nat → Int) (Mk : Nat → Nat → Int), (k ≤ 12) → (sk ≤ n) → (q_inv Rk) → (q_nd Rk = (k : Int)) → (q_rdt T n = q_go T n (12 - k) sk Rk) → (Mk 169 3 = (sk : Int)) → (Mk 171 = Rk) → (q_fm M Mk) → 12 - k < n_30 → ∀ (H : Heap) (locs : List Loc) (ls : Array Slot), gH G Mk s H locs → lv_has ls 1 [(0, .ref (gad G 169))] → W p l e ({ frames := 5, cells := 0, slots := 0, locals := 111 } : Room) s m [.ref (gad G 169)].toArray below meth c H locs 0 0 (MQ below (va_Qi (fun r (u : Int × (Nat → Nat → Int)) => r = iZ u.1 ∧ (fun z M1 => z = (if (q_rdt T n).1 = true ∧ n ≤ (q_rdt T n).2.1 then 1 else 0) ∧ M1 169 3 = ((q_rdt T n).2.1 : Int) ∧ q_fm M M1 ∧ ((q_rdt T n).1 = true → M1 171 = (q_rdt T n).2.2)) u.1 u.2) (fun u U => gB G u.2 U) (gA G)) [.ref (gad G 169)].toArray s 0 0 (gA G)) (F0 m 30 ls []) := by
            intro n_30
            induction n_30 with
            | zero => intro k sk Rk Mk hk hsk hIk hndk hgo h2k hRk hfx hm_30; exact absurd hm_30 (Nat.not_lt_zero _)
            | succ n_30 ih_30 =>
              intro k sk Rk Mk hk hsk hIk hndk hgo h2k hRk hfx hm_30 H locs ls hG hl
              refine lv_aload_n hx hb dX6_readAll_30 rfl (lv_at hl 0 rfl) ?_
              refine g_get hx hb hts hinX6 hown hG (o := 169) (hdm 169 (by decide)) rfl rfl 4 (by decide) f13 (fun _ h => h) rfl dX6_readAll_31 ?_
              refine lv_bipush (v := iZ (7)) hx hb dX6_readAll_34 (by decide) ?_
              refine g_iald (z := (k : Int)) (j := 7) hx hb hG (o := 171) (hdm 171 (by decide)) rfl (by omega) (by omega) (by omega) (by rw [hRk]; exact hndk) dX6_readAll_36 ?_
              refine lv_bipush (v := iZ (12)) hx hb dX6_readAll_37 (by decide) ?_
              refine z_icmp_ge (tgt := 60) hx hb (by omega) (by decide) dX6_readAll_39 (by decide) (fun c_39 => ?_) (fun c_39 => ?_)
              · skip
                refine lv_aload_n hx hb dX6_readAll_60 rfl (lv_at hl 0 rfl) ?_
                refine lv_bipush (v := iZ (114)) hx hb dX6_readAll_61 (by decide) ?_
                refine g_callV (b := 169) (As := [.int (iZ 114)]) (rest := []) ⟨hx, hb, hml, hown, hts⟩ (c_X6_eat l G Mk hdm T n sk hn (by omega) ((hfx.1 170 (by decide) (by decide)).trans hTx) ((hfx.2 2 (by decide)).trans h1) h2k hch 114 (by omega)) (cwV 1 hts gX6_readAll_X6_eat rfl rfl rfl (by decide +kernel) ⟨Nat.le_of_ble_eq_true rfl, Nat.le_of_ble_eq_true rfl⟩) hG (g_recv hG (b := 169) (hdm 169 (by decide)) rfl rfl) rfl hl.1 rfl (Nat.le_of_ble_eq_true rfl) dX6_readAll_63 ⟨Nat.zero_le _, Nat.zero_le _⟩ (fun z8 M9 H locs hp_63 hG => ?_)
                rcases hp_63 with ⟨hy_63, hc_63, hz_63, hM_63⟩ | ⟨hc_63, hz_63, hM_63⟩
                · skip
                  replace hz_63 := hz_63.symm; subst hz_63
                  have h2_M9 : M9 169 3 = (((sk + 1) : Nat) : Int) := by rw [hM_63, wr_eq]; omega
                  have hfx_M9 : q_fm M M9 := by rw [hM_63]; exact q_fm.wr hfx
                  have hpv_M9_171 : M9 171 = Rk := by rw [hM_63, wr_off _ _ _ (by decide)]; exact hRk
                  refine z_if_eq (tgt := 76) hx hb (by decide) dX6_readAll_66 (by decide) (fun c_66 => ?_) (fun c_66 => ?_)
                  · exfalso; omega
                  · skip
                    refine lv_aload_n hx hb dX6_readAll_69 rfl (lv_at hl 0 rfl) ?_
                    refine g_callV (b := 169) (As := []) (rest := []) ⟨hx, hb, hml, hown, hts⟩ (c_X6_readRank l G M9 hdm T n (sk + 1) hn (by omega) ((hfx_M9.1 170 (by decide) (by decide)).trans hTx) ((hfx_M9.2 2 (by decide)).trans h1) h2_M9 hch (by rw [hpv_M9_171]; exact hIk)) (cwV 0 hts gX6_readAll_X6_readRank rfl rfl rfl (by decide +kernel) ⟨Nat.le_of_ble_eq_true rfl, Nat.le_of_ble_eq_true rfl⟩) hG (g_recv hG (b := 169) (hdm 169 (by decide)) rfl rfl) rfl hl.1 rfl (Nat.le_of_ble_eq_true rfl) dX6_readAll_70 ⟨Nat.zero_le _, Nat.zero_le _⟩ (fun z10 M11 H locs hp_70 hG => ?_)
                    obtain ⟨hz_70, h2_M11, hfx0_M11, hpg_M11⟩ := hp_70
                    try rw [hpv_M9_171] at hz_70
                    try rw [hpv_M9_171] at h2_M11
                    try rw [hpv_M9_171] at hpg_M11
                    have hfx_M11 : q_fm M M11 := q_fm.tr hfx_M9 hfx0_M11
                    by_cases hc_70 : q_rn6 T n (sk + 1) = 6
                    · skip
                      rw [if_pos hc_70] at hz_70; replace hz_70 := hz_70.symm; subst hz_70
                      rw [hc_70] at h2_M11
                      have ht_M11 := hpg_M11 hc_70
                      have h2y_M11 : M11 169 3 = (((sk + 7) : Nat) : Int) := h2_M11.trans (by omega)
                      refine z_if_eq (tgt := 91) hx hb (by decide) dX6_readAll_73 (by decide) (fun c_73 => ?_) (fun c_73 => ?_)
                      · exfalso; omega
                      · skip
                        have hq8 : q_rdt T n = q_tl T n sk Rk := hgo.trans (q_go_no (by first | exact Or.inl (by omega) | exact Or.inr hc_45))
                        have hq9 : q_rdt T n = (true, sk + 7, q_srk Rk (q_rkd T n (sk + 1))) := by rw [hq8]; unfold q_tl; rw [if_pos ⟨by omega, hc_63⟩, if_pos hc_70]
                        have hle9 := (q_rn6_ok hc_70).2
                        refine lv_aload_n hx hb dX6_readAll_76 rfl (lv_at hl 0 rfl) ?_
                        refine g_geti (z := ((sk : Int) + 7)) hx hb hts hinX6 hown hG (o := 169) (hdm 169 (by decide)) rfl rfl 3 (by decide) f105 (fun _ h => h) rfl (by rw [h2y_M11] <;> omega) dX6_readAll_77 ?_
                        refine lv_aload_n hx hb dX6_readAll_80 rfl (lv_at hl 0 rfl) ?_
                        refine g_geti (z := (n : Int)) hx hb hts hinX6 hown hG (o := 169) (hdm 169 (by decide)) rfl rfl 2 (by decide) f99 (fun _ h => h) rfl ((hfx_M11.2 2 (by decide)).trans h1) dX6_readAll_81 ?_
                        refine z_icmp_ne (tgt := 91) hx hb (by omega) (by omega) dX6_readAll_84 (by decide) (fun c_84 => ?_) (fun c_84 => ?_)
                        · skip
                          refine lv_iconst (v := iZ 0) hx hb dX6_readAll_91 rfl ?_
                          exact g_zret (post := fun z M1 => z = (if (q_rdt T n).1 = true ∧ n ≤ (q_rdt T n).2.1 then 1 else 0) ∧ M1 169 3 = ((q_rdt T n).2.1 : Int) ∧ q_fm M M1 ∧ ((q_rdt T n).1 = true → M1 171 = (q_rdt T n).2.2)) (z := 0) hx hb hr hG hlocks (Or.inl rfl) (⟨by rw [hq9]; dsimp only; first | (rw [if_pos ⟨rfl, by omega⟩]; done) | (rw [if_neg (fun h9 => by have h8 := h9.2; omega)]; done), by rw [hq9]; dsimp only; have e9 := h2y_M11; omega, hfx_M11, fun _ => by rw [hq9]; exact ht_M11⟩) dX6_readAll_92
                        · skip
                          refine lv_iconst (v := iZ 1) hx hb dX6_readAll_87 rfl ?_
                          refine lv_goto (tgt := 92) hx hb dX6_readAll_88 (by decide) ?_
                          exact g_zret (post := fun z M1 => z = (if (q_rdt T n).1 = true ∧ n ≤ (q_rdt T n).2.1 then 1 else 0) ∧ M1 169 3 = ((q_rdt T n).2.1 : Int) ∧ q_fm M M1 ∧ ((q_rdt T n).1 = true → M1 171 = (q_rdt T n).2.2)) (z := 1) hx hb hr hG hlocks (Or.inr rfl) (⟨by rw [hq9]; dsimp only; first | (rw [if_pos ⟨rfl, by omega⟩]; done) | (rw [if_neg (fun h9 => by have h8 := h9.2; omega)]; done), by rw [hq9]; dsimp only; have e9 := h2y_M11; omega, hfx_M11, fun _ => by rw [hq9]; exact ht_M11⟩) dX6_readAll_92
                    · skip
                      rw [if_neg hc_70] at hz_70; replace hz_70 := hz_70.symm; subst hz_70
                      refine z_if_eq (tgt := 91) hx hb (by decide) dX6_readAll_73 (by decide) (fun c_73 => ?_) (fun c_73 => ?_)
                      · skip
                        have hq8 : q_rdt T n = q_tl T n sk Rk := hgo.trans (q_go_no (by first | exact Or.inl (by omega) | exact Or.inr hc_45))
                        have hq9 : q_rdt T n = (false, sk + 1 + q_rn6 T n (sk + 1), Rk) := by rw [hq8]; unfold q_tl; rw [if_pos ⟨by omega, hc_63⟩, if_neg hc_70]
                        refine lv_iconst (v := iZ 0) hx hb dX6_readAll_91 rfl ?_
                        exact g_zret (post := fun z M1 => z = (if (q_rdt T n).1 = true ∧ n ≤ (q_rdt T n).2.1 then 1 else 0) ∧ M1 169 3 = ((q_rdt T n).2.1 : Int) ∧ q_fm M M1 ∧ ((q_rdt T n).1 = true → M1 171 = (q_rdt T n).2.2)) (z := 0) hx hb hr hG hlocks (Or.inl rfl) (⟨by rw [hq9, if_neg (fun h9 => by cases h9.1)], by rw [hq9]; dsimp only; have e9 := h2_M11; omega, hfx_M11, (fun h9 => by rw [hq9] at h9; cases h9)⟩) dX6_readAll_92
                      · exfalso; omega
                · skip
                  replace hz_63 := hz_63.symm; subst hz_63; replace hM_63 := hM_63.symm; subst hM_63
                  refine z_if_eq (tgt := 76) hx hb (by decide) dX6_readAll_66 (by decide) (fun c_66 => ?_) (fun c_66 => ?_)
                  · skip
                    have hq8 : q_rdt T n = q_tl T n sk Rk := hgo.trans (q_go_no (by first | exact Or.inl (by omega) | exact Or.inr hc_45))
                    have hq9 : q_rdt T n = (true, sk, Rk) := by rw [hq8]; unfold q_tl; rw [if_neg hc_63]
                    refine lv_aload_n hx hb dX6_readAll_76 rfl (lv_at hl 0 rfl) ?_
                    refine g_geti (z := (sk : Int)) hx hb hts hinX6 hown hG (o := 169) (hdm 169 (by decide)) rfl rfl 3 (by decide) f105 (fun _ h => h) rfl (by rw [h2k] <;> omega) dX6_readAll_77 ?_
                    refine lv_aload_n hx hb dX6_readAll_80 rfl (lv_at hl 0 rfl) ?_
                    refine g_geti (z := (n : Int)) hx hb hts hinX6 hown hG (o := 169) (hdm 169 (by decide)) rfl rfl 2 (by decide) f99 (fun _ h => h) rfl ((hfx.2 2 (by decide)).trans h1) dX6_readAll_81 ?_
                    refine z_icmp_ne (tgt := 91) hx hb (by omega) (by omega) dX6_readAll_84 (by decide) (fun c_84 => ?_) (fun c_84 => ?_)
                    · skip
                      refine lv_iconst (v := iZ 0) hx hb dX6_readAll_91 rfl ?_
                      exact g_zret (post := fun z M1 => z = (if (q_rdt T n).1 = true ∧ n ≤ (q_rdt T n).2.1 then 1 else 0) ∧ M1 169 3 = ((q_rdt T n).2.1 : Int) ∧ q_fm M M1 ∧ ((q_rdt T n).1 = true → M1 171 = (q_rdt T n).2.2)) (z := 0) hx hb hr hG hlocks (Or.inl rfl) (⟨by rw [hq9]; dsimp only; first | (rw [if_pos ⟨rfl, by omega⟩]; done) | (rw [if_neg (fun h9 => by have h8 := h9.2; omega)]; done), by rw [hq9]; dsimp only; have e9 := h2k; omega, hfx, fun _ => by rw [hq9]; exact hRk⟩) dX6_readAll_92
                    · skip
                      refine lv_iconst (v := iZ 1) hx hb dX6_readAll_87 rfl ?_
                      refine lv_goto (tgt := 92) hx hb dX6_readAll_88 (by decide) ?_
                      exact g_zret (post := fun z M1 => z = (if (q_rdt T n).1 = true ∧ n ≤ (q_rdt T n).2.1 then 1 else 0) ∧ M1 169 3 = ((q_rdt T n).2.1 : Int) ∧ q_fm M M1 ∧ ((q_rdt T n).1 = true → M1 171 = (q_rdt T n).2.2)) (z := 1) hx hb hr hG hlocks (Or.inr rfl) (⟨by rw [hq9]; dsimp only; first | (rw [if_pos ⟨rfl, by omega⟩]; done) | (rw [if_neg (fun h9 => by have h8 := h9.2; omega)]; done), by rw [hq9]; dsimp only; have e9 := h2k; omega, hfx, fun _ => by rw [hq9]; exact hRk⟩) dX6_readAll_92
                  · exfalso; omega
              · skip
                refine lv_aload_n hx hb dX6_readAll_42 rfl (lv_at hl 0 rfl) ?_
                refine lv_bipush (v := iZ (100)) hx hb dX6_readAll_43 (by decide) ?_
                refine g_callV (b := 169) (As := [.int (iZ 100)]) (rest := []) ⟨hx, hb, hml, hown, hts⟩ (c_X6_eat l G Mk hdm T n sk hn (by omega) ((hfx.1 170 (by decide) (by decide)).trans hTx) ((hfx.2 2 (by decide)).trans h1) h2k hch 100 (by omega)) (cwV 1 hts gX6_readAll_X6_eat rfl rfl rfl (by decide +kernel) ⟨Nat.le_of_ble_eq_true rfl, Nat.le_of_ble_eq_true rfl⟩) hG (g_recv hG (b := 169) (hdm 169 (by decide)) rfl rfl) rfl hl.1 rfl (Nat.le_of_ble_eq_true rfl) dX6_readAll_45 ⟨Nat.zero_le _, Nat.zero_le _⟩ (fun z12 M13 H locs hp_45 hG => ?_)
                rcases hp_45 with ⟨hy_45, hc_45, hz_45, hM_45⟩ | ⟨hc_45, hz_45, hM_45⟩
                · skip
                  replace hz_45 := hz_45.symm; subst hz_45
                  have h2_M13 : M13 169 3 = (((sk + 1) : Nat) : Int) := by rw [hM_45, wr_eq]; omega
                  have hfx_M13 : q_fm M M13 := by rw [hM_45]; exact q_fm.wr hfx
                  have hpv_M13_171 : M13 171 = Rk := by rw [hM_45, wr_off _ _ _ (by decide)]; exact hRk
                  refine z_if_eq (tgt := 60) hx hb (by decide) dX6_readAll_48 (by decide) (fun c_48 => ?_) (fun c_48 => ?_)
                  · exfalso; omega
                  · skip
                    refine lv_aload_n hx hb dX6_readAll_51 rfl (lv_at hl 0 rfl) ?_
                    refine g_callV (b := 169) (As := []) (rest := []) ⟨hx, hb, hml, hown, hts⟩ (c_X6_readDog l G M13 hdm T n (sk + 1) hn (by omega) ((hfx_M13.1 170 (by decide) (by decide)).trans hTx) ((hfx_M13.2 2 (by decide)).trans h1) h2_M13 hch (by rw [hpv_M13_171]; exact hIk) (by rw [hpv_M13_171]; omega)) (cwV 0 hts gX6_readAll_X6_readDog rfl rfl rfl (by decide +kernel) ⟨Nat.le_of_ble_eq_true rfl, Nat.le_of_ble_eq_true rfl⟩) hG (g_recv hG (b := 169) (hdm 169 (by decide)) rfl rfl) rfl hl.1 rfl (Nat.le_of_ble_eq_true rfl) dX6_readAll_52 ⟨Nat.zero_le _, Nat.zero_le _⟩ (fun z14 M15 H locs hp_52 hG => ?_)
                    obtain ⟨hz_52, h2_M15, hfx0_M15, hpg_M15⟩ := hp_52
                    try rw [hpv_M13_171] at hz_52
                    try rw [hpv_M13_171] at h2_M15
                    try rw [hpv_M13_171] at hpg_M15
                    have hfx_M15 : q_fm M M15 := q_fm.tr hfx_M13 hfx0_M15
                    by_cases hc_52 : q_dg T n (sk + 1) Rk = 3
                    · skip
                      rw [if_pos hc_52] at hz_52; replace hz_52 := hz_52.symm; subst hz_52
                      rw [hc_52] at h2_M15
                      have ht_M15 := hpg_M15 hc_52
                      have h2y_M15 : M15 169 3 = (((sk + 4) : Nat) : Int) := h2_M15.trans (by omega)
                      refine z_if_ne (tgt := 30) hx hb (by decide) dX6_readAll_55 (by decide) (fun c_55 => ?_) (fun c_55 => ?_)
                      · skip
                        exact ih_30 (k + 1) (sk + 4) (q_dgp T n (sk + 1) Rk)  M15 (by omega) (by have h9 := (q_dg_ok hc_52).2.2; omega) (inv_dgp hIk (by omega) hc_52) (by unfold q_dgp; rw [q_ent_nd]; omega) (hgo.trans (by rw [q_go_yes (by omega) ⟨by omega, hc_45⟩ hc_52, show 12 - k - 1 = 12 - (k + 1) by omega])) h2y_M15 ht_M15 hfx_M15 (by omega) _ _ _ hG (lv_sub hl [0] rfl)
                      · exfalso; omega
                    · skip
                      rw [if_neg hc_52] at hz_52; replace hz_52 := hz_52.symm; subst hz_52
                      refine z_if_ne (tgt := 30) hx hb (by decide) dX6_readAll_55 (by decide) (fun c_55 => ?_) (fun c_55 => ?_)
                      · exfalso; omega
                      · skip
                        refine lv_iconst (v := iZ 0) hx hb dX6_readAll_58 rfl ?_
                        have hq9 : q_rdt T n = (false, sk + 1 + q_dg T n (sk + 1) Rk, Rk) := hgo.trans (q_go_bad (by omega) ⟨by omega, hc_45⟩ hc_52)
                        exact g_zret (post := fun z M1 => z = (if (q_rdt T n).1 = true ∧ n ≤ (q_rdt T n).2.1 then 1 else 0) ∧ M1 169 3 = ((q_rdt T n).2.1 : Int) ∧ q_fm M M1 ∧ ((q_rdt T n).1 = true → M1 171 = (q_rdt T n).2.2)) (z := 0) hx hb hr hG hlocks (Or.inl rfl) (⟨by rw [hq9, if_neg (fun h9 => by cases h9.1)], by rw [hq9]; dsimp only; have e9 := h2_M15; omega, hfx_M15, (fun h9 => by rw [hq9] at h9; cases h9)⟩) dX6_readAll_59
                · skip
                  replace hz_45 := hz_45.symm; subst hz_45; replace hM_45 := hM_45.symm; subst hM_45
                  refine z_if_eq (tgt := 60) hx hb (by decide) dX6_readAll_48 (by decide) (fun c_48 => ?_) (fun c_48 => ?_)
                  · skip
                    refine lv_aload_n hx hb dX6_readAll_60 rfl (lv_at hl 0 rfl) ?_
                    refine lv_bipush (v := iZ (114)) hx hb dX6_readAll_61 (by decide) ?_
                    refine g_callV (b := 169) (As := [.int (iZ 114)]) (rest := []) ⟨hx, hb, hml, hown, hts⟩ (c_X6_eat l G Mk hdm T n sk hn (by omega) ((hfx.1 170 (by decide) (by decide)).trans hTx) ((hfx.2 2 (by decide)).trans h1) h2k hch 114 (by omega)) (cwV 1 hts gX6_readAll_X6_eat rfl rfl rfl (by decide +kernel) ⟨Nat.le_of_ble_eq_true rfl, Nat.le_of_ble_eq_true rfl⟩) hG (g_recv hG (b := 169) (hdm 169 (by decide)) rfl rfl) rfl hl.1 rfl (Nat.le_of_ble_eq_true rfl) dX6_readAll_63 ⟨Nat.zero_le _, Nat.zero_le _⟩ (fun z16 M17 H locs hp_63 hG => ?_)
                    rcases hp_63 with ⟨hy_63, hc_63, hz_63, hM_63⟩ | ⟨hc_63, hz_63, hM_63⟩
                    · skip
                      replace hz_63 := hz_63.symm; subst hz_63
                      have h2_M17 : M17 169 3 = (((sk + 1) : Nat) : Int) := by rw [hM_63, wr_eq]; omega
                      have hfx_M17 : q_fm M M17 := by rw [hM_63]; exact q_fm.wr hfx
                      have hpv_M17_171 : M17 171 = Rk := by rw [hM_63, wr_off _ _ _ (by decide)]; exact hRk
                      refine z_if_eq (tgt := 76) hx hb (by decide) dX6_readAll_66 (by decide) (fun c_66 => ?_) (fun c_66 => ?_)
                      · exfalso; omega
                      · skip
                        refine lv_aload_n hx hb dX6_readAll_69 rfl (lv_at hl 0 rfl) ?_
                        refine g_callV (b := 169) (As := []) (rest := []) ⟨hx, hb, hml, hown, hts⟩ (c_X6_readRank l G M17 hdm T n (sk + 1) hn (by omega) ((hfx_M17.1 170 (by decide) (by decide)).trans hTx) ((hfx_M17.2 2 (by decide)).trans h1) h2_M17 hch (by rw [hpv_M17_171]; exact hIk)) (cwV 0 hts gX6_readAll_X6_readRank rfl rfl rfl (by decide +kernel) ⟨Nat.le_of_ble_eq_true rfl, Nat.le_of_ble_eq_true rfl⟩) hG (g_recv hG (b := 169) (hdm 169 (by decide)) rfl rfl) rfl hl.1 rfl (Nat.le_of_ble_eq_true rfl) dX6_readAll_70 ⟨Nat.zero_le _, Nat.zero_le _⟩ (fun z18 M19 H locs hp_70 hG => ?_)
                        obtain ⟨hz_70, h2_M19, hfx0_M19, hpg_M19⟩ := hp_70
                        try rw [hpv_M17_171] at hz_70
                        try rw [hpv_M17_171] at h2_M19
                        try rw [hpv_M17_171] at hpg_M19
                        have hfx_M19 : q_fm M M19 := q_fm.tr hfx_M17 hfx0_M19
                        by_cases hc_70 : q_rn6 T n (sk + 1) = 6
                        · skip
                          rw [if_pos hc_70] at hz_70; replace hz_70 := hz_70.symm; subst hz_70
                          rw [hc_70] at h2_M19
                          have ht_M19 := hpg_M19 hc_70
                          have h2y_M19 : M19 169 3 = (((sk + 7) : Nat) : Int) := h2_M19.trans (by omega)
                          refine z_if_eq (tgt := 91) hx hb (by decide) dX6_readAll_73 (by decide) (fun c_73 => ?_) (fun c_73 => ?_)
                          · exfalso; omega
                          · skip
                            have hq8 : q_rdt T n = q_tl T n sk Rk := hgo.trans (q_go_no (by first | exact Or.inl (by omega) | exact Or.inr hc_45))
                            have hq9 : q_rdt T n = (true, sk + 7, q_srk Rk (q_rkd T n (sk + 1))) := by rw [hq8]; unfold q_tl; rw [if_pos ⟨by omega, hc_63⟩, if_pos hc_70]
                            have hle9 := (q_rn6_ok hc_70).2
                            refine lv_aload_n hx hb dX6_readAll_76 rfl (lv_at hl 0 rfl) ?_
                            refine g_geti (z := ((sk : Int) + 7)) hx hb hts hinX6 hown hG (o := 169) (hdm 169 (by decide)) rfl rfl 3 (by decide) f105 (fun _ h => h) rfl (by rw [h2y_M19] <;> omega) dX6_readAll_77 ?_
                            refine lv_aload_n hx hb dX6_readAll_80 rfl (lv_at hl 0 rfl) ?_
                            refine g_geti (z := (n : Int)) hx hb hts hinX6 hown hG (o := 169) (hdm 169 (by decide)) rfl rfl 2 (by decide) f99 (fun _ h => h) rfl ((hfx_M19.2 2 (by decide)).trans h1) dX6_readAll_81 ?_
                            refine z_icmp_ne (tgt := 91) hx hb (by omega) (by omega) dX6_readAll_84 (by decide) (fun c_84 => ?_) (fun c_84 => ?_)
                            · skip
                              refine lv_iconst (v := iZ 0) hx hb dX6_readAll_91 rfl ?_
                              exact g_zret (post := fun z M1 => z = (if (q_rdt T n).1 = true ∧ n ≤ (q_rdt T n).2.1 then 1 else 0) ∧ M1 169 3 = ((q_rdt T n).2.1 : Int) ∧ q_fm M M1 ∧ ((q_rdt T n).1 = true → M1 171 = (q_rdt T n).2.2)) (z := 0) hx hb hr hG hlocks (Or.inl rfl) (⟨by rw [hq9]; dsimp only; first | (rw [if_pos ⟨rfl, by omega⟩]; done) | (rw [if_neg (fun h9 => by have h8 := h9.2; omega)]; done), by rw [hq9]; dsimp only; have e9 := h2y_M19; omega, hfx_M19, fun _ => by rw [hq9]; exact ht_M19⟩) dX6_readAll_92
                            · skip
                              refine lv_iconst (v := iZ 1) hx hb dX6_readAll_87 rfl ?_
                              refine lv_goto (tgt := 92) hx hb dX6_readAll_88 (by decide) ?_
                              exact g_zret (post := fun z M1 => z = (if (q_rdt T n).1 = true ∧ n ≤ (q_rdt T n).2.1 then 1 else 0) ∧ M1 169 3 = ((q_rdt T n).2.1 : Int) ∧ q_fm M M1 ∧ ((q_rdt T n).1 = true → M1 171 = (q_rdt T n).2.2)) (z := 1) hx hb hr hG hlocks (Or.inr rfl) (⟨by rw [hq9]; dsimp only; first | (rw [if_pos ⟨rfl, by omega⟩]; done) | (rw [if_neg (fun h9 => by have h8 := h9.2; omega)]; done), by rw [hq9]; dsimp only; have e9 := h2y_M19; omega, hfx_M19, fun _ => by rw [hq9]; exact ht_M19⟩) dX6_readAll_92
                        · skip
                          rw [if_neg hc_70] at hz_70; replace hz_70 := hz_70.symm; subst hz_70
                          refine z_if_eq (tgt := 91) hx hb (by decide) dX6_readAll_73 (by decide) (fun c_73 => ?_) (fun c_73 => ?_)
                          · skip
                            have hq8 : q_rdt T n = q_tl T n sk Rk := hgo.trans (q_go_no (by first | exact Or.inl (by omega) | exact Or.inr hc_45))
                            have hq9 : q_rdt T n = (false, sk + 1 + q_rn6 T n (sk + 1), Rk) := by rw [hq8]; unfold q_tl; rw [if_pos ⟨by omega, hc_63⟩, if_neg hc_70]
                            refine lv_iconst (v := iZ 0) hx hb dX6_readAll_91 rfl ?_
                            exact g_zret (post := fun z M1 => z = (if (q_rdt T n).1 = true ∧ n ≤ (q_rdt T n).2.1 then 1 else 0) ∧ M1 169 3 = ((q_rdt T n).2.1 : Int) ∧ q_fm M M1 ∧ ((q_rdt T n).1 = true → M1 171 = (q_rdt T n).2.2)) (z := 0) hx hb hr hG hlocks (Or.inl rfl) (⟨by rw [hq9, if_neg (fun h9 => by cases h9.1)], by rw [hq9]; dsimp only; have e9 := h2_M19; omega, hfx_M19, (fun h9 => by rw [hq9] at h9; cases h9)⟩) dX6_readAll_92
                          · exfalso; omega
                    · skip
                      replace hz_63 := hz_63.symm; subst hz_63; replace hM_63 := hM_63.symm; subst hM_63
                      refine z_if_eq (tgt := 76) hx hb (by decide) dX6_readAll_66 (by decide) (fun c_66 => ?_) (fun c_66 => ?_)
                      · skip
                        have hq8 : q_rdt T n = q_tl T n sk Rk := hgo.trans (q_go_no (by first | exact Or.inl (by omega) | exact Or.inr hc_45))
                        have hq9 : q_rdt T n = (true, sk, Rk) := by rw [hq8]; unfold q_tl; rw [if_neg hc_63]
                        refine lv_aload_n hx hb dX6_readAll_76 rfl (lv_at hl 0 rfl) ?_
                        refine g_geti (z := (sk : Int)) hx hb hts hinX6 hown hG (o := 169) (hdm 169 (by decide)) rfl rfl 3 (by decide) f105 (fun _ h => h) rfl (by rw [h2k] <;> omega) dX6_readAll_77 ?_
                        refine lv_aload_n hx hb dX6_readAll_80 rfl (lv_at hl 0 rfl) ?_
                        refine g_geti (z := (n : Int)) hx hb hts hinX6 hown hG (o := 169) (hdm 169 (by decide)) rfl rfl 2 (by decide) f99 (fun _ h => h) rfl ((hfx.2 2 (by decide)).trans h1) dX6_readAll_81 ?_
                        refine z_icmp_ne (tgt := 91) hx hb (by omega) (by omega) dX6_readAll_84 (by decide) (fun c_84 => ?_) (fun c_84 => ?_)
                        · skip
                          refine lv_iconst (v := iZ 0) hx hb dX6_readAll_91 rfl ?_
                          exact g_zret (post := fun z M1 => z = (if (q_rdt T n).1 = true ∧ n ≤ (q_rdt T n).2.1 then 1 else 0) ∧ M1 169 3 = ((q_rdt T n).2.1 : Int) ∧ q_fm M M1 ∧ ((q_rdt T n).1 = true → M1 171 = (q_rdt T n).2.2)) (z := 0) hx hb hr hG hlocks (Or.inl rfl) (⟨by rw [hq9]; dsimp only; first | (rw [if_pos ⟨rfl, by omega⟩]; done) | (rw [if_neg (fun h9 => by have h8 := h9.2; omega)]; done), by rw [hq9]; dsimp only; have e9 := h2k; omega, hfx, fun _ => by rw [hq9]; exact hRk⟩) dX6_readAll_92
                        · skip
                          refine lv_iconst (v := iZ 1) hx hb dX6_readAll_87 rfl ?_
                          refine lv_goto (tgt := 92) hx hb dX6_readAll_88 (by decide) ?_
                          exact g_zret (post := fun z M1 => z = (if (q_rdt T n).1 = true ∧ n ≤ (q_rdt T n).2.1 then 1 else 0) ∧ M1 169 3 = ((q_rdt T n).2.1 : Int) ∧ q_fm M M1 ∧ ((q_rdt T n).1 = true → M1 171 = (q_rdt T n).2.2)) (z := 1) hx hb hr hG hlocks (Or.inr rfl) (⟨by rw [hq9]; dsimp only; first | (rw [if_pos ⟨rfl, by omega⟩]; done) | (rw [if_neg (fun h9 => by have h8 := h9.2; omega)]; done), by rw [hq9]; dsimp only; have e9 := h2k; omega, hfx, fun _ => by rw [hq9]; exact hRk⟩) dX6_readAll_92
                      · exfalso; omega
                  · exfalso; omega
          exact L_30 _ 0 4 (q_sun q_new (q_sv T n 1))  M7 (by omega) (q_sn_ok hc_22).2 (inv_sun q_new_inv rfl (q_sn_ok hc_22).1) rfl (by unfold q_rdt; rw [if_pos ⟨by omega, hc_15⟩, if_pos hc_22]) h2y_M7 ht_M7 hfx_M7 (Nat.lt_succ_self _) _ _ _ hG (lv_sub hl [0] rfl)
        · exfalso; omega
      · skip
        rw [if_neg hc_22] at hz_22; replace hz_22 := hz_22.symm; subst hz_22
        refine z_if_ne (tgt := 30) hx hb (by decide) dX6_readAll_25 (by decide) (fun c_25 => ?_) (fun c_25 => ?_)
        · exfalso; omega
        · skip
          refine lv_iconst (v := iZ 0) hx hb dX6_readAll_28 rfl ?_
          have hq9 : q_rdt T n = (false, 1 + q_sn T n 1, q_new) := by unfold q_rdt; rw [if_pos ⟨by omega, hc_15⟩, if_neg hc_22]
          exact g_zret (post := fun z M1 => z = (if (q_rdt T n).1 = true ∧ n ≤ (q_rdt T n).2.1 then 1 else 0) ∧ M1 169 3 = ((q_rdt T n).2.1 : Int) ∧ q_fm M M1 ∧ ((q_rdt T n).1 = true → M1 171 = (q_rdt T n).2.2)) (z := 0) hx hb hr hG hlocks (Or.inl rfl) (⟨by rw [hq9, if_neg (fun h9 => by cases h9.1)], by rw [hq9]; dsimp only; have e9 := h2_M7; omega, hfx_M7, (fun h9 => by rw [hq9] at h9; cases h9)⟩) dX6_readAll_29
  · skip
    replace hz_15 := hz_15.symm; subst hz_15; replace hM_15 := hM_15.symm; subst hM_15
    refine z_if_eq (tgt := 28) hx hb (by decide) dX6_readAll_18 (by decide) (fun c_18 => ?_) (fun c_18 => ?_)
    · skip
      refine lv_iconst (v := iZ 0) hx hb dX6_readAll_28 rfl ?_
      have hq9 : q_rdt T n = (false, 0, q_new) := by unfold q_rdt; rw [if_neg (by omega)]
      exact g_zret (post := fun z M1 => z = (if (q_rdt T n).1 = true ∧ n ≤ (q_rdt T n).2.1 then 1 else 0) ∧ M1 169 3 = ((q_rdt T n).2.1 : Int) ∧ q_fm M M1 ∧ ((q_rdt T n).1 = true → M1 171 = (q_rdt T n).2.2)) (z := 0) hx hb hr hG hlocks (Or.inl rfl) (⟨by rw [hq9, if_neg (fun h9 => by cases h9.1)], by rw [hq9]; dsimp only; have e9 := h20; omega, hfx0, (fun h9 => by rw [hq9] at h9; cases h9)⟩) dX6_readAll_29
    · exfalso; omega
