set_option maxHeartbeats 4000000 in
set_option maxRecDepth 100000 in
theorem c_X4_readSign (l : Launch) (G : gG) (M : Nat → Nat → Int) (hdm : ∀ k, k < 169 → gdm G k) (T : Nat → Int) (n ps : Nat) (hn : n ≤ 70) (hs : ps ≤ n) (hTx : M 168 = T) (h1 : M 167 1 = (n : Int)) (h2 : M 167 2 = (ps : Int)) (hch : ∀ j, j < n → 0 ≤ T j ∧ T j ≤ 255) (cd : Int) (hcd : 0 ≤ cd ∧ cd ≤ 255) : gMi l yX4_readSign wsX4_readSign ({ frames := 0, cells := 0, slots := 0, locals := 0 } : Room) G M [.ref (gad G 167), .int (iZ cd)] (fun z M1 => (ps < n ∧ T ps = cd ∧ z = 1 ∧ M1 = q_wr M 167 2 ((ps : Int) + 1)) ∨ (¬ (ps < n ∧ T ps = cd) ∧ z = 0 ∧ M1 = M)) := by
  refine gMi_of (cc := cX4_readSign) (maxL := 2) (ret := some .boolean) (by decide) rfl (Nat.le_of_ble_eq_true rfl) ?_
  intro p e s m below meth c ls hx hb hr hml hown hts hlocks hl hG
  have hown : s.vm.findClass RX4 = some m.cls := hown
  have hl : lv_has ls 2 [(0, .ref (gad G 167)), (1, .int (iZ cd))] := hl
  have hinX4 : ∀ w ∈ u_ws RX4 TX4 3, w ∈ wsX4_readSign := by decide +kernel
  have f9 := hts (.fieldLink RX4 9 "DogTrials$TrialText" "codes" "[I") (by decide +kernel)
  have f15 := hts (.fieldLink RX4 15 "DogTrials$TrialText" "length" "I") (by decide +kernel)
  have f24 := hts (.fieldLink RX4 24 "DogTrials$TrialText" "at" "I") (by decide +kernel)
  refine lv_aload_n hx hb dX4_readSign_0 rfl (lv_at hl 0 rfl) ?_
  refine g_geti (z := (ps : Int)) hx hb hts hinX4 hown hG (o := 167) (hdm 167 (by decide)) rfl rfl 2 (by decide) f24 (fun _ h => h) rfl (by rw [h2] <;> omega) dX4_readSign_1 ?_
  refine lv_aload_n hx hb dX4_readSign_4 rfl (lv_at hl 0 rfl) ?_
  refine g_geti (z := (n : Int)) hx hb hts hinX4 hown hG (o := 167) (hdm 167 (by decide)) rfl rfl 1 (by decide) f15 (fun _ h => h) rfl h1 dX4_readSign_5 ?_
  refine z_icmp_ge (tgt := 24) hx hb (by omega) (by omega) dX4_readSign_8 (by decide) (fun c_8 => ?_) (fun c_8 => ?_)
  · skip
    refine lv_iconst (v := iZ 0) hx hb dX4_readSign_24 rfl ?_
    exact g_zret (post := fun z M1 => (ps < n ∧ T ps = cd ∧ z = 1 ∧ M1 = q_wr M 167 2 ((ps : Int) + 1)) ∨ (¬ (ps < n ∧ T ps = cd) ∧ z = 0 ∧ M1 = M)) (z := 0) hx hb hr hG hlocks (Or.inl rfl) (Or.inr ⟨by omega, rfl, rfl⟩) dX4_readSign_25
  · skip
    refine lv_aload_n hx hb dX4_readSign_11 rfl (lv_at hl 0 rfl) ?_
    refine g_get hx hb hts hinX4 hown hG (o := 167) (hdm 167 (by decide)) rfl rfl 0 (by decide) f9 (fun _ h => h) rfl dX4_readSign_12 ?_
    refine lv_aload_n hx hb dX4_readSign_15 rfl (lv_at hl 0 rfl) ?_
    refine g_geti (z := (ps : Int)) hx hb hts hinX4 hown hG (o := 167) (hdm 167 (by decide)) rfl rfl 2 (by decide) f24 (fun _ h => h) rfl (by rw [h2] <;> omega) dX4_readSign_16 ?_
    refine g_iald (z := (T ps)) (j := ps) hx hb hG (o := 168) (hdm 168 (by decide)) rfl (by omega) (by omega) (by omega) (by rw [hTx]) dX4_readSign_19 ?_
    have hcs := hch ps (by omega)
    refine lv_iload_n hx hb dX4_readSign_20 rfl (lv_at hl 1 rfl) ?_
    refine z_icmp_eq (tgt := 26) hx hb (by omega) (by omega) dX4_readSign_21 (by decide) (fun c_21 => ?_) (fun c_21 => ?_)
    · skip
      refine lv_aload_n hx hb dX4_readSign_26 rfl (lv_at hl 0 rfl) ?_
      refine lv_dup hx hb dX4_readSign_27 rfl ?_
      refine g_geti (z := (ps : Int)) hx hb hts hinX4 hown hG (o := 167) (hdm 167 (by decide)) rfl rfl 2 (by decide) f24 (fun _ h => h) rfl (by rw [h2] <;> omega) dX4_readSign_28 ?_
      refine lv_iconst (v := iZ 1) hx hb dX4_readSign_31 rfl ?_
      refine z_iadd (z := ((ps : Int) + 1)) hx hb (by omega) dX4_readSign_32 ?_
      refine g_put (F := (oS G)) hx hb hts hinX4 tyX4 tyX4_ok nmX4 hown hG (o := 167) (hdm 167 (by decide)) (fun f => rfl) rfl 2 (by decide) f24 (fun _ h => h) rfl rfl (fun _ => Nat.lt_of_lt_of_le (by decide) (Nat.le_refl 3)) (fun _ => rfl) dX4_readSign_33 (fun H locs hG => ?_)
      obtain ⟨M1, hM1⟩ : ∃ X, X = (q_wr M 167 2 ((ps : Int) + 1)) := ⟨_, rfl⟩
      rw [← hM1] at hG
      refine lv_iconst (v := iZ 1) hx hb dX4_readSign_36 rfl ?_
      exact g_zret (post := fun z M1 => (ps < n ∧ T ps = cd ∧ z = 1 ∧ M1 = q_wr M 167 2 ((ps : Int) + 1)) ∨ (¬ (ps < n ∧ T ps = cd) ∧ z = 0 ∧ M1 = M)) (z := 1) hx hb hr hG hlocks (Or.inr rfl) (Or.inl ⟨by omega, by omega, rfl, hM1⟩) dX4_readSign_37
    · skip
      refine lv_iconst (v := iZ 0) hx hb dX4_readSign_24 rfl ?_
      exact g_zret (post := fun z M1 => (ps < n ∧ T ps = cd ∧ z = 1 ∧ M1 = q_wr M 167 2 ((ps : Int) + 1)) ∨ (¬ (ps < n ∧ T ps = cd) ∧ z = 0 ∧ M1 = M)) (z := 0) hx hb hr hG hlocks (Or.inl rfl) (Or.inr ⟨by omega, rfl, rfl⟩) dX4_readSign_25
set_option maxHeartbeats 4000000 in
set_option maxRecDepth 100000 in
theorem c_X4_digit (l : Launch) (G : gG) (M : Nat → Nat → Int) (hdm : ∀ k, k < 169 → gdm G k) (T : Nat → Int) (n ps : Nat) (hn : n ≤ 70) (hs : ps ≤ n) (hTx : M 168 = T) (h1 : M 167 1 = (n : Int)) (h2 : M 167 2 = (ps : Int)) (hch : ∀ j, j < n → 0 ≤ T j ∧ T j ≤ 255) : gMi l yX4_digit wsX4_digit ({ frames := 0, cells := 0, slots := 0, locals := 0 } : Room) G M [.ref (gad G 167)] (fun z M1 => z = q_dgt T n ps ∧ M1 = M) := by
  refine gMi_of (cc := cX4_digit) (maxL := 1) (ret := some .int) (by decide) rfl (Nat.le_of_ble_eq_true rfl) ?_
  intro p e s m below meth c ls hx hb hr hml hown hts hlocks hl hG
  have hown : s.vm.findClass RX4 = some m.cls := hown
  have hl : lv_has ls 1 [(0, .ref (gad G 167))] := hl
  have hinX4 : ∀ w ∈ u_ws RX4 TX4 3, w ∈ wsX4_digit := by decide +kernel
  have f9 := hts (.fieldLink RX4 9 "DogTrials$TrialText" "codes" "[I") (by decide +kernel)
  have f15 := hts (.fieldLink RX4 15 "DogTrials$TrialText" "length" "I") (by decide +kernel)
  have f24 := hts (.fieldLink RX4 24 "DogTrials$TrialText" "at" "I") (by decide +kernel)
  refine lv_aload_n hx hb dX4_digit_0 rfl (lv_at hl 0 rfl) ?_
  refine g_geti (z := (ps : Int)) hx hb hts hinX4 hown hG (o := 167) (hdm 167 (by decide)) rfl rfl 2 (by decide) f24 (fun _ h => h) rfl (by rw [h2] <;> omega) dX4_digit_1 ?_
  refine lv_aload_n hx hb dX4_digit_4 rfl (lv_at hl 0 rfl) ?_
  refine g_geti (z := (n : Int)) hx hb hts hinX4 hown hG (o := 167) (hdm 167 (by decide)) rfl rfl 1 (by decide) f15 (fun _ h => h) rfl h1 dX4_digit_5 ?_
  refine z_icmp_ge (tgt := 39) hx hb (by omega) (by omega) dX4_digit_8 (by decide) (fun c_8 => ?_) (fun c_8 => ?_)
  · skip
    refine lv_bipush (v := iZ (-9)) hx hb dX4_digit_39 (by decide) ?_
    exact g_iret (post := fun z M1 => z = q_dgt T n ps ∧ M1 = M) (z := (-9)) hx hb hr hG hlocks (⟨(q_dgt_neg (by omega)).symm, rfl⟩) dX4_digit_41
  · skip
    refine lv_aload_n hx hb dX4_digit_11 rfl (lv_at hl 0 rfl) ?_
    refine g_get hx hb hts hinX4 hown hG (o := 167) (hdm 167 (by decide)) rfl rfl 0 (by decide) f9 (fun _ h => h) rfl dX4_digit_12 ?_
    refine lv_aload_n hx hb dX4_digit_15 rfl (lv_at hl 0 rfl) ?_
    refine g_geti (z := (ps : Int)) hx hb hts hinX4 hown hG (o := 167) (hdm 167 (by decide)) rfl rfl 2 (by decide) f24 (fun _ h => h) rfl (by rw [h2] <;> omega) dX4_digit_16 ?_
    refine g_iald (z := (T ps)) (j := ps) hx hb hG (o := 168) (hdm 168 (by decide)) rfl (by omega) (by omega) (by omega) (by rw [hTx]) dX4_digit_19 ?_
    have hcs := hch ps (by omega)
    refine lv_bipush (v := iZ (48)) hx hb dX4_digit_20 (by decide) ?_
    refine z_icmp_lt (tgt := 39) hx hb (by omega) (by decide) dX4_digit_22 (by decide) (fun c_22 => ?_) (fun c_22 => ?_)
    · skip
      refine lv_bipush (v := iZ (-9)) hx hb dX4_digit_39 (by decide) ?_
      exact g_iret (post := fun z M1 => z = q_dgt T n ps ∧ M1 = M) (z := (-9)) hx hb hr hG hlocks (⟨(q_dgt_neg (by omega)).symm, rfl⟩) dX4_digit_41
    · skip
      refine lv_aload_n hx hb dX4_digit_25 rfl (lv_at hl 0 rfl) ?_
      refine g_get hx hb hts hinX4 hown hG (o := 167) (hdm 167 (by decide)) rfl rfl 0 (by decide) f9 (fun _ h => h) rfl dX4_digit_26 ?_
      refine lv_aload_n hx hb dX4_digit_29 rfl (lv_at hl 0 rfl) ?_
      refine g_geti (z := (ps : Int)) hx hb hts hinX4 hown hG (o := 167) (hdm 167 (by decide)) rfl rfl 2 (by decide) f24 (fun _ h => h) rfl (by rw [h2] <;> omega) dX4_digit_30 ?_
      refine g_iald (z := (T ps)) (j := ps) hx hb hG (o := 168) (hdm 168 (by decide)) rfl (by omega) (by omega) (by omega) (by rw [hTx]) dX4_digit_33 ?_
      refine lv_bipush (v := iZ (57)) hx hb dX4_digit_34 (by decide) ?_
      refine z_icmp_le (tgt := 42) hx hb (by omega) (by decide) dX4_digit_36 (by decide) (fun c_36 => ?_) (fun c_36 => ?_)
      · skip
        refine lv_aload_n hx hb dX4_digit_42 rfl (lv_at hl 0 rfl) ?_
        refine g_get hx hb hts hinX4 hown hG (o := 167) (hdm 167 (by decide)) rfl rfl 0 (by decide) f9 (fun _ h => h) rfl dX4_digit_43 ?_
        refine lv_aload_n hx hb dX4_digit_46 rfl (lv_at hl 0 rfl) ?_
        refine g_geti (z := (ps : Int)) hx hb hts hinX4 hown hG (o := 167) (hdm 167 (by decide)) rfl rfl 2 (by decide) f24 (fun _ h => h) rfl (by rw [h2] <;> omega) dX4_digit_47 ?_
        refine g_iald (z := (T ps)) (j := ps) hx hb hG (o := 168) (hdm 168 (by decide)) rfl (by omega) (by omega) (by omega) (by rw [hTx]) dX4_digit_50 ?_
        refine lv_bipush (v := iZ (48)) hx hb dX4_digit_51 (by decide) ?_
        refine z_isub (z := ((T ps) - 48)) hx hb (by omega) dX4_digit_53 ?_
        exact g_iret (post := fun z M1 => z = q_dgt T n ps ∧ M1 = M) (z := ((T ps) - 48)) hx hb hr hG hlocks (⟨(q_dgt_pos (by omega) (by omega) (by omega)).symm, rfl⟩) dX4_digit_54
      · skip
        refine lv_bipush (v := iZ (-9)) hx hb dX4_digit_39 (by decide) ?_
        exact g_iret (post := fun z M1 => z = q_dgt T n ps ∧ M1 = M) (z := (-9)) hx hb hr hG hlocks (⟨(q_dgt_neg (by omega)).symm, rfl⟩) dX4_digit_41
set_option maxHeartbeats 4000000 in
set_option maxRecDepth 100000 in
theorem c_X4_beginsSunset (l : Launch) (G : gG) (M : Nat → Nat → Int) (a u : Int) (ha : -100000 ≤ a ∧ a ≤ 100000) (hu : -100000 ≤ u ∧ u ≤ 100000) : gMi l yX4_beginsSunset wsX4_beginsSunset ({ frames := 0, cells := 0, slots := 0, locals := 0 } : Room) G M [.int (iZ a), .int (iZ u)] (fun z M1 => z = (if 60 ≤ a + u - 1 ∧ a ≤ 600 then 1 else 0) ∧ M1 = M) := by
  refine gMi_of (cc := cX4_beginsSunset) (maxL := 2) (ret := some .boolean) (by decide) rfl (Nat.le_of_ble_eq_true rfl) ?_
  intro p e s m below meth c ls hx hb hr hml hown hts hlocks hl hG
  have hown : s.vm.findClass RX4 = some m.cls := hown
  have hl : lv_has ls 2 [(0, .int (iZ a)), (1, .int (iZ u))] := hl
  refine lv_iload_n hx hb dX4_beginsSunset_0 rfl (lv_at hl 0 rfl) ?_
  refine lv_iload_n hx hb dX4_beginsSunset_1 rfl (lv_at hl 1 rfl) ?_
  refine z_iadd (z := (a + u)) hx hb (by omega) dX4_beginsSunset_2 ?_
  refine lv_iconst (v := iZ 1) hx hb dX4_beginsSunset_3 rfl ?_
  refine z_isub (z := (a + u - 1)) hx hb (by omega) dX4_beginsSunset_4 ?_
  refine lv_bipush (v := iZ (60)) hx hb dX4_beginsSunset_5 (by decide) ?_
  refine z_icmp_lt (tgt := 21) hx hb (by omega) (by decide) dX4_beginsSunset_7 (by decide) (fun c_7 => ?_) (fun c_7 => ?_)
  · skip
    refine lv_iconst (v := iZ 0) hx hb dX4_beginsSunset_21 rfl ?_
    exact g_zret (post := fun z M1 => z = (if 60 ≤ a + u - 1 ∧ a ≤ 600 then 1 else 0) ∧ M1 = M) (z := 0) hx hb hr hG hlocks (Or.inl rfl) (⟨by first | (rw [if_pos (by omega)]; done) | (rw [if_neg (by omega)]; done), rfl⟩) dX4_beginsSunset_22
  · skip
    refine lv_iload_n hx hb dX4_beginsSunset_10 rfl (lv_at hl 0 rfl) ?_
    refine lv_sipush (v := iZ (600)) hx hb dX4_beginsSunset_11 (by decide) ?_
    refine z_icmp_gt (tgt := 21) hx hb (by omega) (by decide) dX4_beginsSunset_14 (by decide) (fun c_14 => ?_) (fun c_14 => ?_)
    · skip
      refine lv_iconst (v := iZ 0) hx hb dX4_beginsSunset_21 rfl ?_
      exact g_zret (post := fun z M1 => z = (if 60 ≤ a + u - 1 ∧ a ≤ 600 then 1 else 0) ∧ M1 = M) (z := 0) hx hb hr hG hlocks (Or.inl rfl) (⟨by first | (rw [if_pos (by omega)]; done) | (rw [if_neg (by omega)]; done), rfl⟩) dX4_beginsSunset_22
    · skip
      refine lv_iconst (v := iZ 1) hx hb dX4_beginsSunset_17 rfl ?_
      refine lv_goto (tgt := 22) hx hb dX4_beginsSunset_18 (by decide) ?_
      exact g_zret (post := fun z M1 => z = (if 60 ≤ a + u - 1 ∧ a ≤ 600 then 1 else 0) ∧ M1 = M) (z := 1) hx hb hr hG hlocks (Or.inr rfl) (⟨by first | (rw [if_pos (by omega)]; done) | (rw [if_neg (by omega)]; done), rfl⟩) dX4_beginsSunset_22
set_option maxHeartbeats 4000000 in
set_option maxRecDepth 100000 in
theorem c_X4_readSunset (l : Launch) (G : gG) (M : Nat → Nat → Int) (hdm : ∀ k, k < 169 → gdm G k) (T : Nat → Int) (n ps : Nat) (hn : n ≤ 70) (hs : ps ≤ n) (hTx : M 168 = T) (h1 : M 167 1 = (n : Int)) (h2 : M 167 2 = (ps : Int)) (hch : ∀ j, j < n → 0 ≤ T j ∧ T j ≤ 255) (R : Nat → Int) (hR : q_tr M 8 R) (hI : q_inv R) : gMi l yX4_readSunset wsX4_readSunset ({ frames := 1, cells := 0, slots := 0, locals := 21 } : Room) G M [.ref (gad G 167), .ref (gad G 8)] (fun z M1 => z = (if q_sn T n ps = 3 then 1 else 0) ∧ M1 167 2 = ((ps + q_sn T n ps : Nat) : Int) ∧ q_fx M M1 ∧ (q_sn T n ps = 3 → q_tr M1 8 (q_sun R (q_sv T n ps))) ∧ (∀ j : Nat, j < 12 → 0 ≤ M1 12 j ∧ M1 12 j ≤ 1)) := by
  refine gMi_of (cc := cX4_readSunset) (maxL := 6) (ret := some .boolean) (by decide) rfl (Nat.le_of_ble_eq_true rfl) ?_
  intro p e s m below meth c ls hx hb hr hml hown hts hlocks hl hG
  have hown : s.vm.findClass RX4 = some m.cls := hown
  have hl : lv_has ls 6 [(0, .ref (gad G 167)), (1, .ref (gad G 8))] := hl
  have hinX3 : ∀ w ∈ u_ws RX3 TX3 15, w ∈ wsX4_readSunset := by decide +kernel
  have hinX4 : ∀ w ∈ u_ws RX4 TX4 3, w ∈ wsX4_readSunset := by decide +kernel
  have f24 := hts (.fieldLink RX4 24 "DogTrials$TrialText" "at" "I") (by decide +kernel)
  have f52 := hts (.fieldLink RX4 52 "DogTrials$Trial" "sunset" "I") (by decide +kernel)
  refine lv_iconst (v := iZ 0) hx hb dX4_readSunset_0 rfl ?_
  refine lv_istore_n (lv' := [(2, .int (iZ 0)), (0, .ref (gad G 167)), (1, .ref (gad G 8))]) hx hb dX4_readSunset_1 rfl hl (by decide) rfl (fun ls hl => ?_)
  refine lv_bipush (v := iZ (100)) hx hb dX4_readSunset_2 (by decide) ?_
  refine lv_istore_n (lv' := [(3, .int (iZ 100)), (2, .int (iZ 0)), (0, .ref (gad G 167)), (1, .ref (gad G 8))]) hx hb dX4_readSunset_4 rfl hl (by decide) rfl (fun ls hl => ?_)
  refine lv_iconst (v := iZ 0) hx hb dX4_readSunset_5 rfl ?_
  refine lv_istore (lv' := [(4, .int (iZ 0)), (3, .int (iZ 100)), (2, .int (iZ 0)), (0, .ref (gad G 167)), (1, .ref (gad G 8))]) hx hb dX4_readSunset_6 hl (by decide) rfl (fun ls hl => ?_)
  refine lv_iload hx hb dX4_readSunset_8 (lv_at hl 0 rfl) ?_
  refine lv_iconst (v := iZ 3) hx hb dX4_readSunset_10 rfl ?_
  refine z_icmp_ge (tgt := 70) hx hb (by decide) (by decide) dX4_readSunset_11 (by decide) (fun c_11 => ?_) (fun c_11 => ?_)
  · exfalso; omega
  · skip
    refine lv_aload_n hx hb dX4_readSunset_14 rfl (lv_at hl 3 rfl) ?_
    refine g_callV (b := 167) (As := []) (rest := []) ⟨hx, hb, hml, hown, hts⟩ (c_X4_digit l G M hdm T n ps hn (by omega) hTx h1 h2 hch) (cwV 0 hts gX4_readSunset_X4_digit rfl rfl rfl (by decide +kernel) ⟨Nat.le_of_ble_eq_true rfl, Nat.le_of_ble_eq_true rfl⟩) hG (g_recv hG (b := 167) (hdm 167 (by decide)) rfl rfl) rfl hl.1 rfl (Nat.le_of_ble_eq_true rfl) dX4_readSunset_15 ⟨Nat.zero_le _, Nat.zero_le _⟩ (fun z1 M2 H locs hp_15 hG => ?_)
    obtain ⟨hz_15, hM_15⟩ := hp_15; replace hz_15 := hz_15.symm; subst hz_15; replace hM_15 := hM_15.symm; subst hM_15
    have hdg_15 := q_dgt_in T n ps
    refine lv_istore (lv' := [(5, .int (iZ (q_dgt T n ps))), (4, .int (iZ 0)), (3, .int (iZ 100)), (2, .int (iZ 0)), (0, .ref (gad G 167)), (1, .ref (gad G 8))]) hx hb dX4_readSunset_18 hl (by decide) rfl (fun ls hl => ?_)
    refine lv_iload hx hb dX4_readSunset_20 (lv_at hl 0 rfl) ?_
    refine lv_bipush (v := iZ (-9)) hx hb dX4_readSunset_22 (by decide) ?_
    refine z_icmp_eq (tgt := 40) hx hb (by omega) (by decide) dX4_readSunset_24 (by decide) (fun c_24 => ?_) (fun c_24 => ?_)
    · skip
      refine lv_iconst (v := iZ 0) hx hb dX4_readSunset_40 rfl ?_
      have hsn : q_sn T n ps = 0 := q_sn_0 (by omega)
      exact g_zret (post := fun z M1 => z = (if q_sn T n ps = 3 then 1 else 0) ∧ M1 167 2 = ((ps + q_sn T n ps : Nat) : Int) ∧ q_fx M M1 ∧ (q_sn T n ps = 3 → q_tr M1 8 (q_sun R (q_sv T n ps))) ∧ (∀ j : Nat, j < 12 → 0 ≤ M1 12 j ∧ M1 12 j ≤ 1)) (z := 0) hx hb hr hG hlocks (Or.inl rfl) (⟨by rw [hsn, if_neg (by decide)], by rw [hsn]; have e9 := h2; omega, (q_fx.rf M), fun h9 => by omega, fun j hj => tr_bo hR hj⟩) dX4_readSunset_41
    · skip
      refine lv_iload_n hx hb dX4_readSunset_27 rfl (lv_at hl 3 rfl) ?_
      refine lv_iload hx hb dX4_readSunset_28 (lv_at hl 0 rfl) ?_
      refine lv_iload_n hx hb dX4_readSunset_30 rfl (lv_at hl 2 rfl) ?_
      refine z_imul (z := (100 * (q_dgt T n ps))) hx hb (by omega) dX4_readSunset_31 ?_
      refine z_iadd (z := (100 * (q_dgt T n ps))) hx hb (by omega) dX4_readSunset_32 ?_
      refine lv_iload_n hx hb dX4_readSunset_33 rfl (lv_at hl 2 rfl) ?_
      refine g_callS (As := [.int (iZ (100 * (q_dgt T n ps))), .int (iZ 100)]) (rest := []) ⟨hx, hb, hml, hown, hts⟩ (c_X4_beginsSunset l G M (100 * (q_dgt T n ps)) 100 (by omega) (by omega)) (va_cwS 2 hts gX4_readSunset_X4_beginsSunset rfl rfl rfl (by decide +kernel) ⟨Nat.le_of_ble_eq_true rfl, Nat.le_of_ble_eq_true rfl⟩) hG rfl hl.1 rfl (Nat.le_of_ble_eq_true rfl) dX4_readSunset_34 ⟨Nat.zero_le _, Nat.zero_le _⟩ (fun z3 M4 H locs hp_34 hG => ?_)
      obtain ⟨hz_34, hM_34⟩ := hp_34; replace hz_34 := hz_34.symm; subst hz_34; replace hM_34 := hM_34.symm; subst hM_34
      refine z_ifP_ne (tgt := 42) hx hb dX4_readSunset_37 (by decide) (fun c_37 => ?_) (fun c_37 => ?_)
      · skip
        refine lv_iload_n hx hb dX4_readSunset_42 rfl (lv_at hl 3 rfl) ?_
        refine lv_iload hx hb dX4_readSunset_43 (lv_at hl 0 rfl) ?_
        refine lv_iload_n hx hb dX4_readSunset_45 rfl (lv_at hl 2 rfl) ?_
        refine z_imul (z := (100 * (q_dgt T n ps))) hx hb (by omega) dX4_readSunset_46 ?_
        refine z_iadd (z := (100 * (q_dgt T n ps))) hx hb (by omega) dX4_readSunset_47 ?_
        refine lv_istore_n (lv' := [(2, .int (iZ (100 * (q_dgt T n ps)))), (5, .int (iZ (q_dgt T n ps))), (4, .int (iZ 0)), (3, .int (iZ 100)), (0, .ref (gad G 167)), (1, .ref (gad G 8))]) hx hb dX4_readSunset_48 rfl hl (by decide) rfl (fun ls hl => ?_)
        refine lv_iload_n hx hb dX4_readSunset_49 rfl (lv_at hl 3 rfl) ?_
        refine lv_bipush (v := iZ (10)) hx hb dX4_readSunset_50 (by decide) ?_
        refine z_idiv (z := 10) hx hb (by omega) (by omega) rfl dX4_readSunset_52 ?_
        refine lv_istore_n (lv' := [(3, .int (iZ 10)), (2, .int (iZ (100 * (q_dgt T n ps)))), (5, .int (iZ (q_dgt T n ps))), (4, .int (iZ 0)), (0, .ref (gad G 167)), (1, .ref (gad G 8))]) hx hb dX4_readSunset_53 rfl hl (by decide) rfl (fun ls hl => ?_)
        refine lv_aload_n hx hb dX4_readSunset_54 rfl (lv_at hl 4 rfl) ?_
        refine lv_dup hx hb dX4_readSunset_55 rfl ?_
        refine g_geti (z := (ps : Int)) hx hb hts hinX4 hown hG (o := 167) (hdm 167 (by decide)) rfl rfl 2 (by decide) f24 (fun _ h => h) rfl (by rw [h2] <;> omega) dX4_readSunset_56 ?_
        refine lv_iconst (v := iZ 1) hx hb dX4_readSunset_59 rfl ?_
        refine z_iadd (z := ((ps : Int) + 1)) hx hb (by omega) dX4_readSunset_60 ?_
        refine g_put (F := (oS G)) hx hb hts hinX4 tyX4 tyX4_ok nmX4 hown hG (o := 167) (hdm 167 (by decide)) (fun f => rfl) rfl 2 (by decide) f24 (fun _ h => h) rfl rfl (fun _ => Nat.lt_of_lt_of_le (by decide) (Nat.le_refl 3)) (fun _ => rfl) dX4_readSunset_61 (fun H locs hG => ?_)
        obtain ⟨M5, hM5⟩ : ∃ X, X = (q_wr M 167 2 ((ps : Int) + 1)) := ⟨_, rfl⟩
        rw [← hM5] at hG
        have hR__M5 : q_tr M5 8 R := by rw [hM5]; exact tr_wr hR (by omega)
        have h2_M5 : M5 167 2 = (((ps + 1) : Nat) : Int) := by rw [hM5, wr_eq]; omega
        have hfx_M5 : q_fx M M5 := by rw [hM5]; exact q_fx.wr (q_fx.rf M)
        refine z_iinc (z := 1) (lv' := [(4, .int (iZ 1)), (3, .int (iZ 10)), (2, .int (iZ (100 * (q_dgt T n ps)))), (5, .int (iZ (q_dgt T n ps))), (0, .ref (gad G 167)), (1, .ref (gad G 8))]) hx hb dX4_readSunset_64 hl (k := 3) rfl (by omega) (by decide) rfl (fun ls hl => ?_)
        refine lv_goto (tgt := 8) hx hb dX4_readSunset_67 (by decide) ?_
        refine lv_iload hx hb dX4_readSunset_8 (lv_at hl 0 rfl) ?_
        refine lv_iconst (v := iZ 3) hx hb dX4_readSunset_10 rfl ?_
        refine z_icmp_ge (tgt := 70) hx hb (by decide) (by decide) dX4_readSunset_11 (by decide) (fun c_11 => ?_) (fun c_11 => ?_)
        · exfalso; omega
        · skip
          refine lv_aload_n hx hb dX4_readSunset_14 rfl (lv_at hl 4 rfl) ?_
          refine g_callV (b := 167) (As := []) (rest := []) ⟨hx, hb, hml, hown, hts⟩ (c_X4_digit l G M5 hdm T n (ps + 1) hn (by omega) ((hfx_M5.1 168 (by decide) (by decide)).trans hTx) ((hfx_M5.2 1 (by decide)).trans h1) h2_M5 hch) (cwV 0 hts gX4_readSunset_X4_digit rfl rfl rfl (by decide +kernel) ⟨Nat.le_of_ble_eq_true rfl, Nat.le_of_ble_eq_true rfl⟩) hG (g_recv hG (b := 167) (hdm 167 (by decide)) rfl rfl) rfl hl.1 rfl (Nat.le_of_ble_eq_true rfl) dX4_readSunset_15 ⟨Nat.zero_le _, Nat.zero_le _⟩ (fun z6 M7 H locs hp_15 hG => ?_)
          obtain ⟨hz_15, hM_15⟩ := hp_15; replace hz_15 := hz_15.symm; subst hz_15; replace hM_15 := hM_15.symm; subst hM_15
          have hdg_15 := q_dgt_in T n (ps + 1)
          refine lv_istore (lv' := [(5, .int (iZ (q_dgt T n (ps + 1)))), (4, .int (iZ 1)), (3, .int (iZ 10)), (2, .int (iZ (100 * (q_dgt T n ps)))), (0, .ref (gad G 167)), (1, .ref (gad G 8))]) hx hb dX4_readSunset_18 hl (by decide) rfl (fun ls hl => ?_)
          refine lv_iload hx hb dX4_readSunset_20 (lv_at hl 0 rfl) ?_
          refine lv_bipush (v := iZ (-9)) hx hb dX4_readSunset_22 (by decide) ?_
          refine z_icmp_eq (tgt := 40) hx hb (by omega) (by decide) dX4_readSunset_24 (by decide) (fun c_24 => ?_) (fun c_24 => ?_)
          · skip
            refine lv_iconst (v := iZ 0) hx hb dX4_readSunset_40 rfl ?_
            have hsn : q_sn T n ps = 1 := q_sn_1 (by omega) (by omega)
            exact g_zret (post := fun z M1 => z = (if q_sn T n ps = 3 then 1 else 0) ∧ M1 167 2 = ((ps + q_sn T n ps : Nat) : Int) ∧ q_fx M M1 ∧ (q_sn T n ps = 3 → q_tr M1 8 (q_sun R (q_sv T n ps))) ∧ (∀ j : Nat, j < 12 → 0 ≤ M1 12 j ∧ M1 12 j ≤ 1)) (z := 0) hx hb hr hG hlocks (Or.inl rfl) (⟨by rw [hsn, if_neg (by decide)], by rw [hsn]; have e9 := h2_M5; omega, hfx_M5, fun h9 => by omega, fun j hj => tr_bo hR__M5 hj⟩) dX4_readSunset_41
          · skip
            refine lv_iload_n hx hb dX4_readSunset_27 rfl (lv_at hl 3 rfl) ?_
            refine lv_iload hx hb dX4_readSunset_28 (lv_at hl 0 rfl) ?_
            refine lv_iload_n hx hb dX4_readSunset_30 rfl (lv_at hl 2 rfl) ?_
            refine z_imul (z := (10 * (q_dgt T n (ps + 1)))) hx hb (by omega) dX4_readSunset_31 ?_
            refine z_iadd (z := (100 * (q_dgt T n ps) + 10 * (q_dgt T n (ps + 1)))) hx hb (by omega) dX4_readSunset_32 ?_
            refine lv_iload_n hx hb dX4_readSunset_33 rfl (lv_at hl 2 rfl) ?_
            refine g_callS (As := [.int (iZ (100 * (q_dgt T n ps) + 10 * (q_dgt T n (ps + 1)))), .int (iZ 10)]) (rest := []) ⟨hx, hb, hml, hown, hts⟩ (c_X4_beginsSunset l G M5 (100 * (q_dgt T n ps) + 10 * (q_dgt T n (ps + 1))) 10 (by omega) (by omega)) (va_cwS 2 hts gX4_readSunset_X4_beginsSunset rfl rfl rfl (by decide +kernel) ⟨Nat.le_of_ble_eq_true rfl, Nat.le_of_ble_eq_true rfl⟩) hG rfl hl.1 rfl (Nat.le_of_ble_eq_true rfl) dX4_readSunset_34 ⟨Nat.zero_le _, Nat.zero_le _⟩ (fun z8 M9 H locs hp_34 hG => ?_)
            obtain ⟨hz_34, hM_34⟩ := hp_34; replace hz_34 := hz_34.symm; subst hz_34; replace hM_34 := hM_34.symm; subst hM_34
            refine z_ifP_ne (tgt := 42) hx hb dX4_readSunset_37 (by decide) (fun c_37 => ?_) (fun c_37 => ?_)
            · skip
              refine lv_iload_n hx hb dX4_readSunset_42 rfl (lv_at hl 3 rfl) ?_
              refine lv_iload hx hb dX4_readSunset_43 (lv_at hl 0 rfl) ?_
              refine lv_iload_n hx hb dX4_readSunset_45 rfl (lv_at hl 2 rfl) ?_
              refine z_imul (z := (10 * (q_dgt T n (ps + 1)))) hx hb (by omega) dX4_readSunset_46 ?_
              refine z_iadd (z := (100 * (q_dgt T n ps) + 10 * (q_dgt T n (ps + 1)))) hx hb (by omega) dX4_readSunset_47 ?_
              refine lv_istore_n (lv' := [(2, .int (iZ (100 * (q_dgt T n ps) + 10 * (q_dgt T n (ps + 1))))), (5, .int (iZ (q_dgt T n (ps + 1)))), (4, .int (iZ 1)), (3, .int (iZ 10)), (0, .ref (gad G 167)), (1, .ref (gad G 8))]) hx hb dX4_readSunset_48 rfl hl (by decide) rfl (fun ls hl => ?_)
              refine lv_iload_n hx hb dX4_readSunset_49 rfl (lv_at hl 3 rfl) ?_
              refine lv_bipush (v := iZ (10)) hx hb dX4_readSunset_50 (by decide) ?_
              refine z_idiv (z := 1) hx hb (by omega) (by omega) rfl dX4_readSunset_52 ?_
              refine lv_istore_n (lv' := [(3, .int (iZ 1)), (2, .int (iZ (100 * (q_dgt T n ps) + 10 * (q_dgt T n (ps + 1))))), (5, .int (iZ (q_dgt T n (ps + 1)))), (4, .int (iZ 1)), (0, .ref (gad G 167)), (1, .ref (gad G 8))]) hx hb dX4_readSunset_53 rfl hl (by decide) rfl (fun ls hl => ?_)
              refine lv_aload_n hx hb dX4_readSunset_54 rfl (lv_at hl 4 rfl) ?_
              refine lv_dup hx hb dX4_readSunset_55 rfl ?_
              refine g_geti (z := ((ps : Int) + 1)) hx hb hts hinX4 hown hG (o := 167) (hdm 167 (by decide)) rfl rfl 2 (by decide) f24 (fun _ h => h) rfl (by rw [h2_M5] <;> omega) dX4_readSunset_56 ?_
              refine lv_iconst (v := iZ 1) hx hb dX4_readSunset_59 rfl ?_
              refine z_iadd (z := ((ps : Int) + 2)) hx hb (by omega) dX4_readSunset_60 ?_
              refine g_put (F := (oS G)) hx hb hts hinX4 tyX4 tyX4_ok nmX4 hown hG (o := 167) (hdm 167 (by decide)) (fun f => rfl) rfl 2 (by decide) f24 (fun _ h => h) rfl rfl (fun _ => Nat.lt_of_lt_of_le (by decide) (Nat.le_refl 3)) (fun _ => rfl) dX4_readSunset_61 (fun H locs hG => ?_)
              obtain ⟨M10, hM10⟩ : ∃ X, X = (q_wr M5 167 2 ((ps : Int) + 2)) := ⟨_, rfl⟩
              rw [← hM10] at hG
              have hR__M10 : q_tr M10 8 R := by rw [hM10]; exact tr_wr hR__M5 (by omega)
              have h2_M10 : M10 167 2 = (((ps + 2) : Nat) : Int) := by rw [hM10, wr_eq]; omega
              have hfx_M10 : q_fx M M10 := by rw [hM10]; exact q_fx.wr hfx_M5
              refine z_iinc (z := 2) (lv' := [(4, .int (iZ 2)), (3, .int (iZ 1)), (2, .int (iZ (100 * (q_dgt T n ps) + 10 * (q_dgt T n (ps + 1))))), (5, .int (iZ (q_dgt T n (ps + 1)))), (0, .ref (gad G 167)), (1, .ref (gad G 8))]) hx hb dX4_readSunset_64 hl (k := 3) rfl (by omega) (by decide) rfl (fun ls hl => ?_)
              refine lv_goto (tgt := 8) hx hb dX4_readSunset_67 (by decide) ?_
              refine lv_iload hx hb dX4_readSunset_8 (lv_at hl 0 rfl) ?_
              refine lv_iconst (v := iZ 3) hx hb dX4_readSunset_10 rfl ?_
              refine z_icmp_ge (tgt := 70) hx hb (by decide) (by decide) dX4_readSunset_11 (by decide) (fun c_11 => ?_) (fun c_11 => ?_)
              · exfalso; omega
              · skip
                refine lv_aload_n hx hb dX4_readSunset_14 rfl (lv_at hl 4 rfl) ?_
                refine g_callV (b := 167) (As := []) (rest := []) ⟨hx, hb, hml, hown, hts⟩ (c_X4_digit l G M10 hdm T n (ps + 2) hn (by omega) ((hfx_M10.1 168 (by decide) (by decide)).trans hTx) ((hfx_M10.2 1 (by decide)).trans h1) h2_M10 hch) (cwV 0 hts gX4_readSunset_X4_digit rfl rfl rfl (by decide +kernel) ⟨Nat.le_of_ble_eq_true rfl, Nat.le_of_ble_eq_true rfl⟩) hG (g_recv hG (b := 167) (hdm 167 (by decide)) rfl rfl) rfl hl.1 rfl (Nat.le_of_ble_eq_true rfl) dX4_readSunset_15 ⟨Nat.zero_le _, Nat.zero_le _⟩ (fun z11 M12 H locs hp_15 hG => ?_)
                obtain ⟨hz_15, hM_15⟩ := hp_15; replace hz_15 := hz_15.symm; subst hz_15; replace hM_15 := hM_15.symm; subst hM_15
                have hdg_15 := q_dgt_in T n (ps + 2)
                refine lv_istore (lv' := [(5, .int (iZ (q_dgt T n (ps + 2)))), (4, .int (iZ 2)), (3, .int (iZ 1)), (2, .int (iZ (100 * (q_dgt T n ps) + 10 * (q_dgt T n (ps + 1))))), (0, .ref (gad G 167)), (1, .ref (gad G 8))]) hx hb dX4_readSunset_18 hl (by decide) rfl (fun ls hl => ?_)
                refine lv_iload hx hb dX4_readSunset_20 (lv_at hl 0 rfl) ?_
                refine lv_bipush (v := iZ (-9)) hx hb dX4_readSunset_22 (by decide) ?_
                refine z_icmp_eq (tgt := 40) hx hb (by omega) (by decide) dX4_readSunset_24 (by decide) (fun c_24 => ?_) (fun c_24 => ?_)
                · skip
                  refine lv_iconst (v := iZ 0) hx hb dX4_readSunset_40 rfl ?_
                  have hsn : q_sn T n ps = 2 := q_sn_2 (by omega) (by omega) (by omega)
                  exact g_zret (post := fun z M1 => z = (if q_sn T n ps = 3 then 1 else 0) ∧ M1 167 2 = ((ps + q_sn T n ps : Nat) : Int) ∧ q_fx M M1 ∧ (q_sn T n ps = 3 → q_tr M1 8 (q_sun R (q_sv T n ps))) ∧ (∀ j : Nat, j < 12 → 0 ≤ M1 12 j ∧ M1 12 j ≤ 1)) (z := 0) hx hb hr hG hlocks (Or.inl rfl) (⟨by rw [hsn, if_neg (by decide)], by rw [hsn]; have e9 := h2_M10; omega, hfx_M10, fun h9 => by omega, fun j hj => tr_bo hR__M10 hj⟩) dX4_readSunset_41
                · skip
                  refine lv_iload_n hx hb dX4_readSunset_27 rfl (lv_at hl 3 rfl) ?_
                  refine lv_iload hx hb dX4_readSunset_28 (lv_at hl 0 rfl) ?_
                  refine lv_iload_n hx hb dX4_readSunset_30 rfl (lv_at hl 2 rfl) ?_
                  refine z_imul (z := (q_dgt T n (ps + 2))) hx hb (by omega) dX4_readSunset_31 ?_
                  refine z_iadd (z := (100 * (q_dgt T n ps) + 10 * (q_dgt T n (ps + 1)) + (q_dgt T n (ps + 2)))) hx hb (by omega) dX4_readSunset_32 ?_
                  refine lv_iload_n hx hb dX4_readSunset_33 rfl (lv_at hl 2 rfl) ?_
                  refine g_callS (As := [.int (iZ (100 * (q_dgt T n ps) + 10 * (q_dgt T n (ps + 1)) + (q_dgt T n (ps + 2)))), .int (iZ 1)]) (rest := []) ⟨hx, hb, hml, hown, hts⟩ (c_X4_beginsSunset l G M10 (100 * (q_dgt T n ps) + 10 * (q_dgt T n (ps + 1)) + (q_dgt T n (ps + 2))) 1 (by omega) (by omega)) (va_cwS 2 hts gX4_readSunset_X4_beginsSunset rfl rfl rfl (by decide +kernel) ⟨Nat.le_of_ble_eq_true rfl, Nat.le_of_ble_eq_true rfl⟩) hG rfl hl.1 rfl (Nat.le_of_ble_eq_true rfl) dX4_readSunset_34 ⟨Nat.zero_le _, Nat.zero_le _⟩ (fun z13 M14 H locs hp_34 hG => ?_)
                  obtain ⟨hz_34, hM_34⟩ := hp_34; replace hz_34 := hz_34.symm; subst hz_34; replace hM_34 := hM_34.symm; subst hM_34
                  refine z_ifP_ne (tgt := 42) hx hb dX4_readSunset_37 (by decide) (fun c_37 => ?_) (fun c_37 => ?_)
                  · skip
                    refine lv_iload_n hx hb dX4_readSunset_42 rfl (lv_at hl 3 rfl) ?_
                    refine lv_iload hx hb dX4_readSunset_43 (lv_at hl 0 rfl) ?_
                    refine lv_iload_n hx hb dX4_readSunset_45 rfl (lv_at hl 2 rfl) ?_
                    refine z_imul (z := (q_dgt T n (ps + 2))) hx hb (by omega) dX4_readSunset_46 ?_
                    refine z_iadd (z := (100 * (q_dgt T n ps) + 10 * (q_dgt T n (ps + 1)) + (q_dgt T n (ps + 2)))) hx hb (by omega) dX4_readSunset_47 ?_
                    refine lv_istore_n (lv' := [(2, .int (iZ (100 * (q_dgt T n ps) + 10 * (q_dgt T n (ps + 1)) + (q_dgt T n (ps + 2))))), (5, .int (iZ (q_dgt T n (ps + 2)))), (4, .int (iZ 2)), (3, .int (iZ 1)), (0, .ref (gad G 167)), (1, .ref (gad G 8))]) hx hb dX4_readSunset_48 rfl hl (by decide) rfl (fun ls hl => ?_)
                    refine lv_iload_n hx hb dX4_readSunset_49 rfl (lv_at hl 3 rfl) ?_
                    refine lv_bipush (v := iZ (10)) hx hb dX4_readSunset_50 (by decide) ?_
                    refine z_idiv (z := 0) hx hb (by omega) (by omega) rfl dX4_readSunset_52 ?_
                    refine lv_istore_n (lv' := [(3, .int (iZ 0)), (2, .int (iZ (100 * (q_dgt T n ps) + 10 * (q_dgt T n (ps + 1)) + (q_dgt T n (ps + 2))))), (5, .int (iZ (q_dgt T n (ps + 2)))), (4, .int (iZ 2)), (0, .ref (gad G 167)), (1, .ref (gad G 8))]) hx hb dX4_readSunset_53 rfl hl (by decide) rfl (fun ls hl => ?_)
                    refine lv_aload_n hx hb dX4_readSunset_54 rfl (lv_at hl 4 rfl) ?_
                    refine lv_dup hx hb dX4_readSunset_55 rfl ?_
                    refine g_geti (z := ((ps : Int) + 2)) hx hb hts hinX4 hown hG (o := 167) (hdm 167 (by decide)) rfl rfl 2 (by decide) f24 (fun _ h => h) rfl (by rw [h2_M10] <;> omega) dX4_readSunset_56 ?_
                    refine lv_iconst (v := iZ 1) hx hb dX4_readSunset_59 rfl ?_
                    refine z_iadd (z := ((ps : Int) + 3)) hx hb (by omega) dX4_readSunset_60 ?_
                    refine g_put (F := (oS G)) hx hb hts hinX4 tyX4 tyX4_ok nmX4 hown hG (o := 167) (hdm 167 (by decide)) (fun f => rfl) rfl 2 (by decide) f24 (fun _ h => h) rfl rfl (fun _ => Nat.lt_of_lt_of_le (by decide) (Nat.le_refl 3)) (fun _ => rfl) dX4_readSunset_61 (fun H locs hG => ?_)
                    obtain ⟨M15, hM15⟩ : ∃ X, X = (q_wr M10 167 2 ((ps : Int) + 3)) := ⟨_, rfl⟩
                    rw [← hM15] at hG
                    have hR__M15 : q_tr M15 8 R := by rw [hM15]; exact tr_wr hR__M10 (by omega)
                    have h2_M15 : M15 167 2 = (((ps + 3) : Nat) : Int) := by rw [hM15, wr_eq]; omega
                    have hfx_M15 : q_fx M M15 := by rw [hM15]; exact q_fx.wr hfx_M10
                    refine z_iinc (z := 3) (lv' := [(4, .int (iZ 3)), (3, .int (iZ 0)), (2, .int (iZ (100 * (q_dgt T n ps) + 10 * (q_dgt T n (ps + 1)) + (q_dgt T n (ps + 2))))), (5, .int (iZ (q_dgt T n (ps + 2)))), (0, .ref (gad G 167)), (1, .ref (gad G 8))]) hx hb dX4_readSunset_64 hl (k := 3) rfl (by omega) (by decide) rfl (fun ls hl => ?_)
                    refine lv_goto (tgt := 8) hx hb dX4_readSunset_67 (by decide) ?_
                    refine lv_iload hx hb dX4_readSunset_8 (lv_at hl 0 rfl) ?_
                    refine lv_iconst (v := iZ 3) hx hb dX4_readSunset_10 rfl ?_
                    refine z_icmp_ge (tgt := 70) hx hb (by decide) (by decide) dX4_readSunset_11 (by decide) (fun c_11 => ?_) (fun c_11 => ?_)
                    · skip
                      refine lv_aload_n hx hb dX4_readSunset_70 rfl (lv_at hl 5 rfl) ?_
                      refine lv_iload_n hx hb dX4_readSunset_71 rfl (lv_at hl 2 rfl) ?_
                      refine g_put (F := (fun f => oT G f 8)) hx hb hts hinX3 tyX3 tyX3_ok nmX3 hown hG (o := 8) (hdm 8 (by decide)) (fun f => gE_T ⟨by decide, by decide⟩ G f) rfl 10 (by decide) f52 (fun _ h => h) rfl rfl (fun _ => Nat.lt_of_lt_of_le (by decide) (Nat.le_refl 15)) (fun _ => rfl) dX4_readSunset_72 (fun H locs hG => ?_)
                      obtain ⟨M16, hM16⟩ : ∃ X, X = (q_wr M15 8 10 (100 * (q_dgt T n ps) + 10 * (q_dgt T n (ps + 1)) + (q_dgt T n (ps + 2)))) := ⟨_, rfl⟩
                      rw [← hM16] at hG
                      have htv : q_tr M16 8 (q_sun R (q_sv T n ps)) := by rw [hM16, show q_sv T n ps = (100 * (q_dgt T n ps) + 10 * (q_dgt T n (ps + 1)) + (q_dgt T n (ps + 2))) from by unfold q_sv; omega]; exact q_tr_sun hR__M15
                      have h2_9 : M16 167 2 = ((ps + 3 : Nat) : Int) := by rw [hM16, wr_off _ _ _ (by decide)]; exact h2_M15
                      have hfx_9 : q_fx M M16 := by rw [hM16]; exact q_fx.wt hfx_M15 (by decide)
                      refine lv_iconst (v := iZ 1) hx hb dX4_readSunset_75 rfl ?_
                      have hsn : q_sn T n ps = 3 := q_sn_3 (by omega) (by omega) (by omega)
                      exact g_zret (post := fun z M1 => z = (if q_sn T n ps = 3 then 1 else 0) ∧ M1 167 2 = ((ps + q_sn T n ps : Nat) : Int) ∧ q_fx M M1 ∧ (q_sn T n ps = 3 → q_tr M1 8 (q_sun R (q_sv T n ps))) ∧ (∀ j : Nat, j < 12 → 0 ≤ M1 12 j ∧ M1 12 j ≤ 1)) (z := 1) hx hb hr hG hlocks (Or.inr rfl) (⟨by rw [hsn, if_pos rfl], by rw [hsn]; exact h2_9, hfx_9, fun _ => htv, fun j hj => tr_bo htv hj⟩) dX4_readSunset_76
                    · exfalso; omega
                  · skip
                    refine lv_iconst (v := iZ 0) hx hb dX4_readSunset_40 rfl ?_
                    have hsn : q_sn T n ps = 2 := q_sn_2 (by omega) (by omega) (by omega)
                    exact g_zret (post := fun z M1 => z = (if q_sn T n ps = 3 then 1 else 0) ∧ M1 167 2 = ((ps + q_sn T n ps : Nat) : Int) ∧ q_fx M M1 ∧ (q_sn T n ps = 3 → q_tr M1 8 (q_sun R (q_sv T n ps))) ∧ (∀ j : Nat, j < 12 → 0 ≤ M1 12 j ∧ M1 12 j ≤ 1)) (z := 0) hx hb hr hG hlocks (Or.inl rfl) (⟨by rw [hsn, if_neg (by decide)], by rw [hsn]; have e9 := h2_M10; omega, hfx_M10, fun h9 => by omega, fun j hj => tr_bo hR__M10 hj⟩) dX4_readSunset_41
            · skip
              refine lv_iconst (v := iZ 0) hx hb dX4_readSunset_40 rfl ?_
              have hsn : q_sn T n ps = 1 := q_sn_1 (by omega) (by omega)
              exact g_zret (post := fun z M1 => z = (if q_sn T n ps = 3 then 1 else 0) ∧ M1 167 2 = ((ps + q_sn T n ps : Nat) : Int) ∧ q_fx M M1 ∧ (q_sn T n ps = 3 → q_tr M1 8 (q_sun R (q_sv T n ps))) ∧ (∀ j : Nat, j < 12 → 0 ≤ M1 12 j ∧ M1 12 j ≤ 1)) (z := 0) hx hb hr hG hlocks (Or.inl rfl) (⟨by rw [hsn, if_neg (by decide)], by rw [hsn]; have e9 := h2_M5; omega, hfx_M5, fun h9 => by omega, fun j hj => tr_bo hR__M5 hj⟩) dX4_readSunset_41
      · skip
        refine lv_iconst (v := iZ 0) hx hb dX4_readSunset_40 rfl ?_
        have hsn : q_sn T n ps = 0 := q_sn_0 (by omega)
        exact g_zret (post := fun z M1 => z = (if q_sn T n ps = 3 then 1 else 0) ∧ M1 167 2 = ((ps + q_sn T n ps : Nat) : Int) ∧ q_fx M M1 ∧ (q_sn T n ps = 3 → q_tr M1 8 (q_sun R (q_sv T n ps))) ∧ (∀ j : Nat, j < 12 → 0 ≤ M1 12 j ∧ M1 12 j ≤ 1)) (z := 0) hx hb hr hG hlocks (Or.inl rfl) (⟨by rw [hsn, if_neg (by decide)], by rw [hsn]; have e9 := h2; omega, (q_fx.rf M), fun h9 => by omega, fun j hj => tr_bo hR hj⟩) dX4_readSunset_41
set_option maxHeartbeats 4000000 in
set_option maxRecDepth 100000 in
theorem c_X4_isFreeDraw (l : Launch) (G : gG) (M : Nat → Nat → Int) (hdm : ∀ k, k < 169 → gdm G k) (R : Nat → Int) (hR : q_tr M 8 R) (hI : q_inv R) (d : Int) (hd : -1000 ≤ d ∧ d ≤ 1000) : gMi l yX4_isFreeDraw wsX4_isFreeDraw ({ frames := 1, cells := 0, slots := 0, locals := 22 } : Room) G M [.ref (gad G 8), .int (iZ d)] (fun z M1 => z = (if q_fre R d = true then 1 else 0) ∧ M1 = M) := by
  refine gMi_of (cc := cX4_isFreeDraw) (maxL := 2) (ret := some .boolean) (by decide) rfl (Nat.le_of_ble_eq_true rfl) ?_
  intro p e s m below meth c ls hx hb hr hml hown hts hlocks hl hG
  have hown : s.vm.findClass RX4 = some m.cls := hown
  have hl : lv_has ls 2 [(0, .ref (gad G 8)), (1, .int (iZ d))] := hl
  refine lv_iload_n hx hb dX4_isFreeDraw_0 rfl (lv_at hl 1 rfl) ?_
  refine g_callSN (As := [.int (iZ d)]) (rest := []) ⟨hx, hb, hml, hown, hts⟩ (c_X5_isDraw l G M d (by omega)) ⟨va_cnB 1 hts gX4_isFreeDraw_X5_isDraw_n70 rfl rfl rfl hG.2.1.2.2.2.2.2.2.2.2.2.2.2.2.2.1 (hts (.initialized RX5) (by decide +kernel)) (by decide +kernel) ⟨Nat.le_of_ble_eq_true rfl, Nat.le_of_ble_eq_true rfl⟩, hts (.static yX5_isDraw) (by decide +kernel), trivial⟩ hG rfl hl.1 rfl (Nat.le_of_ble_eq_true rfl) dX4_isFreeDraw_1 ⟨Nat.zero_le _, Nat.zero_le _⟩ (fun z1 M2 H locs hp_1 hG => ?_)
  obtain ⟨hz_1, hM_1⟩ := hp_1; replace hz_1 := hz_1.symm; subst hz_1; replace hM_1 := hM_1.symm; subst hM_1
  refine z_ifP_eq (tgt := 21) hx hb dX4_isFreeDraw_4 (by decide) (fun c_4 => ?_) (fun c_4 => ?_)
  · skip
    refine lv_iconst (v := iZ 0) hx hb dX4_isFreeDraw_21 rfl ?_
    exact g_zret (post := fun z M1 => z = (if q_fre R d = true then 1 else 0) ∧ M1 = M) (z := 0) hx hb hr hG hlocks (Or.inl rfl) (⟨by first | (rw [if_neg (q_fre_out (by omega))]; done) | (rcases hz_9 with ⟨h9, h8⟩ | ⟨i9, h9, h8, h7⟩ <;> first | (rw [if_pos (q_fre_yes (by omega) h8)]; done) | (rw [if_neg (q_fre_no h9 h7)]; done) | (exfalso; omega)), rfl⟩) dX4_isFreeDraw_22
  · skip
    refine lv_aload_n hx hb dX4_isFreeDraw_7 rfl (lv_at hl 0 rfl) ?_
    refine lv_iload_n hx hb dX4_isFreeDraw_8 rfl (lv_at hl 1 rfl) ?_
    refine g_callV (b := 8) (As := [.int (iZ d)]) (rest := []) ⟨hx, hb, hml, hown, hts⟩ (c_X3_dogWithDraw l G M hdm 8 ⟨by decide, by decide⟩ R hR hI d (by omega)) (cwV 1 hts gX4_isFreeDraw_X3_dogWithDraw rfl rfl rfl (by decide +kernel) ⟨Nat.le_of_ble_eq_true rfl, Nat.le_of_ble_eq_true rfl⟩) hG (g_recv hG (b := 8) (hdm 8 (by decide)) (gE_T ⟨by decide, by decide⟩ G _) rfl) rfl hl.1 rfl (Nat.le_of_ble_eq_true rfl) dX4_isFreeDraw_9 ⟨Nat.zero_le _, Nat.zero_le _⟩ (fun z3 M4 H locs hp_9 hG => ?_)
    obtain ⟨hz_9, hM_9⟩ := hp_9; replace hM_9 := hM_9.symm; subst hM_9
    have hz9r : -9 ≤ z3 ∧ z3 < 12 := by have hnd := hI.1; rcases hz_9 with ⟨h9, h8⟩ | ⟨i9, h9, h8, h7⟩ <;> omega
    refine lv_bipush (v := iZ (-9)) hx hb dX4_isFreeDraw_12 (by decide) ?_
    refine z_icmp_ne (tgt := 21) hx hb (by omega) (by decide) dX4_isFreeDraw_14 (by decide) (fun c_14 => ?_) (fun c_14 => ?_)
    · skip
      refine lv_iconst (v := iZ 0) hx hb dX4_isFreeDraw_21 rfl ?_
      exact g_zret (post := fun z M1 => z = (if q_fre R d = true then 1 else 0) ∧ M1 = M) (z := 0) hx hb hr hG hlocks (Or.inl rfl) (⟨by first | (rw [if_neg (q_fre_out (by omega))]; done) | (rcases hz_9 with ⟨h9, h8⟩ | ⟨i9, h9, h8, h7⟩ <;> first | (rw [if_pos (q_fre_yes (by omega) h8)]; done) | (rw [if_neg (q_fre_no h9 h7)]; done) | (exfalso; omega)), rfl⟩) dX4_isFreeDraw_22
    · skip
      refine lv_iconst (v := iZ 1) hx hb dX4_isFreeDraw_17 rfl ?_
      refine lv_goto (tgt := 22) hx hb dX4_isFreeDraw_18 (by decide) ?_
      exact g_zret (post := fun z M1 => z = (if q_fre R d = true then 1 else 0) ∧ M1 = M) (z := 1) hx hb hr hG hlocks (Or.inr rfl) (⟨by first | (rw [if_neg (q_fre_out (by omega))]; done) | (rcases hz_9 with ⟨h9, h8⟩ | ⟨i9, h9, h8, h7⟩ <;> first | (rw [if_pos (q_fre_yes (by omega) h8)]; done) | (rw [if_neg (q_fre_no h9 h7)]; done) | (exfalso; omega)), rfl⟩) dX4_isFreeDraw_22
set_option maxHeartbeats 4000000 in
set_option maxRecDepth 100000 in
theorem c_X4_beginsFreeDraw (l : Launch) (G : gG) (M : Nat → Nat → Int) (hdm : ∀ k, k < 169 → gdm G k) (R : Nat → Int) (hR : q_tr M 8 R) (hI : q_inv R) (t : Int) (ht : 0 ≤ t ∧ t ≤ 9) : gMi l yX4_beginsFreeDraw wsX4_beginsFreeDraw ({ frames := 2, cells := 0, slots := 0, locals := 43 } : Room) G M [.ref (gad G 8), .int (iZ t)] (fun z M1 => z = (if q_opn R t = true then 1 else 0) ∧ M1 = M) := by
  refine gMi_of (cc := cX4_beginsFreeDraw) (maxL := 3) (ret := some .boolean) (by decide) rfl (Nat.le_of_ble_eq_true rfl) ?_
  intro p e s m below meth c ls hx hb hr hml hown hts hlocks hl hG
  have hown : s.vm.findClass RX4 = some m.cls := hown
  have hl : lv_has ls 3 [(0, .ref (gad G 8)), (1, .int (iZ t))] := hl
  refine lv_iconst (v := iZ 0) hx hb dX4_beginsFreeDraw_0 rfl ?_
  refine lv_istore_n (lv' := [(2, .int (iZ 0)), (0, .ref (gad G 8)), (1, .int (iZ t))]) hx hb dX4_beginsFreeDraw_1 rfl hl (by decide) rfl (fun ls hl => ?_)
  have L_2 : ∀ (n_2 : Nat) (k : Nat) (x_i : Int), (x_i = (k : Int)) → (k ≤ 10) → ((∀ j, j < k → q_fre R (10 * t + (j : Int)) = false)) → 10 - k < n_2 → ∀ (H : Heap) (locs : List Loc) (ls : Array Slot), gH G M s H locs → lv_has ls 3 [(2, .int (iZ x_i)), (0, .ref (gad G 8)), (1, .int (iZ t))] → W p l e ({ frames := 2, cells := 0, slots := 0, locals := 43 } : Room) s m [.ref (gad G 8), .int (iZ t)].toArray below meth c H locs 0 0 (MQ below (va_Qi (fun r (u : Int × (Nat → Nat → Int)) => r = iZ u.1 ∧ (fun z M1 => z = (if q_opn R t = true then 1 else 0) ∧ M1 = M) u.1 u.2) (fun u U => gB G u.2 U) (gA G)) [.ref (gad G 8), .int (iZ t)].toArray s 0 0 (gA G)) (F0 m 2 ls []) := by
    intro n_2
    induction n_2 with
    | zero => intro k x_i he_x_i hk hno hm_2; exact absurd hm_2 (Nat.not_lt_zero _)
    | succ n_2 ih_2 =>
      intro k x_i he_x_i hk hno hm_2 H locs ls hG hl
      subst he_x_i
      refine lv_iload_n hx hb dX4_beginsFreeDraw_2 rfl (lv_at hl 0 rfl) ?_
      refine lv_bipush (v := iZ (10)) hx hb dX4_beginsFreeDraw_3 (by decide) ?_
      refine z_icmp_ge (tgt := 29) hx hb (by omega) (by decide) dX4_beginsFreeDraw_5 (by decide) (fun c_5 => ?_) (fun c_5 => ?_)
      · skip
        refine lv_iconst (v := iZ 0) hx hb dX4_beginsFreeDraw_29 rfl ?_
        exact g_zret (post := fun z M1 => z = (if q_opn R t = true then 1 else 0) ∧ M1 = M) (z := 0) hx hb hr hG hlocks (Or.inl rfl) (⟨(if_neg (by unfold q_opn; rw [q_any_no (fun j hj => hno j (by omega))]; decide)).symm, rfl⟩) dX4_beginsFreeDraw_30
      · skip
        refine lv_aload_n hx hb dX4_beginsFreeDraw_8 rfl (lv_at hl 1 rfl) ?_
        refine lv_bipush (v := iZ (10)) hx hb dX4_beginsFreeDraw_9 (by decide) ?_
        refine lv_iload_n hx hb dX4_beginsFreeDraw_11 rfl (lv_at hl 2 rfl) ?_
        refine z_imul (z := (10 * t)) hx hb (by omega) dX4_beginsFreeDraw_12 ?_
        refine lv_iload_n hx hb dX4_beginsFreeDraw_13 rfl (lv_at hl 0 rfl) ?_
        refine z_iadd (z := (10 * t + (k : Int))) hx hb (by omega) dX4_beginsFreeDraw_14 ?_
        refine g_callS (As := [.ref (gad G 8), .int (iZ (10 * t + (k : Int)))]) (rest := []) ⟨hx, hb, hml, hown, hts⟩ (c_X4_isFreeDraw l G M hdm R hR hI (10 * t + (k : Int)) (by omega)) (va_cwS 2 hts gX4_beginsFreeDraw_X4_isFreeDraw rfl rfl rfl (by decide +kernel) ⟨Nat.le_of_ble_eq_true rfl, Nat.le_of_ble_eq_true rfl⟩) hG rfl hl.1 rfl (Nat.le_of_ble_eq_true rfl) dX4_beginsFreeDraw_15 ⟨Nat.zero_le _, Nat.zero_le _⟩ (fun z1 M2 H locs hp_15 hG => ?_)
        obtain ⟨hz_15, hM_15⟩ := hp_15; replace hM_15 := hM_15.symm; subst hM_15
        by_cases hc_15 : q_fre R (10 * t + (k : Int)) = true
        · skip
          rw [if_pos hc_15] at hz_15; replace hz_15 := hz_15.symm; subst hz_15
          refine z_if_eq (tgt := 23) hx hb (by decide) dX4_beginsFreeDraw_18 (by decide) (fun c_18 => ?_) (fun c_18 => ?_)
          · exfalso; omega
          · skip
            refine lv_iconst (v := iZ 1) hx hb dX4_beginsFreeDraw_21 rfl ?_
            exact g_zret (post := fun z M1 => z = (if q_opn R t = true then 1 else 0) ∧ M1 = M) (z := 1) hx hb hr hG hlocks (Or.inr rfl) (⟨(if_pos (q_any_yes (P := fun k => q_fre R (10 * t + (k : Int))) (k := k) hc_15 (by omega))).symm, rfl⟩) dX4_beginsFreeDraw_22
        · skip
          rw [if_neg hc_15] at hz_15; replace hz_15 := hz_15.symm; subst hz_15
          refine z_if_eq (tgt := 23) hx hb (by decide) dX4_beginsFreeDraw_18 (by decide) (fun c_18 => ?_) (fun c_18 => ?_)
          · skip
            refine z_iinc (z := ((k : Int) + 1)) (lv' := [(2, .int (iZ ((k : Int) + 1))), (0, .ref (gad G 8)), (1, .int (iZ t))]) hx hb dX4_beginsFreeDraw_23 hl (k := 0) rfl (by omega) (by decide) rfl (fun ls hl => ?_)
            refine lv_goto (tgt := 2) hx hb dX4_beginsFreeDraw_26 (by decide) ?_
            exact ih_2 (k + 1) ((k : Int) + 1)  (by omega) (by omega) (fun j h => by rcases (show j < k ∨ j = k by omega) with h9 | h9; exact hno j h9; (subst h9; exact Bool.eq_false_iff.mpr hc_15)) (by omega) _ _ _ hG (lv_sub hl [0, 1, 2] rfl)
          · exfalso; omega
  exact L_2 _ 0 0  rfl (by omega) (fun j h => absurd h (Nat.not_lt_zero _)) (Nat.lt_succ_self _) _ _ _ hG (lv_sub hl [0, 1, 2] rfl)
set_option maxHeartbeats 4000000 in
set_option maxRecDepth 100000 in
theorem c_X4_readDog (l : Launch) (G : gG) (M : Nat → Nat → Int) (hdm : ∀ k, k < 169 → gdm G k) (T : Nat → Int) (n ps : Nat) (hn : n ≤ 70) (hs : ps ≤ n) (hTx : M 168 = T) (h1 : M 167 1 = (n : Int)) (h2 : M 167 2 = (ps : Int)) (hch : ∀ j, j < n → 0 ≤ T j ∧ T j ≤ 255) (R : Nat → Int) (hR : q_tr M 8 R) (hI : q_inv R) (hnd : q_nd R < 12) : gMi l yX4_readDog wsX4_readDog ({ frames := 3, cells := 0, slots := 0, locals := 65 } : Room) G M [.ref (gad G 167), .ref (gad G 8)] (fun z M1 => z = (if q_dg T n ps R = 3 then 1 else 0) ∧ M1 167 2 = ((ps + q_dg T n ps R : Nat) : Int) ∧ q_fx M M1 ∧ (q_dg T n ps R = 3 → q_tr M1 8 (q_dgp T n ps R)) ∧ (∀ j : Nat, j < 12 → 0 ≤ M1 12 j ∧ M1 12 j ≤ 1)) := by
  refine gMi_of (cc := cX4_readDog) (maxL := 5) (ret := some .boolean) (by decide) rfl (Nat.le_of_ble_eq_true rfl) ?_
  intro p e s m below meth c ls hx hb hr hml hown hts hlocks hl hG
  have hown : s.vm.findClass RX4 = some m.cls := hown
  have hl : lv_has ls 5 [(0, .ref (gad G 167)), (1, .ref (gad G 8))] := hl
  have hinX4 : ∀ w ∈ u_ws RX4 TX4 3, w ∈ wsX4_readDog := by decide +kernel
  have f24 := hts (.fieldLink RX4 24 "DogTrials$TrialText" "at" "I") (by decide +kernel)
  have hnd0 := hI.1
  refine lv_aload_n hx hb dX4_readDog_0 rfl (lv_at hl 0 rfl) ?_
  refine g_callV (b := 167) (As := []) (rest := []) ⟨hx, hb, hml, hown, hts⟩ (c_X4_digit l G M hdm T n ps hn (by omega) hTx h1 h2 hch) (cwV 0 hts gX4_readDog_X4_digit rfl rfl rfl (by decide +kernel) ⟨Nat.le_of_ble_eq_true rfl, Nat.le_of_ble_eq_true rfl⟩) hG (g_recv hG (b := 167) (hdm 167 (by decide)) rfl rfl) rfl hl.1 rfl (Nat.le_of_ble_eq_true rfl) dX4_readDog_1 ⟨Nat.zero_le _, Nat.zero_le _⟩ (fun z1 M2 H locs hp_1 hG => ?_)
  obtain ⟨hz_1, hM_1⟩ := hp_1; replace hz_1 := hz_1.symm; subst hz_1; replace hM_1 := hM_1.symm; subst hM_1
  have hdg_1 := q_dgt_in T n ps
  refine lv_istore_n (lv' := [(2, .int (iZ (q_dgt T n ps))), (0, .ref (gad G 167)), (1, .ref (gad G 8))]) hx hb dX4_readDog_4 rfl hl (by decide) rfl (fun ls hl => ?_)
  refine lv_iload_n hx hb dX4_readDog_5 rfl (lv_at hl 0 rfl) ?_
  refine lv_bipush (v := iZ (-9)) hx hb dX4_readDog_6 (by decide) ?_
  refine z_icmp_eq (tgt := 18) hx hb (by omega) (by decide) dX4_readDog_8 (by decide) (fun c_8 => ?_) (fun c_8 => ?_)
  · skip
    refine lv_iconst (v := iZ 0) hx hb dX4_readDog_18 rfl ?_
    have hdg : q_dg T n ps R = 0 := q_dg_0 (by omega)
    exact g_zret (post := fun z M1 => z = (if q_dg T n ps R = 3 then 1 else 0) ∧ M1 167 2 = ((ps + q_dg T n ps R : Nat) : Int) ∧ q_fx M M1 ∧ (q_dg T n ps R = 3 → q_tr M1 8 (q_dgp T n ps R)) ∧ (∀ j : Nat, j < 12 → 0 ≤ M1 12 j ∧ M1 12 j ≤ 1)) (z := 0) hx hb hr hG hlocks (Or.inl rfl) (⟨by rw [hdg, if_neg (by decide)], by rw [hdg]; have e9 := h2; omega, (q_fx.rf M), fun h9 => by omega, fun j hj => tr_bo hR hj⟩) dX4_readDog_19
  · skip
    refine lv_iload_n hx hb dX4_readDog_11 rfl (lv_at hl 0 rfl) ?_
    refine g_callSN (As := [.int (iZ (q_dgt T n ps))]) (rest := []) ⟨hx, hb, hml, hown, hts⟩ (c_X5_isOwner l G M (q_dgt T n ps) (by omega)) ⟨va_cnB 1 hts gX4_readDog_X5_isOwner_n55 rfl rfl rfl hG.2.1.2.2.2.2.2.2.2.2.2.2.2.2.1 (hts (.initialized RX5) (by decide +kernel)) (by decide +kernel) ⟨Nat.le_of_ble_eq_true rfl, Nat.le_of_ble_eq_true rfl⟩, hts (.static yX5_isOwner) (by decide +kernel), trivial⟩ hG rfl hl.1 rfl (Nat.le_of_ble_eq_true rfl) dX4_readDog_12 ⟨Nat.zero_le _, Nat.zero_le _⟩ (fun z3 M4 H locs hp_12 hG => ?_)
    obtain ⟨hz_12, hM_12⟩ := hp_12; replace hz_12 := hz_12.symm; subst hz_12; replace hM_12 := hM_12.symm; subst hM_12
    refine z_ifP_ne (tgt := 20) hx hb dX4_readDog_15 (by decide) (fun c_15 => ?_) (fun c_15 => ?_)
    · skip
      refine lv_aload_n hx hb dX4_readDog_20 rfl (lv_at hl 1 rfl) ?_
      refine lv_dup hx hb dX4_readDog_21 rfl ?_
      refine g_geti (z := (ps : Int)) hx hb hts hinX4 hown hG (o := 167) (hdm 167 (by decide)) rfl rfl 2 (by decide) f24 (fun _ h => h) rfl (by rw [h2] <;> omega) dX4_readDog_22 ?_
      refine lv_iconst (v := iZ 1) hx hb dX4_readDog_25 rfl ?_
      refine z_iadd (z := ((ps : Int) + 1)) hx hb (by omega) dX4_readDog_26 ?_
      refine g_put (F := (oS G)) hx hb hts hinX4 tyX4 tyX4_ok nmX4 hown hG (o := 167) (hdm 167 (by decide)) (fun f => rfl) rfl 2 (by decide) f24 (fun _ h => h) rfl rfl (fun _ => Nat.lt_of_lt_of_le (by decide) (Nat.le_refl 3)) (fun _ => rfl) dX4_readDog_27 (fun H locs hG => ?_)
      obtain ⟨M5, hM5⟩ : ∃ X, X = (q_wr M 167 2 ((ps : Int) + 1)) := ⟨_, rfl⟩
      rw [← hM5] at hG
      have hR__M5 : q_tr M5 8 R := by rw [hM5]; exact tr_wr hR (by omega)
      have h2_M5 : M5 167 2 = (((ps + 1) : Nat) : Int) := by rw [hM5, wr_eq]; omega
      have hfx_M5 : q_fx M M5 := by rw [hM5]; exact q_fx.wr (q_fx.rf M)
      refine lv_aload_n hx hb dX4_readDog_30 rfl (lv_at hl 1 rfl) ?_
      refine g_callV (b := 167) (As := []) (rest := []) ⟨hx, hb, hml, hown, hts⟩ (c_X4_digit l G M5 hdm T n (ps + 1) hn (by omega) ((hfx_M5.1 168 (by decide) (by decide)).trans hTx) ((hfx_M5.2 1 (by decide)).trans h1) h2_M5 hch) (cwV 0 hts gX4_readDog_X4_digit rfl rfl rfl (by decide +kernel) ⟨Nat.le_of_ble_eq_true rfl, Nat.le_of_ble_eq_true rfl⟩) hG (g_recv hG (b := 167) (hdm 167 (by decide)) rfl rfl) rfl hl.1 rfl (Nat.le_of_ble_eq_true rfl) dX4_readDog_31 ⟨Nat.zero_le _, Nat.zero_le _⟩ (fun z6 M7 H locs hp_31 hG => ?_)
      obtain ⟨hz_31, hM_31⟩ := hp_31; replace hz_31 := hz_31.symm; subst hz_31; replace hM_31 := hM_31.symm; subst hM_31
      have hdg_31 := q_dgt_in T n (ps + 1)
      refine lv_istore_n (lv' := [(3, .int (iZ (q_dgt T n (ps + 1)))), (2, .int (iZ (q_dgt T n ps))), (0, .ref (gad G 167)), (1, .ref (gad G 8))]) hx hb dX4_readDog_34 rfl hl (by decide) rfl (fun ls hl => ?_)
      refine lv_iload_n hx hb dX4_readDog_35 rfl (lv_at hl 0 rfl) ?_
      refine lv_bipush (v := iZ (-9)) hx hb dX4_readDog_36 (by decide) ?_
      refine z_icmp_eq (tgt := 49) hx hb (by omega) (by decide) dX4_readDog_38 (by decide) (fun c_38 => ?_) (fun c_38 => ?_)
      · skip
        refine lv_iconst (v := iZ 0) hx hb dX4_readDog_49 rfl ?_
        have hdg : q_dg T n ps R = 1 := q_dg_1 (by omega) (fun h9 => by first | exact hc_43 h9.2 | omega)
        exact g_zret (post := fun z M1 => z = (if q_dg T n ps R = 3 then 1 else 0) ∧ M1 167 2 = ((ps + q_dg T n ps R : Nat) : Int) ∧ q_fx M M1 ∧ (q_dg T n ps R = 3 → q_tr M1 8 (q_dgp T n ps R)) ∧ (∀ j : Nat, j < 12 → 0 ≤ M1 12 j ∧ M1 12 j ≤ 1)) (z := 0) hx hb hr hG hlocks (Or.inl rfl) (⟨by rw [hdg, if_neg (by decide)], by rw [hdg]; have e9 := h2_M5; omega, hfx_M5, fun h9 => by omega, fun j hj => tr_bo hR__M5 hj⟩) dX4_readDog_50
      · skip
        refine lv_aload_n hx hb dX4_readDog_41 rfl (lv_at hl 3 rfl) ?_
        refine lv_iload_n hx hb dX4_readDog_42 rfl (lv_at hl 0 rfl) ?_
        refine g_callS (As := [.ref (gad G 8), .int (iZ (q_dgt T n (ps + 1)))]) (rest := []) ⟨hx, hb, hml, hown, hts⟩ (c_X4_beginsFreeDraw l G M5 hdm R hR__M5 hI (q_dgt T n (ps + 1)) (by omega)) (va_cwS 2 hts gX4_readDog_X4_beginsFreeDraw rfl rfl rfl (by decide +kernel) ⟨Nat.le_of_ble_eq_true rfl, Nat.le_of_ble_eq_true rfl⟩) hG rfl hl.1 rfl (Nat.le_of_ble_eq_true rfl) dX4_readDog_43 ⟨Nat.zero_le _, Nat.zero_le _⟩ (fun z8 M9 H locs hp_43 hG => ?_)
        obtain ⟨hz_43, hM_43⟩ := hp_43; replace hM_43 := hM_43.symm; subst hM_43
        by_cases hc_43 : q_opn R (q_dgt T n (ps + 1)) = true
        · skip
          rw [if_pos hc_43] at hz_43; replace hz_43 := hz_43.symm; subst hz_43
          refine z_if_ne (tgt := 51) hx hb (by decide) dX4_readDog_46 (by decide) (fun c_46 => ?_) (fun c_46 => ?_)
          · skip
            refine lv_aload_n hx hb dX4_readDog_51 rfl (lv_at hl 2 rfl) ?_
            refine lv_dup hx hb dX4_readDog_52 rfl ?_
            refine g_geti (z := ((ps : Int) + 1)) hx hb hts hinX4 hown hG (o := 167) (hdm 167 (by decide)) rfl rfl 2 (by decide) f24 (fun _ h => h) rfl (by rw [h2_M5] <;> omega) dX4_readDog_53 ?_
            refine lv_iconst (v := iZ 1) hx hb dX4_readDog_56 rfl ?_
            refine z_iadd (z := ((ps : Int) + 2)) hx hb (by omega) dX4_readDog_57 ?_
            refine g_put (F := (oS G)) hx hb hts hinX4 tyX4 tyX4_ok nmX4 hown hG (o := 167) (hdm 167 (by decide)) (fun f => rfl) rfl 2 (by decide) f24 (fun _ h => h) rfl rfl (fun _ => Nat.lt_of_lt_of_le (by decide) (Nat.le_refl 3)) (fun _ => rfl) dX4_readDog_58 (fun H locs hG => ?_)
            obtain ⟨M10, hM10⟩ : ∃ X, X = (q_wr M5 167 2 ((ps : Int) + 2)) := ⟨_, rfl⟩
            rw [← hM10] at hG
            have hR__M10 : q_tr M10 8 R := by rw [hM10]; exact tr_wr hR__M5 (by omega)
            have h2_M10 : M10 167 2 = (((ps + 2) : Nat) : Int) := by rw [hM10, wr_eq]; omega
            have hfx_M10 : q_fx M M10 := by rw [hM10]; exact q_fx.wr hfx_M5
            refine lv_aload_n hx hb dX4_readDog_61 rfl (lv_at hl 2 rfl) ?_
            refine g_callV (b := 167) (As := []) (rest := []) ⟨hx, hb, hml, hown, hts⟩ (c_X4_digit l G M10 hdm T n (ps + 2) hn (by omega) ((hfx_M10.1 168 (by decide) (by decide)).trans hTx) ((hfx_M10.2 1 (by decide)).trans h1) h2_M10 hch) (cwV 0 hts gX4_readDog_X4_digit rfl rfl rfl (by decide +kernel) ⟨Nat.le_of_ble_eq_true rfl, Nat.le_of_ble_eq_true rfl⟩) hG (g_recv hG (b := 167) (hdm 167 (by decide)) rfl rfl) rfl hl.1 rfl (Nat.le_of_ble_eq_true rfl) dX4_readDog_62 ⟨Nat.zero_le _, Nat.zero_le _⟩ (fun z11 M12 H locs hp_62 hG => ?_)
            obtain ⟨hz_62, hM_62⟩ := hp_62; replace hz_62 := hz_62.symm; subst hz_62; replace hM_62 := hM_62.symm; subst hM_62
            have hdg_62 := q_dgt_in T n (ps + 2)
            refine lv_istore (lv' := [(4, .int (iZ (q_dgt T n (ps + 2)))), (3, .int (iZ (q_dgt T n (ps + 1)))), (2, .int (iZ (q_dgt T n ps))), (0, .ref (gad G 167)), (1, .ref (gad G 8))]) hx hb dX4_readDog_65 hl (by decide) rfl (fun ls hl => ?_)
            refine lv_iload hx hb dX4_readDog_67 (lv_at hl 0 rfl) ?_
            refine lv_bipush (v := iZ (-9)) hx hb dX4_readDog_69 (by decide) ?_
            refine z_icmp_eq (tgt := 88) hx hb (by omega) (by decide) dX4_readDog_71 (by decide) (fun c_71 => ?_) (fun c_71 => ?_)
            · skip
              refine lv_iconst (v := iZ 0) hx hb dX4_readDog_88 rfl ?_
              have hdg : q_dg T n ps R = 2 := q_dg_2 (by omega) ⟨by omega, hc_43⟩ (fun h9 => by first | exact hc_82 h9.2 | omega)
              exact g_zret (post := fun z M1 => z = (if q_dg T n ps R = 3 then 1 else 0) ∧ M1 167 2 = ((ps + q_dg T n ps R : Nat) : Int) ∧ q_fx M M1 ∧ (q_dg T n ps R = 3 → q_tr M1 8 (q_dgp T n ps R)) ∧ (∀ j : Nat, j < 12 → 0 ≤ M1 12 j ∧ M1 12 j ≤ 1)) (z := 0) hx hb hr hG hlocks (Or.inl rfl) (⟨by rw [hdg, if_neg (by decide)], by rw [hdg]; have e9 := h2_M10; omega, hfx_M10, fun h9 => by omega, fun j hj => tr_bo hR__M10 hj⟩) dX4_readDog_89
            · skip
              refine lv_aload_n hx hb dX4_readDog_74 rfl (lv_at hl 4 rfl) ?_
              refine lv_bipush (v := iZ (10)) hx hb dX4_readDog_75 (by decide) ?_
              refine lv_iload_n hx hb dX4_readDog_77 rfl (lv_at hl 1 rfl) ?_
              refine z_imul (z := (10 * (q_dgt T n (ps + 1)))) hx hb (by omega) dX4_readDog_78 ?_
              refine lv_iload hx hb dX4_readDog_79 (lv_at hl 0 rfl) ?_
              refine z_iadd (z := (10 * (q_dgt T n (ps + 1)) + (q_dgt T n (ps + 2)))) hx hb (by omega) dX4_readDog_81 ?_
              refine g_callS (As := [.ref (gad G 8), .int (iZ (10 * (q_dgt T n (ps + 1)) + (q_dgt T n (ps + 2))))]) (rest := []) ⟨hx, hb, hml, hown, hts⟩ (c_X4_isFreeDraw l G M10 hdm R hR__M10 hI (10 * (q_dgt T n (ps + 1)) + (q_dgt T n (ps + 2))) (by omega)) (va_cwS 2 hts gX4_readDog_X4_isFreeDraw rfl rfl rfl (by decide +kernel) ⟨Nat.le_of_ble_eq_true rfl, Nat.le_of_ble_eq_true rfl⟩) hG rfl hl.1 rfl (Nat.le_of_ble_eq_true rfl) dX4_readDog_82 ⟨Nat.zero_le _, Nat.zero_le _⟩ (fun z13 M14 H locs hp_82 hG => ?_)
              obtain ⟨hz_82, hM_82⟩ := hp_82; replace hM_82 := hM_82.symm; subst hM_82
              by_cases hc_82 : q_fre R (10 * (q_dgt T n (ps + 1)) + (q_dgt T n (ps + 2))) = true
              · skip
                rw [if_pos hc_82] at hz_82; replace hz_82 := hz_82.symm; subst hz_82
                refine z_if_ne (tgt := 90) hx hb (by decide) dX4_readDog_85 (by decide) (fun c_85 => ?_) (fun c_85 => ?_)
                · skip
                  refine lv_aload_n hx hb dX4_readDog_90 rfl (lv_at hl 3 rfl) ?_
                  refine lv_dup hx hb dX4_readDog_91 rfl ?_
                  refine g_geti (z := ((ps : Int) + 2)) hx hb hts hinX4 hown hG (o := 167) (hdm 167 (by decide)) rfl rfl 2 (by decide) f24 (fun _ h => h) rfl (by rw [h2_M10] <;> omega) dX4_readDog_92 ?_
                  refine lv_iconst (v := iZ 1) hx hb dX4_readDog_95 rfl ?_
                  refine z_iadd (z := ((ps : Int) + 3)) hx hb (by omega) dX4_readDog_96 ?_
                  refine g_put (F := (oS G)) hx hb hts hinX4 tyX4 tyX4_ok nmX4 hown hG (o := 167) (hdm 167 (by decide)) (fun f => rfl) rfl 2 (by decide) f24 (fun _ h => h) rfl rfl (fun _ => Nat.lt_of_lt_of_le (by decide) (Nat.le_refl 3)) (fun _ => rfl) dX4_readDog_97 (fun H locs hG => ?_)
                  obtain ⟨M15, hM15⟩ : ∃ X, X = (q_wr M10 167 2 ((ps : Int) + 3)) := ⟨_, rfl⟩
                  rw [← hM15] at hG
                  have hR__M15 : q_tr M15 8 R := by rw [hM15]; exact tr_wr hR__M10 (by omega)
                  have h2_M15 : M15 167 2 = (((ps + 3) : Nat) : Int) := by rw [hM15, wr_eq]; omega
                  have hfx_M15 : q_fx M M15 := by rw [hM15]; exact q_fx.wr hfx_M10
                  refine lv_aload_n hx hb dX4_readDog_100 rfl (lv_at hl 4 rfl) ?_
                  refine lv_iload_n hx hb dX4_readDog_101 rfl (lv_at hl 2 rfl) ?_
                  refine lv_bipush (v := iZ (10)) hx hb dX4_readDog_102 (by decide) ?_
                  refine lv_iload_n hx hb dX4_readDog_104 rfl (lv_at hl 1 rfl) ?_
                  refine z_imul (z := (10 * (q_dgt T n (ps + 1)))) hx hb (by omega) dX4_readDog_105 ?_
                  refine lv_iload hx hb dX4_readDog_106 (lv_at hl 0 rfl) ?_
                  refine z_iadd (z := (10 * (q_dgt T n (ps + 1)) + (q_dgt T n (ps + 2)))) hx hb (by omega) dX4_readDog_108 ?_
                  refine g_callV (b := 8) (As := [.int (iZ (q_dgt T n ps)), .int (iZ (10 * (q_dgt T n (ps + 1)) + (q_dgt T n (ps + 2))))]) (rest := []) ⟨hx, hb, hml, hown, hts⟩ (c_X3_addDog l G M15 hdm 8 ⟨by decide, by decide⟩ R hR__M15 hI (q_nd R).toNat (by omega) (by omega) (q_dgt T n ps) (10 * (q_dgt T n (ps + 1)) + (q_dgt T n (ps + 2)))) (cwV 2 hts gX4_readDog_X3_addDog rfl rfl rfl (by decide +kernel) ⟨Nat.le_of_ble_eq_true rfl, Nat.le_of_ble_eq_true rfl⟩) hG (g_recv hG (b := 8) (hdm 8 (by decide)) (gE_T ⟨by decide, by decide⟩ G _) rfl) rfl hl.1 rfl (Nat.le_of_ble_eq_true rfl) dX4_readDog_109 ⟨Nat.zero_le _, Nat.zero_le _⟩ (fun z16 M17 H locs hp_109 hG => ?_)
                  obtain ⟨hz_109, ht_M17, ho_M17⟩ := hp_109
                  have ht9_M17 : q_tr M17 8 (q_dgp T n ps R) := ht_M17
                  have h2_M17 : M17 167 2 = (((ps + 3) : Nat) : Int) := by rw [ho_M17 167 (by decide)]; exact h2_M15
                  have hfx_M17 : q_fx M M17 := q_fx.off hfx_M15 ho_M17
                  refine lv_pop hx hb dX4_readDog_112 rfl ?_
                  refine lv_iconst (v := iZ 1) hx hb dX4_readDog_113 rfl ?_
                  have hdg : q_dg T n ps R = 3 := q_dg_3 (by omega) ⟨by omega, hc_43⟩ ⟨by omega, hc_82⟩
                  exact g_zret (post := fun z M1 => z = (if q_dg T n ps R = 3 then 1 else 0) ∧ M1 167 2 = ((ps + q_dg T n ps R : Nat) : Int) ∧ q_fx M M1 ∧ (q_dg T n ps R = 3 → q_tr M1 8 (q_dgp T n ps R)) ∧ (∀ j : Nat, j < 12 → 0 ≤ M1 12 j ∧ M1 12 j ≤ 1)) (z := 1) hx hb hr hG hlocks (Or.inr rfl) (⟨by rw [hdg, if_pos rfl], by rw [hdg]; have e9 := h2_M17; omega, hfx_M17, fun _ => ht9_M17, fun j hj => tr_bo ht9_M17 hj⟩) dX4_readDog_114
                · exfalso; omega
              · skip
                rw [if_neg hc_82] at hz_82; replace hz_82 := hz_82.symm; subst hz_82
                refine z_if_ne (tgt := 90) hx hb (by decide) dX4_readDog_85 (by decide) (fun c_85 => ?_) (fun c_85 => ?_)
                · exfalso; omega
                · skip
                  refine lv_iconst (v := iZ 0) hx hb dX4_readDog_88 rfl ?_
                  have hdg : q_dg T n ps R = 2 := q_dg_2 (by omega) ⟨by omega, hc_43⟩ (fun h9 => by first | exact hc_82 h9.2 | omega)
                  exact g_zret (post := fun z M1 => z = (if q_dg T n ps R = 3 then 1 else 0) ∧ M1 167 2 = ((ps + q_dg T n ps R : Nat) : Int) ∧ q_fx M M1 ∧ (q_dg T n ps R = 3 → q_tr M1 8 (q_dgp T n ps R)) ∧ (∀ j : Nat, j < 12 → 0 ≤ M1 12 j ∧ M1 12 j ≤ 1)) (z := 0) hx hb hr hG hlocks (Or.inl rfl) (⟨by rw [hdg, if_neg (by decide)], by rw [hdg]; have e9 := h2_M10; omega, hfx_M10, fun h9 => by omega, fun j hj => tr_bo hR__M10 hj⟩) dX4_readDog_89
          · exfalso; omega
        · skip
          rw [if_neg hc_43] at hz_43; replace hz_43 := hz_43.symm; subst hz_43
          refine z_if_ne (tgt := 51) hx hb (by decide) dX4_readDog_46 (by decide) (fun c_46 => ?_) (fun c_46 => ?_)
          · exfalso; omega
          · skip
            refine lv_iconst (v := iZ 0) hx hb dX4_readDog_49 rfl ?_
            have hdg : q_dg T n ps R = 1 := q_dg_1 (by omega) (fun h9 => by first | exact hc_43 h9.2 | omega)
            exact g_zret (post := fun z M1 => z = (if q_dg T n ps R = 3 then 1 else 0) ∧ M1 167 2 = ((ps + q_dg T n ps R : Nat) : Int) ∧ q_fx M M1 ∧ (q_dg T n ps R = 3 → q_tr M1 8 (q_dgp T n ps R)) ∧ (∀ j : Nat, j < 12 → 0 ≤ M1 12 j ∧ M1 12 j ≤ 1)) (z := 0) hx hb hr hG hlocks (Or.inl rfl) (⟨by rw [hdg, if_neg (by decide)], by rw [hdg]; have e9 := h2_M5; omega, hfx_M5, fun h9 => by omega, fun j hj => tr_bo hR__M5 hj⟩) dX4_readDog_50
    · skip
      refine lv_iconst (v := iZ 0) hx hb dX4_readDog_18 rfl ?_
      have hdg : q_dg T n ps R = 0 := q_dg_0 (by omega)
      exact g_zret (post := fun z M1 => z = (if q_dg T n ps R = 3 then 1 else 0) ∧ M1 167 2 = ((ps + q_dg T n ps R : Nat) : Int) ∧ q_fx M M1 ∧ (q_dg T n ps R = 3 → q_tr M1 8 (q_dgp T n ps R)) ∧ (∀ j : Nat, j < 12 → 0 ≤ M1 12 j ∧ M1 12 j ≤ 1)) (z := 0) hx hb hr hG hlocks (Or.inl rfl) (⟨by rw [hdg, if_neg (by decide)], by rw [hdg]; have e9 := h2; omega, (q_fx.rf M), fun h9 => by omega, fun j hj => tr_bo hR hj⟩) dX4_readDog_19
set_option maxHeartbeats 4000000 in
set_option maxRecDepth 100000 in
theorem c_X4_readRank (l : Launch) (G : gG) (M : Nat → Nat → Int) (hdm : ∀ k, k < 169 → gdm G k) (T : Nat → Int) (n ps : Nat) (hn : n ≤ 70) (hs : ps ≤ n) (hTx : M 168 = T) (h1 : M 167 1 = (n : Int)) (h2 : M 167 2 = (ps : Int)) (hch : ∀ j, j < n → 0 ≤ T j ∧ T j ≤ 255) (R : Nat → Int) (hR : q_tr M 8 R) (hI : q_inv R) : gMi l yX4_readRank wsX4_readRank ({ frames := 1, cells := 0, slots := 0, locals := 20 } : Room) G M [.ref (gad G 167), .ref (gad G 8)] (fun z M1 => z = (if q_rn6 T n ps = 6 then 1 else 0) ∧ M1 167 2 = ((ps + q_rn6 T n ps : Nat) : Int) ∧ q_fx M M1 ∧ (q_rn6 T n ps = 6 → q_tr M1 8 (q_srk R (q_rkd T n ps))) ∧ (∀ j : Nat, j < 12 → 0 ≤ M1 12 j ∧ M1 12 j ≤ 1)) := by
  refine gMi_of (cc := cX4_readRank) (maxL := 5) (ret := some .boolean) (by decide) rfl (Nat.le_of_ble_eq_true rfl) ?_
  intro p e s m below meth c ls hx hb hr hml hown hts hlocks hl hG
  have hown : s.vm.findClass RX4 = some m.cls := hown
  have hl : lv_has ls 5 [(0, .ref (gad G 167)), (1, .ref (gad G 8))] := hl
  have hinX3 : ∀ w ∈ u_ws RX3 TX3 15, w ∈ wsX4_readRank := by decide +kernel
  have hinX4 : ∀ w ∈ u_ws RX4 TX4 3, w ∈ wsX4_readRank := by decide +kernel
  have f24 := hts (.fieldLink RX4 24 "DogTrials$TrialText" "at" "I") (by decide +kernel)
  have f80 := hts (.fieldLink RX4 80 "DogTrials$Trial" "rank" "[I") (by decide +kernel)
  refine lv_iconst (v := iZ 0) hx hb dX4_readRank_0 rfl ?_
  refine lv_istore_n (lv' := [(2, .int (iZ 0)), (0, .ref (gad G 167)), (1, .ref (gad G 8))]) hx hb dX4_readRank_1 rfl hl (by decide) rfl (fun ls hl => ?_)
  refine lv_iconst (v := iZ 0) hx hb dX4_readRank_2 rfl ?_
  refine lv_istore_n (lv' := [(3, .int (iZ 0)), (2, .int (iZ 0)), (0, .ref (gad G 167)), (1, .ref (gad G 8))]) hx hb dX4_readRank_3 rfl hl (by decide) rfl (fun ls hl => ?_)
  have L_4 : ∀ (n_4 : Nat) (k : Nat) (x_i : Int) (x_m : Int) (Mk : Nat → Nat → Int), (x_i = (k : Int)) → (x_m = ((q_msk (q_rkd T n ps) k) : Int)) → (k ≤ 6) → (ps + k ≤ n) → ((∀ j, j < k → q_rkb T n ps j = true)) → (Mk 167 2 = ((ps + k : Nat) : Int)) → ((∀ j : Nat, j < k → Mk 15 j = q_rkd T n ps j)) → (q_fx M Mk) → ((∀ a, a ≠ 15 → a ≠ 167 → Mk a = M a)) → 6 - k < n_4 → ∀ (H : Heap) (locs : List Loc) (ls : Array Slot), gH G Mk s H locs → lv_has ls 5 [(3, .int (iZ x_i)), (2, .int (iZ x_m)), (0, .ref (gad G 167)), (1, .ref (gad G 8))] → W p l e ({ frames := 1, cells := 0, slots := 0, locals := 20 } : Room) s m [.ref (gad G 167), .ref (gad G 8)].toArray below meth c H locs 0 0 (MQ below (va_Qi (fun r (u : Int × (Nat → Nat → Int)) => r = iZ u.1 ∧ (fun z M1 => z = (if q_rn6 T n ps = 6 then 1 else 0) ∧ M1 167 2 = ((ps + q_rn6 T n ps : Nat) : Int) ∧ q_fx M M1 ∧ (q_rn6 T n ps = 6 → q_tr M1 8 (q_srk R (q_rkd T n ps))) ∧ (∀ j : Nat, j < 12 → 0 ≤ M1 12 j ∧ M1 12 j ≤ 1)) u.1 u.2) (fun u U => gB G u.2 U) (gA G)) [.ref (gad G 167), .ref (gad G 8)].toArray s 0 0 (gA G)) (F0 m 4 ls []) := by
    intro n_4
    induction n_4 with
    | zero => intro k x_i x_m Mk he_x_i he_x_m hk hsk hok h2k hrk hfx hoa hm_4; exact absurd hm_4 (Nat.not_lt_zero _)
    | succ n_4 ih_4 =>
      intro k x_i x_m Mk he_x_i he_x_m hk hsk hok h2k hrk hfx hoa hm_4 H locs ls hG hl
      subst he_x_i
      subst he_x_m
      have hms := q_msk_in (q_rkb_in hok)
      refine lv_iload_n hx hb dX4_readRank_4 rfl (lv_at hl 0 rfl) ?_
      refine lv_bipush (v := iZ (6)) hx hb dX4_readRank_5 (by decide) ?_
      refine z_icmp_ge (tgt := 73) hx hb (by omega) (by decide) dX4_readRank_7 (by decide) (fun c_7 => ?_) (fun c_7 => ?_)
      · skip
        refine lv_iconst (v := iZ 1) hx hb dX4_readRank_73 rfl ?_
        have hrn : q_rn6 T n ps = 6 := q_pre_all (P := q_rkb T n ps) (fun j hj => hok j (by omega))
        exact g_zret (post := fun z M1 => z = (if q_rn6 T n ps = 6 then 1 else 0) ∧ M1 167 2 = ((ps + q_rn6 T n ps : Nat) : Int) ∧ q_fx M M1 ∧ (q_rn6 T n ps = 6 → q_tr M1 8 (q_srk R (q_rkd T n ps))) ∧ (∀ j : Nat, j < 12 → 0 ≤ M1 12 j ∧ M1 12 j ≤ 1)) (z := 1) hx hb hr hG hlocks (Or.inr rfl) (⟨by rw [hrn, if_pos rfl], by rw [hrn, h2k]; omega, hfx, fun _ => q_tr_srk hR hoa (fun j hj => hrk j (by omega)), fun j hj => by rw [hoa 12 (by decide) (by decide)]; exact tr_bo hR hj⟩) dX4_readRank_74
      · skip
        refine lv_aload_n hx hb dX4_readRank_10 rfl (lv_at hl 2 rfl) ?_
        refine g_callV (b := 167) (As := []) (rest := []) ⟨hx, hb, hml, hown, hts⟩ (c_X4_digit l G Mk hdm T n (ps + k) hn (by omega) ((hfx.1 168 (by decide) (by decide)).trans hTx) ((hfx.2 1 (by decide)).trans h1) h2k hch) (cwV 0 hts gX4_readRank_X4_digit rfl rfl rfl (by decide +kernel) ⟨Nat.le_of_ble_eq_true rfl, Nat.le_of_ble_eq_true rfl⟩) hG (g_recv hG (b := 167) (hdm 167 (by decide)) rfl rfl) rfl hl.1 rfl (Nat.le_of_ble_eq_true rfl) dX4_readRank_11 ⟨Nat.zero_le _, Nat.zero_le _⟩ (fun z1 M2 H locs hp_11 hG => ?_)
        obtain ⟨hz_11, hM_11⟩ := hp_11; replace hz_11 := hz_11.symm; subst hz_11; replace hM_11 := hM_11.symm; subst hM_11
        have hdg_11 := q_dgt_in T n (ps + k)
        rw [show q_dgt T n (ps + k) = q_rkd T n ps k from rfl]
        replace hdg_11 : q_rkd T n ps k = -9 ∨ (0 ≤ q_rkd T n ps k ∧ q_rkd T n ps k ≤ 9 ∧ ps + k < n ∧ T (ps + k) = q_rkd T n ps k + 48) := hdg_11
        refine lv_istore (lv' := [(4, .int (iZ (q_rkd T n ps k))), (3, .int (iZ (k : Int))), (2, .int (iZ ((q_msk (q_rkd T n ps) k) : Int))), (0, .ref (gad G 167)), (1, .ref (gad G 8))]) hx hb dX4_readRank_14 hl (by decide) rfl (fun ls hl => ?_)
        refine lv_iload hx hb dX4_readRank_16 (lv_at hl 0 rfl) ?_
        refine lv_bipush (v := iZ (-9)) hx hb dX4_readRank_18 (by decide) ?_
        refine z_icmp_eq (tgt := 40) hx hb (by omega) (by decide) dX4_readRank_20 (by decide) (fun c_20 => ?_) (fun c_20 => ?_)
        · skip
          refine lv_iconst (v := iZ 0) hx hb dX4_readRank_40 rfl ?_
          have hrn : q_rn6 T n ps = k := q_pre_hit (P := q_rkb T n ps) (fun h9 => by unfold q_rkb at h9; have h8 := of_decide_eq_true h9; omega) hok (by omega)
          exact g_zret (post := fun z M1 => z = (if q_rn6 T n ps = 6 then 1 else 0) ∧ M1 167 2 = ((ps + q_rn6 T n ps : Nat) : Int) ∧ q_fx M M1 ∧ (q_rn6 T n ps = 6 → q_tr M1 8 (q_srk R (q_rkd T n ps))) ∧ (∀ j : Nat, j < 12 → 0 ≤ M1 12 j ∧ M1 12 j ≤ 1)) (z := 0) hx hb hr hG hlocks (Or.inl rfl) (⟨by rw [hrn, if_neg (by omega)], by rw [hrn]; exact h2k, hfx, fun h9 => by omega, fun j hj => by rw [hoa 12 (by decide) (by decide)]; exact tr_bo hR hj⟩) dX4_readRank_41
        · skip
          refine lv_iload hx hb dX4_readRank_23 (lv_at hl 0 rfl) ?_
          refine g_callSN (As := [.int (iZ (q_rkd T n ps k))]) (rest := []) ⟨hx, hb, hml, hown, hts⟩ (c_X5_isPhase l G Mk (q_rkd T n ps k) (by omega)) ⟨va_cnB 1 hts gX4_readRank_X5_isPhase_n77 rfl rfl rfl hG.2.1.2.2.2.2.2.2.2.2.2.2.2.2.2.2 (hts (.initialized RX5) (by decide +kernel)) (by decide +kernel) ⟨Nat.le_of_ble_eq_true rfl, Nat.le_of_ble_eq_true rfl⟩, hts (.static yX5_isPhase) (by decide +kernel), trivial⟩ hG rfl hl.1 rfl (Nat.le_of_ble_eq_true rfl) dX4_readRank_25 ⟨Nat.zero_le _, Nat.zero_le _⟩ (fun z3 M4 H locs hp_25 hG => ?_)
          obtain ⟨hz_25, hM_25⟩ := hp_25; replace hz_25 := hz_25.symm; subst hz_25; replace hM_25 := hM_25.symm; subst hM_25
          refine z_ifP_eq (tgt := 40) hx hb dX4_readRank_28 (by decide) (fun c_28 => ?_) (fun c_28 => ?_)
          · skip
            refine lv_iconst (v := iZ 0) hx hb dX4_readRank_40 rfl ?_
            have hrn : q_rn6 T n ps = k := q_pre_hit (P := q_rkb T n ps) (fun h9 => by unfold q_rkb at h9; have h8 := of_decide_eq_true h9; omega) hok (by omega)
            exact g_zret (post := fun z M1 => z = (if q_rn6 T n ps = 6 then 1 else 0) ∧ M1 167 2 = ((ps + q_rn6 T n ps : Nat) : Int) ∧ q_fx M M1 ∧ (q_rn6 T n ps = 6 → q_tr M1 8 (q_srk R (q_rkd T n ps))) ∧ (∀ j : Nat, j < 12 → 0 ≤ M1 12 j ∧ M1 12 j ≤ 1)) (z := 0) hx hb hr hG hlocks (Or.inl rfl) (⟨by rw [hrn, if_neg (by omega)], by rw [hrn]; exact h2k, hfx, fun h9 => by omega, fun j hj => by rw [hoa 12 (by decide) (by decide)]; exact tr_bo hR hj⟩) dX4_readRank_41
          · skip
            refine lv_iload_n hx hb dX4_readRank_31 rfl (lv_at hl 2 rfl) ?_
            refine lv_iload hx hb dX4_readRank_32 (lv_at hl 0 rfl) ?_
            refine z_shrm (m9 := (q_msk (q_rkd T n ps) k)) (q9 := (q_rkd T n ps k).toNat) hx hb hms (by omega) (by omega) dX4_readRank_34 ?_
            refine lv_iconst (v := iZ 1) hx hb dX4_readRank_35 rfl ?_
            refine z_andm (m9 := ((q_msk (q_rkd T n ps) k) / 2 ^ (q_rkd T n ps k).toNat)) hx hb (Nat.lt_of_le_of_lt (Nat.div_le_self _ _) hms) dX4_readRank_36 ?_
            refine z_if_eq (tgt := 42) hx hb (by omega) dX4_readRank_37 (by decide) (fun c_37 => ?_) (fun c_37 => ?_)
            · skip
              refine lv_iload_n hx hb dX4_readRank_42 rfl (lv_at hl 2 rfl) ?_
              refine lv_iconst (v := iZ 1) hx hb dX4_readRank_43 rfl ?_
              refine lv_iload hx hb dX4_readRank_44 (lv_at hl 0 rfl) ?_
              refine z_shl1 (q9 := (q_rkd T n ps k).toNat) hx hb (by omega) (by omega) dX4_readRank_46 ?_
              refine z_orm (m9 := (q_msk (q_rkd T n ps) k)) (b9 := (2 ^ (q_rkd T n ps k).toNat)) hx hb hms (q_pw6 _ (by omega)) dX4_readRank_47 ?_
              refine lv_istore_n (lv' := [(2, .int (iZ (((q_msk (q_rkd T n ps) k) ||| (2 ^ (q_rkd T n ps k).toNat) : Nat) : Int))), (4, .int (iZ (q_rkd T n ps k))), (3, .int (iZ (k : Int))), (0, .ref (gad G 167)), (1, .ref (gad G 8))]) hx hb dX4_readRank_48 rfl hl (by decide) rfl (fun ls hl => ?_)
              refine lv_aload_n hx hb dX4_readRank_49 rfl (lv_at hl 4 rfl) ?_
              refine g_get hx hb hts hinX3 hown hG (o := 8) (hdm 8 (by decide)) (gE_T ⟨by decide, by decide⟩ G _) rfl 7 (by decide) f80 (fun _ h => h) rfl dX4_readRank_50 ?_
              refine lv_iload_n hx hb dX4_readRank_53 rfl (lv_at hl 2 rfl) ?_
              refine lv_iload hx hb dX4_readRank_54 (lv_at hl 1 rfl) ?_
              refine g_iast (j := k) hx hb hG (o := 15) (hdm 15 (by decide)) (fun f => gE_t7 ⟨by decide, by decide⟩ G f) (by omega) (by omega) (by omega) dX4_readRank_56 (fun H locs hG => ?_)
              obtain ⟨M5, hM5⟩ : ∃ X, X = (q_wr Mk 15 k (q_rkd T n ps k)) := ⟨_, rfl⟩
              rw [← hM5] at hG
              refine lv_aload_n hx hb dX4_readRank_57 rfl (lv_at hl 3 rfl) ?_
              refine lv_dup hx hb dX4_readRank_58 rfl ?_
              refine g_geti (z := ((ps : Int) + (k : Int))) hx hb hts hinX4 hown hG (o := 167) (hdm 167 (by decide)) rfl rfl 2 (by decide) f24 (fun _ h => h) rfl (by rw [hM5, wr_off _ _ _ (by decide), h2k]; omega) dX4_readRank_59 ?_
              refine lv_iconst (v := iZ 1) hx hb dX4_readRank_62 rfl ?_
              refine z_iadd (z := ((ps : Int) + (k : Int) + 1)) hx hb (by omega) dX4_readRank_63 ?_
              refine g_put (F := (oS G)) hx hb hts hinX4 tyX4 tyX4_ok nmX4 hown hG (o := 167) (hdm 167 (by decide)) (fun f => rfl) rfl 2 (by decide) f24 (fun _ h => h) rfl rfl (fun _ => Nat.lt_of_lt_of_le (by decide) (Nat.le_refl 3)) (fun _ => rfl) dX4_readRank_64 (fun H locs hG => ?_)
              obtain ⟨M6, hM6⟩ : ∃ X, X = (q_wr M5 167 2 ((ps : Int) + (k : Int) + 1)) := ⟨_, rfl⟩
              rw [← hM6] at hG
              refine z_iinc (z := ((k : Int) + 1)) (lv' := [(3, .int (iZ ((k : Int) + 1))), (2, .int (iZ (((q_msk (q_rkd T n ps) k) ||| (2 ^ (q_rkd T n ps k).toNat) : Nat) : Int))), (4, .int (iZ (q_rkd T n ps k))), (0, .ref (gad G 167)), (1, .ref (gad G 8))]) hx hb dX4_readRank_67 hl (k := 2) rfl (by omega) (by decide) rfl (fun ls hl => ?_)
              refine lv_goto (tgt := 4) hx hb dX4_readRank_70 (by decide) ?_
              exact ih_4 (k + 1) ((k : Int) + 1) (((q_msk (q_rkd T n ps) k) ||| (2 ^ (q_rkd T n ps k).toNat) : Nat) : Int) M6 (by omega) rfl (by omega) (by omega) (fun j hj => by rcases (show j < k ∨ j = k by omega) with h9 | h9; exact hok j h9; (subst h9; unfold q_rkb; exact decide_eq_true (by omega))) (by rw [hM6, wr_eq]; omega) (fun j hj => by rw [hM6, wr_off _ _ _ (by decide), hM5, wr_ap]; split; (rename_i e8; rw [e8.2]); (exact hrk j (by omega))) (by rw [hM6, hM5]; exact q_fx.wr (q_fx.wt hfx (by decide))) (fun a e1 e2 => by rw [hM6, wr_off _ _ _ e2, hM5, wr_off _ _ _ e1]; exact hoa a e1 e2) (by omega) _ _ _ hG (lv_sub hl [0, 1, 3, 4] rfl)
            · skip
              refine lv_iconst (v := iZ 0) hx hb dX4_readRank_40 rfl ?_
              have hrn : q_rn6 T n ps = k := q_pre_hit (P := q_rkb T n ps) (fun h9 => by unfold q_rkb at h9; have h8 := of_decide_eq_true h9; omega) hok (by omega)
              exact g_zret (post := fun z M1 => z = (if q_rn6 T n ps = 6 then 1 else 0) ∧ M1 167 2 = ((ps + q_rn6 T n ps : Nat) : Int) ∧ q_fx M M1 ∧ (q_rn6 T n ps = 6 → q_tr M1 8 (q_srk R (q_rkd T n ps))) ∧ (∀ j : Nat, j < 12 → 0 ≤ M1 12 j ∧ M1 12 j ≤ 1)) (z := 0) hx hb hr hG hlocks (Or.inl rfl) (⟨by rw [hrn, if_neg (by omega)], by rw [hrn]; exact h2k, hfx, fun h9 => by omega, fun j hj => by rw [hoa 12 (by decide) (by decide)]; exact tr_bo hR hj⟩) dX4_readRank_41
  exact L_4 _ 0 0 0 M rfl rfl (by omega) (by omega) (fun j h => absurd h (Nat.not_lt_zero _)) h2 (fun j h => absurd h (Nat.not_lt_zero _)) (q_fx.rf M) (fun _ _ _ => rfl) (Nat.lt_succ_self _) _ _ _ hG (lv_sub hl [0, 1, 2, 3] rfl)
set_option maxHeartbeats 4000000 in
set_option maxRecDepth 100000 in
theorem c_X4_readTrial (l : Launch) (G : gG) (M : Nat → Nat → Int) (hdm : ∀ k, k < 169 → gdm G k) (T : Nat → Int) (n : Nat) (hn : n ≤ 70) (hTx : M 168 = T) (h1 : M 167 1 = (n : Int)) (h2 : M 167 2 = ((0 : Nat) : Int)) (hch : ∀ j, j < n → 0 ≤ T j ∧ T j ≤ 255) (hR : q_tr M 8 q_new) : gMi l yX4_readTrial wsX4_readTrial ({ frames := 4, cells := 0, slots := 0, locals := 89 } : Room) G M [.ref (gad G 167), .ref (gad G 8)] (fun z M1 => z = (if (q_rdt T n).1 = true then 1 else 0) ∧ M1 167 2 = ((q_rdt T n).2.1 : Int) ∧ q_fx M M1 ∧ ((q_rdt T n).1 = true → q_tr M1 8 (q_rdt T n).2.2) ∧ (∀ j : Nat, j < 12 → 0 ≤ M1 12 j ∧ M1 12 j ≤ 1)) := by
  refine gMi_of (cc := cX4_readTrial) (maxL := 3) (ret := some .boolean) (by decide) rfl (Nat.le_of_ble_eq_true rfl) ?_
  intro p e s m below meth c ls hx hb hr hml hown hts hlocks hl hG
  have hown : s.vm.findClass RX4 = some m.cls := hown
  have hl : lv_has ls 3 [(0, .ref (gad G 167)), (1, .ref (gad G 8))] := hl
  refine lv_aload_n hx hb dX4_readTrial_0 rfl (lv_at hl 0 rfl) ?_
  refine lv_bipush (v := iZ (84)) hx hb dX4_readTrial_1 (by decide) ?_
  refine g_callV (b := 167) (As := [.int (iZ 84)]) (rest := []) ⟨hx, hb, hml, hown, hts⟩ (c_X4_readSign l G M hdm T n 0 hn (by omega) hTx h1 h2 hch 84 (by omega)) (cwV 1 hts gX4_readTrial_X4_readSign rfl rfl rfl (by decide +kernel) ⟨Nat.le_of_ble_eq_true rfl, Nat.le_of_ble_eq_true rfl⟩) hG (g_recv hG (b := 167) (hdm 167 (by decide)) rfl rfl) rfl hl.1 rfl (Nat.le_of_ble_eq_true rfl) dX4_readTrial_3 ⟨Nat.zero_le _, Nat.zero_le _⟩ (fun z1 M2 H locs hp_3 hG => ?_)
  rcases hp_3 with ⟨hy_3, hc_3, hz_3, hM_3⟩ | ⟨hc_3, hz_3, hM_3⟩
  · skip
    replace hz_3 := hz_3.symm; subst hz_3
    have h2_M2 : M2 167 2 = ((1 : Nat) : Int) := by rw [hM_3, wr_eq]; omega
    have hfx_M2 : q_fx M M2 := by rw [hM_3]; exact q_fx.wr (q_fx.rf M)
    have hv8_M2 : q_tr M2 8 q_new := by rw [hM_3]; exact tr_wr hR (by omega)
    refine z_if_eq (tgt := 17) hx hb (by decide) dX4_readTrial_6 (by decide) (fun c_6 => ?_) (fun c_6 => ?_)
    · exfalso; omega
    · skip
      refine lv_aload_n hx hb dX4_readTrial_9 rfl (lv_at hl 0 rfl) ?_
      refine lv_aload_n hx hb dX4_readTrial_10 rfl (lv_at hl 1 rfl) ?_
      refine g_callV (b := 167) (As := [.ref (gad G 8)]) (rest := []) ⟨hx, hb, hml, hown, hts⟩ (c_X4_readSunset l G M2 hdm T n 1 hn (by omega) ((hfx_M2.1 168 (by decide) (by decide)).trans hTx) ((hfx_M2.2 1 (by decide)).trans h1) h2_M2 hch q_new hv8_M2 q_new_inv) (cwV 1 hts gX4_readTrial_X4_readSunset rfl rfl rfl (by decide +kernel) ⟨Nat.le_of_ble_eq_true rfl, Nat.le_of_ble_eq_true rfl⟩) hG (g_recv hG (b := 167) (hdm 167 (by decide)) rfl rfl) rfl hl.1 rfl (Nat.le_of_ble_eq_true rfl) dX4_readTrial_11 ⟨Nat.zero_le _, Nat.zero_le _⟩ (fun z3 M4 H locs hp_11 hG => ?_)
      obtain ⟨hz_11, h2_M4, hfx0_M4, hpg_M4, hb8_M4⟩ := hp_11
      have hfx_M4 : q_fx M M4 := q_fx.tr hfx_M2 hfx0_M4
      by_cases hc_11 : q_sn T n 1 = 3
      · skip
        rw [if_pos hc_11] at hz_11; replace hz_11 := hz_11.symm; subst hz_11
        rw [hc_11] at h2_M4
        have ht_M4 := hpg_M4 hc_11
        have h2y_M4 : M4 167 2 = ((4 : Nat) : Int) := h2_M4.trans (by omega)
        refine z_if_ne (tgt := 19) hx hb (by decide) dX4_readTrial_14 (by decide) (fun c_14 => ?_) (fun c_14 => ?_)
        · skip
          refine lv_iconst (v := iZ 0) hx hb dX4_readTrial_19 rfl ?_
          refine lv_istore_n (lv' := [(2, .int (iZ 0)), (0, .ref (gad G 167)), (1, .ref (gad G 8))]) hx hb dX4_readTrial_20 rfl hl (by decide) rfl (fun ls hl => ?_)
          have L_21 : ∀ (n_21 : Nat) (k : Nat) (sk : Nat) (Rk : Nat → Int) (x_i : Int) (Mk : Nat → Nat → Int), (x_i = (k : Int)) → (k ≤ 12) → (sk ≤ n) → (q_inv Rk) → (q_nd Rk = (k : Int)) → (q_rdt T n = q_go T n (12 - k) sk Rk) → (Mk 167 2 = (sk : Int)) → (q_tr Mk 8 Rk) → (q_fx M Mk) → 12 - k < n_21 → ∀ (H : Heap) (locs : List Loc) (ls : Array Slot), gH G Mk s H locs → lv_has ls 3 [(2, .int (iZ x_i)), (0, .ref (gad G 167)), (1, .ref (gad G 8))] → W p l e ({ frames := 4, cells := 0, slots := 0, locals := 89 } : Room) s m [.ref (gad G 167), .ref (gad G 8)].toArray below meth c H locs 0 0 (MQ below (va_Qi (fun r (u : Int × (Nat → Nat → Int)) => r = iZ u.1 ∧ (fun z M1 => z = (if (q_rdt T n).1 = true then 1 else 0) ∧ M1 167 2 = ((q_rdt T n).2.1 : Int) ∧ q_fx M M1 ∧ ((q_rdt T n).1 = true → q_tr M1 8 (q_rdt T n).2.2) ∧ (∀ j : Nat, j < 12 → 0 ≤ M1 12 j ∧ M1 12 j ≤ 1)) u.1 u.2) (fun u U => gB G u.2 U) (gA G)) [.ref (gad G 167), .ref (gad G 8)].toArray s 0 0 (gA G)) (F0 m 21 ls []) := by
            intro n_21
            induction n_21 with
            | zero => intro k sk Rk x_i Mk he_x_i hk hsk hIk hndk hgo h2k hRk hfx hm_21; exact absurd hm_21 (Nat.not_lt_zero _)
            | succ n_21 ih_21 =>
              intro k sk Rk x_i Mk he_x_i hk hsk hIk hndk hgo h2k hRk hfx hm_21 H locs ls hG hl
              subst he_x_i
              refine lv_iload_n hx hb dX4_readTrial_21 rfl (lv_at hl 0 rfl) ?_
              refine lv_bipush (v := iZ (12)) hx hb dX4_readTrial_22 (by decide) ?_
              refine z_icmp_ge (tgt := 52) hx hb (by omega) (by decide) dX4_readTrial_24 (by decide) (fun c_24 => ?_) (fun c_24 => ?_)
              · skip
                refine lv_aload_n hx hb dX4_readTrial_52 rfl (lv_at hl 1 rfl) ?_
                refine lv_bipush (v := iZ (114)) hx hb dX4_readTrial_53 (by decide) ?_
                refine g_callV (b := 167) (As := [.int (iZ 114)]) (rest := []) ⟨hx, hb, hml, hown, hts⟩ (c_X4_readSign l G Mk hdm T n sk hn (by omega) ((hfx.1 168 (by decide) (by decide)).trans hTx) ((hfx.2 1 (by decide)).trans h1) h2k hch 114 (by omega)) (cwV 1 hts gX4_readTrial_X4_readSign rfl rfl rfl (by decide +kernel) ⟨Nat.le_of_ble_eq_true rfl, Nat.le_of_ble_eq_true rfl⟩) hG (g_recv hG (b := 167) (hdm 167 (by decide)) rfl rfl) rfl hl.1 rfl (Nat.le_of_ble_eq_true rfl) dX4_readTrial_55 ⟨Nat.zero_le _, Nat.zero_le _⟩ (fun z5 M6 H locs hp_55 hG => ?_)
                rcases hp_55 with ⟨hy_55, hc_55, hz_55, hM_55⟩ | ⟨hc_55, hz_55, hM_55⟩
                · skip
                  replace hz_55 := hz_55.symm; subst hz_55
                  have h2_M6 : M6 167 2 = (((sk + 1) : Nat) : Int) := by rw [hM_55, wr_eq]; omega
                  have hfx_M6 : q_fx M M6 := by rw [hM_55]; exact q_fx.wr hfx
                  have hv8_M6 : q_tr M6 8 Rk := by rw [hM_55]; exact tr_wr hRk (by omega)
                  refine z_if_eq (tgt := 69) hx hb (by decide) dX4_readTrial_58 (by decide) (fun c_58 => ?_) (fun c_58 => ?_)
                  · exfalso; omega
                  · skip
                    refine lv_aload_n hx hb dX4_readTrial_61 rfl (lv_at hl 1 rfl) ?_
                    refine lv_aload_n hx hb dX4_readTrial_62 rfl (lv_at hl 2 rfl) ?_
                    refine g_callV (b := 167) (As := [.ref (gad G 8)]) (rest := []) ⟨hx, hb, hml, hown, hts⟩ (c_X4_readRank l G M6 hdm T n (sk + 1) hn (by omega) ((hfx_M6.1 168 (by decide) (by decide)).trans hTx) ((hfx_M6.2 1 (by decide)).trans h1) h2_M6 hch Rk hv8_M6 hIk) (cwV 1 hts gX4_readTrial_X4_readRank rfl rfl rfl (by decide +kernel) ⟨Nat.le_of_ble_eq_true rfl, Nat.le_of_ble_eq_true rfl⟩) hG (g_recv hG (b := 167) (hdm 167 (by decide)) rfl rfl) rfl hl.1 rfl (Nat.le_of_ble_eq_true rfl) dX4_readTrial_63 ⟨Nat.zero_le _, Nat.zero_le _⟩ (fun z7 M8 H locs hp_63 hG => ?_)
                    obtain ⟨hz_63, h2_M8, hfx0_M8, hpg_M8, hb8_M8⟩ := hp_63
                    have hfx_M8 : q_fx M M8 := q_fx.tr hfx_M6 hfx0_M8
                    by_cases hc_63 : q_rn6 T n (sk + 1) = 6
                    · skip
                      rw [if_pos hc_63] at hz_63; replace hz_63 := hz_63.symm; subst hz_63
                      rw [hc_63] at h2_M8
                      have ht_M8 := hpg_M8 hc_63
                      have h2y_M8 : M8 167 2 = (((sk + 7) : Nat) : Int) := h2_M8.trans (by omega)
                      refine z_if_eq (tgt := 73) hx hb (by decide) dX4_readTrial_66 (by decide) (fun c_66 => ?_) (fun c_66 => ?_)
                      · exfalso; omega
                      · skip
                        refine lv_iconst (v := iZ 1) hx hb dX4_readTrial_69 rfl ?_
                        refine lv_goto (tgt := 74) hx hb dX4_readTrial_70 (by decide) ?_
                        have hq8 : q_rdt T n = q_tl T n sk Rk := hgo.trans (q_go_no (by first | exact Or.inl (by omega) | exact Or.inr hc_30))
                        have hq9 : q_rdt T n = (true, sk + 7, q_srk Rk (q_rkd T n (sk + 1))) := by rw [hq8]; unfold q_tl; rw [if_pos ⟨by omega, hc_55⟩, if_pos hc_63]
                        exact g_zret (post := fun z M1 => z = (if (q_rdt T n).1 = true then 1 else 0) ∧ M1 167 2 = ((q_rdt T n).2.1 : Int) ∧ q_fx M M1 ∧ ((q_rdt T n).1 = true → q_tr M1 8 (q_rdt T n).2.2) ∧ (∀ j : Nat, j < 12 → 0 ≤ M1 12 j ∧ M1 12 j ≤ 1)) (z := 1) hx hb hr hG hlocks (Or.inr rfl) (⟨by rw [hq9]; rfl, by rw [hq9]; dsimp only; have e9 := h2y_M8; omega, hfx_M8, (fun _ => by rw [hq9]; exact ht_M8), (fun j hj => tr_bo ht_M8 hj)⟩) dX4_readTrial_74
                    · skip
                      rw [if_neg hc_63] at hz_63; replace hz_63 := hz_63.symm; subst hz_63
                      refine z_if_eq (tgt := 73) hx hb (by decide) dX4_readTrial_66 (by decide) (fun c_66 => ?_) (fun c_66 => ?_)
                      · skip
                        refine lv_iconst (v := iZ 0) hx hb dX4_readTrial_73 rfl ?_
                        have hq8 : q_rdt T n = q_tl T n sk Rk := hgo.trans (q_go_no (by first | exact Or.inl (by omega) | exact Or.inr hc_30))
                        have hq9 : q_rdt T n = (false, sk + 1 + q_rn6 T n (sk + 1), Rk) := by rw [hq8]; unfold q_tl; rw [if_pos ⟨by omega, hc_55⟩, if_neg hc_63]
                        exact g_zret (post := fun z M1 => z = (if (q_rdt T n).1 = true then 1 else 0) ∧ M1 167 2 = ((q_rdt T n).2.1 : Int) ∧ q_fx M M1 ∧ ((q_rdt T n).1 = true → q_tr M1 8 (q_rdt T n).2.2) ∧ (∀ j : Nat, j < 12 → 0 ≤ M1 12 j ∧ M1 12 j ≤ 1)) (z := 0) hx hb hr hG hlocks (Or.inl rfl) (⟨by rw [hq9]; rfl, by rw [hq9]; dsimp only; have e9 := h2_M8; omega, hfx_M8, (fun h9 => by rw [hq9] at h9; cases h9), hb8_M8⟩) dX4_readTrial_74
                      · exfalso; omega
                · skip
                  replace hz_55 := hz_55.symm; subst hz_55; replace hM_55 := hM_55.symm; subst hM_55
                  refine z_if_eq (tgt := 69) hx hb (by decide) dX4_readTrial_58 (by decide) (fun c_58 => ?_) (fun c_58 => ?_)
                  · skip
                    refine lv_iconst (v := iZ 1) hx hb dX4_readTrial_69 rfl ?_
                    refine lv_goto (tgt := 74) hx hb dX4_readTrial_70 (by decide) ?_
                    have hq8 : q_rdt T n = q_tl T n sk Rk := hgo.trans (q_go_no (by first | exact Or.inl (by omega) | exact Or.inr hc_30))
                    have hq9 : q_rdt T n = (true, sk, Rk) := by rw [hq8]; unfold q_tl; rw [if_neg hc_55]
                    exact g_zret (post := fun z M1 => z = (if (q_rdt T n).1 = true then 1 else 0) ∧ M1 167 2 = ((q_rdt T n).2.1 : Int) ∧ q_fx M M1 ∧ ((q_rdt T n).1 = true → q_tr M1 8 (q_rdt T n).2.2) ∧ (∀ j : Nat, j < 12 → 0 ≤ M1 12 j ∧ M1 12 j ≤ 1)) (z := 1) hx hb hr hG hlocks (Or.inr rfl) (⟨by rw [hq9]; rfl, by rw [hq9]; dsimp only; have e9 := h2k; omega, hfx, (fun _ => by rw [hq9]; exact hRk), (fun j hj => tr_bo hRk hj)⟩) dX4_readTrial_74
                  · exfalso; omega
              · skip
                refine lv_aload_n hx hb dX4_readTrial_27 rfl (lv_at hl 1 rfl) ?_
                refine lv_bipush (v := iZ (100)) hx hb dX4_readTrial_28 (by decide) ?_
                refine g_callV (b := 167) (As := [.int (iZ 100)]) (rest := []) ⟨hx, hb, hml, hown, hts⟩ (c_X4_readSign l G Mk hdm T n sk hn (by omega) ((hfx.1 168 (by decide) (by decide)).trans hTx) ((hfx.2 1 (by decide)).trans h1) h2k hch 100 (by omega)) (cwV 1 hts gX4_readTrial_X4_readSign rfl rfl rfl (by decide +kernel) ⟨Nat.le_of_ble_eq_true rfl, Nat.le_of_ble_eq_true rfl⟩) hG (g_recv hG (b := 167) (hdm 167 (by decide)) rfl rfl) rfl hl.1 rfl (Nat.le_of_ble_eq_true rfl) dX4_readTrial_30 ⟨Nat.zero_le _, Nat.zero_le _⟩ (fun z9 M10 H locs hp_30 hG => ?_)
                rcases hp_30 with ⟨hy_30, hc_30, hz_30, hM_30⟩ | ⟨hc_30, hz_30, hM_30⟩
                · skip
                  replace hz_30 := hz_30.symm; subst hz_30
                  have h2_M10 : M10 167 2 = (((sk + 1) : Nat) : Int) := by rw [hM_30, wr_eq]; omega
                  have hfx_M10 : q_fx M M10 := by rw [hM_30]; exact q_fx.wr hfx
                  have hv8_M10 : q_tr M10 8 Rk := by rw [hM_30]; exact tr_wr hRk (by omega)
                  refine z_if_eq (tgt := 52) hx hb (by decide) dX4_readTrial_33 (by decide) (fun c_33 => ?_) (fun c_33 => ?_)
                  · exfalso; omega
                  · skip
                    refine lv_aload_n hx hb dX4_readTrial_36 rfl (lv_at hl 1 rfl) ?_
                    refine lv_aload_n hx hb dX4_readTrial_37 rfl (lv_at hl 2 rfl) ?_
                    refine g_callV (b := 167) (As := [.ref (gad G 8)]) (rest := []) ⟨hx, hb, hml, hown, hts⟩ (c_X4_readDog l G M10 hdm T n (sk + 1) hn (by omega) ((hfx_M10.1 168 (by decide) (by decide)).trans hTx) ((hfx_M10.2 1 (by decide)).trans h1) h2_M10 hch Rk hv8_M10 hIk (by omega)) (cwV 1 hts gX4_readTrial_X4_readDog rfl rfl rfl (by decide +kernel) ⟨Nat.le_of_ble_eq_true rfl, Nat.le_of_ble_eq_true rfl⟩) hG (g_recv hG (b := 167) (hdm 167 (by decide)) rfl rfl) rfl hl.1 rfl (Nat.le_of_ble_eq_true rfl) dX4_readTrial_38 ⟨Nat.zero_le _, Nat.zero_le _⟩ (fun z11 M12 H locs hp_38 hG => ?_)
                    obtain ⟨hz_38, h2_M12, hfx0_M12, hpg_M12, hb8_M12⟩ := hp_38
                    have hfx_M12 : q_fx M M12 := q_fx.tr hfx_M10 hfx0_M12
                    by_cases hc_38 : q_dg T n (sk + 1) Rk = 3
                    · skip
                      rw [if_pos hc_38] at hz_38; replace hz_38 := hz_38.symm; subst hz_38
                      rw [hc_38] at h2_M12
                      have ht_M12 := hpg_M12 hc_38
                      have h2y_M12 : M12 167 2 = (((sk + 4) : Nat) : Int) := h2_M12.trans (by omega)
                      refine z_if_ne (tgt := 46) hx hb (by decide) dX4_readTrial_41 (by decide) (fun c_41 => ?_) (fun c_41 => ?_)
                      · skip
                        refine z_iinc (z := ((k : Int) + 1)) (lv' := [(2, .int (iZ ((k : Int) + 1))), (0, .ref (gad G 167)), (1, .ref (gad G 8))]) hx hb dX4_readTrial_46 hl (k := 0) rfl (by omega) (by decide) rfl (fun ls hl => ?_)
                        refine lv_goto (tgt := 21) hx hb dX4_readTrial_49 (by decide) ?_
                        exact ih_21 (k + 1) (sk + 4) (q_dgp T n (sk + 1) Rk) ((k : Int) + 1) M12 (by omega) (by omega) (by have h9 := (q_dg_ok hc_38).2.2; omega) (inv_dgp hIk (by omega) hc_38) (by unfold q_dgp; rw [q_ent_nd]; omega) (hgo.trans (by rw [q_go_yes (by omega) ⟨by omega, hc_30⟩ hc_38, show 12 - k - 1 = 12 - (k + 1) by omega])) h2y_M12 ht_M12 hfx_M12 (by omega) _ _ _ hG (lv_sub hl [0, 1, 2] rfl)
                      · exfalso; omega
                    · skip
                      rw [if_neg hc_38] at hz_38; replace hz_38 := hz_38.symm; subst hz_38
                      refine z_if_ne (tgt := 46) hx hb (by decide) dX4_readTrial_41 (by decide) (fun c_41 => ?_) (fun c_41 => ?_)
                      · exfalso; omega
                      · skip
                        refine lv_iconst (v := iZ 0) hx hb dX4_readTrial_44 rfl ?_
                        have hq9 : q_rdt T n = (false, sk + 1 + q_dg T n (sk + 1) Rk, Rk) := hgo.trans (q_go_bad (by omega) ⟨by omega, hc_30⟩ hc_38)
                        exact g_zret (post := fun z M1 => z = (if (q_rdt T n).1 = true then 1 else 0) ∧ M1 167 2 = ((q_rdt T n).2.1 : Int) ∧ q_fx M M1 ∧ ((q_rdt T n).1 = true → q_tr M1 8 (q_rdt T n).2.2) ∧ (∀ j : Nat, j < 12 → 0 ≤ M1 12 j ∧ M1 12 j ≤ 1)) (z := 0) hx hb hr hG hlocks (Or.inl rfl) (⟨by rw [hq9]; rfl, by rw [hq9]; dsimp only; have e9 := h2_M12; omega, hfx_M12, (fun h9 => by rw [hq9] at h9; cases h9), hb8_M12⟩) dX4_readTrial_45
                · skip
                  replace hz_30 := hz_30.symm; subst hz_30; replace hM_30 := hM_30.symm; subst hM_30
                  refine z_if_eq (tgt := 52) hx hb (by decide) dX4_readTrial_33 (by decide) (fun c_33 => ?_) (fun c_33 => ?_)
                  · skip
                    refine lv_aload_n hx hb dX4_readTrial_52 rfl (lv_at hl 1 rfl) ?_
                    refine lv_bipush (v := iZ (114)) hx hb dX4_readTrial_53 (by decide) ?_
                    refine g_callV (b := 167) (As := [.int (iZ 114)]) (rest := []) ⟨hx, hb, hml, hown, hts⟩ (c_X4_readSign l G Mk hdm T n sk hn (by omega) ((hfx.1 168 (by decide) (by decide)).trans hTx) ((hfx.2 1 (by decide)).trans h1) h2k hch 114 (by omega)) (cwV 1 hts gX4_readTrial_X4_readSign rfl rfl rfl (by decide +kernel) ⟨Nat.le_of_ble_eq_true rfl, Nat.le_of_ble_eq_true rfl⟩) hG (g_recv hG (b := 167) (hdm 167 (by decide)) rfl rfl) rfl hl.1 rfl (Nat.le_of_ble_eq_true rfl) dX4_readTrial_55 ⟨Nat.zero_le _, Nat.zero_le _⟩ (fun z13 M14 H locs hp_55 hG => ?_)
                    rcases hp_55 with ⟨hy_55, hc_55, hz_55, hM_55⟩ | ⟨hc_55, hz_55, hM_55⟩
                    · skip
                      replace hz_55 := hz_55.symm; subst hz_55
                      have h2_M14 : M14 167 2 = (((sk + 1) : Nat) : Int) := by rw [hM_55, wr_eq]; omega
                      have hfx_M14 : q_fx M M14 := by rw [hM_55]; exact q_fx.wr hfx
                      have hv8_M14 : q_tr M14 8 Rk := by rw [hM_55]; exact tr_wr hRk (by omega)
                      refine z_if_eq (tgt := 69) hx hb (by decide) dX4_readTrial_58 (by decide) (fun c_58 => ?_) (fun c_58 => ?_)
                      · exfalso; omega
                      · skip
                        refine lv_aload_n hx hb dX4_readTrial_61 rfl (lv_at hl 1 rfl) ?_
                        refine lv_aload_n hx hb dX4_readTrial_62 rfl (lv_at hl 2 rfl) ?_
                        refine g_callV (b := 167) (As := [.ref (gad G 8)]) (rest := []) ⟨hx, hb, hml, hown, hts⟩ (c_X4_readRank l G M14 hdm T n (sk + 1) hn (by omega) ((hfx_M14.1 168 (by decide) (by decide)).trans hTx) ((hfx_M14.2 1 (by decide)).trans h1) h2_M14 hch Rk hv8_M14 hIk) (cwV 1 hts gX4_readTrial_X4_readRank rfl rfl rfl (by decide +kernel) ⟨Nat.le_of_ble_eq_true rfl, Nat.le_of_ble_eq_true rfl⟩) hG (g_recv hG (b := 167) (hdm 167 (by decide)) rfl rfl) rfl hl.1 rfl (Nat.le_of_ble_eq_true rfl) dX4_readTrial_63 ⟨Nat.zero_le _, Nat.zero_le _⟩ (fun z15 M16 H locs hp_63 hG => ?_)
                        obtain ⟨hz_63, h2_M16, hfx0_M16, hpg_M16, hb8_M16⟩ := hp_63
                        have hfx_M16 : q_fx M M16 := q_fx.tr hfx_M14 hfx0_M16
                        by_cases hc_63 : q_rn6 T n (sk + 1) = 6
                        · skip
                          rw [if_pos hc_63] at hz_63; replace hz_63 := hz_63.symm; subst hz_63
                          rw [hc_63] at h2_M16
                          have ht_M16 := hpg_M16 hc_63
                          have h2y_M16 : M16 167 2 = (((sk + 7) : Nat) : Int) := h2_M16.trans (by omega)
                          refine z_if_eq (tgt := 73) hx hb (by decide) dX4_readTrial_66 (by decide) (fun c_66 => ?_) (fun c_66 => ?_)
                          · exfalso; omega
                          · skip
                            refine lv_iconst (v := iZ 1) hx hb dX4_readTrial_69 rfl ?_
                            refine lv_goto (tgt := 74) hx hb dX4_readTrial_70 (by decide) ?_
                            have hq8 : q_rdt T n = q_tl T n sk Rk := hgo.trans (q_go_no (by first | exact Or.inl (by omega) | exact Or.inr hc_30))
                            have hq9 : q_rdt T n = (true, sk + 7, q_srk Rk (q_rkd T n (sk + 1))) := by rw [hq8]; unfold q_tl; rw [if_pos ⟨by omega, hc_55⟩, if_pos hc_63]
                            exact g_zret (post := fun z M1 => z = (if (q_rdt T n).1 = true then 1 else 0) ∧ M1 167 2 = ((q_rdt T n).2.1 : Int) ∧ q_fx M M1 ∧ ((q_rdt T n).1 = true → q_tr M1 8 (q_rdt T n).2.2) ∧ (∀ j : Nat, j < 12 → 0 ≤ M1 12 j ∧ M1 12 j ≤ 1)) (z := 1) hx hb hr hG hlocks (Or.inr rfl) (⟨by rw [hq9]; rfl, by rw [hq9]; dsimp only; have e9 := h2y_M16; omega, hfx_M16, (fun _ => by rw [hq9]; exact ht_M16), (fun j hj => tr_bo ht_M16 hj)⟩) dX4_readTrial_74
                        · skip
                          rw [if_neg hc_63] at hz_63; replace hz_63 := hz_63.symm; subst hz_63
                          refine z_if_eq (tgt := 73) hx hb (by decide) dX4_readTrial_66 (by decide) (fun c_66 => ?_) (fun c_66 => ?_)
                          · skip
                            refine lv_iconst (v := iZ 0) hx hb dX4_readTrial_73 rfl ?_
                            have hq8 : q_rdt T n = q_tl T n sk Rk := hgo.trans (q_go_no (by first | exact Or.inl (by omega) | exact Or.inr hc_30))
                            have hq9 : q_rdt T n = (false, sk + 1 + q_rn6 T n (sk + 1), Rk) := by rw [hq8]; unfold q_tl; rw [if_pos ⟨by omega, hc_55⟩, if_neg hc_63]
                            exact g_zret (post := fun z M1 => z = (if (q_rdt T n).1 = true then 1 else 0) ∧ M1 167 2 = ((q_rdt T n).2.1 : Int) ∧ q_fx M M1 ∧ ((q_rdt T n).1 = true → q_tr M1 8 (q_rdt T n).2.2) ∧ (∀ j : Nat, j < 12 → 0 ≤ M1 12 j ∧ M1 12 j ≤ 1)) (z := 0) hx hb hr hG hlocks (Or.inl rfl) (⟨by rw [hq9]; rfl, by rw [hq9]; dsimp only; have e9 := h2_M16; omega, hfx_M16, (fun h9 => by rw [hq9] at h9; cases h9), hb8_M16⟩) dX4_readTrial_74
                          · exfalso; omega
                    · skip
                      replace hz_55 := hz_55.symm; subst hz_55; replace hM_55 := hM_55.symm; subst hM_55
                      refine z_if_eq (tgt := 69) hx hb (by decide) dX4_readTrial_58 (by decide) (fun c_58 => ?_) (fun c_58 => ?_)
                      · skip
                        refine lv_iconst (v := iZ 1) hx hb dX4_readTrial_69 rfl ?_
                        refine lv_goto (tgt := 74) hx hb dX4_readTrial_70 (by decide) ?_
                        have hq8 : q_rdt T n = q_tl T n sk Rk := hgo.trans (q_go_no (by first | exact Or.inl (by omega) | exact Or.inr hc_30))
                        have hq9 : q_rdt T n = (true, sk, Rk) := by rw [hq8]; unfold q_tl; rw [if_neg hc_55]
                        exact g_zret (post := fun z M1 => z = (if (q_rdt T n).1 = true then 1 else 0) ∧ M1 167 2 = ((q_rdt T n).2.1 : Int) ∧ q_fx M M1 ∧ ((q_rdt T n).1 = true → q_tr M1 8 (q_rdt T n).2.2) ∧ (∀ j : Nat, j < 12 → 0 ≤ M1 12 j ∧ M1 12 j ≤ 1)) (z := 1) hx hb hr hG hlocks (Or.inr rfl) (⟨by rw [hq9]; rfl, by rw [hq9]; dsimp only; have e9 := h2k; omega, hfx, (fun _ => by rw [hq9]; exact hRk), (fun j hj => tr_bo hRk hj)⟩) dX4_readTrial_74
                      · exfalso; omega
                  · exfalso; omega
          exact L_21 _ 0 4 (q_sun q_new (q_sv T n 1)) 0 M4 rfl (by omega) (q_sn_ok hc_11).2 (inv_sun q_new_inv rfl (q_sn_ok hc_11).1) rfl (by unfold q_rdt; rw [if_pos ⟨by omega, hc_3⟩, if_pos hc_11]) h2y_M4 ht_M4 hfx_M4 (Nat.lt_succ_self _) _ _ _ hG (lv_sub hl [0, 1, 2] rfl)
        · exfalso; omega
      · skip
        rw [if_neg hc_11] at hz_11; replace hz_11 := hz_11.symm; subst hz_11
        refine z_if_ne (tgt := 19) hx hb (by decide) dX4_readTrial_14 (by decide) (fun c_14 => ?_) (fun c_14 => ?_)
        · exfalso; omega
        · skip
          refine lv_iconst (v := iZ 0) hx hb dX4_readTrial_17 rfl ?_
          have hq9 : q_rdt T n = (false, 1 + q_sn T n 1, q_new) := by unfold q_rdt; rw [if_pos ⟨by omega, hc_3⟩, if_neg hc_11]
          exact g_zret (post := fun z M1 => z = (if (q_rdt T n).1 = true then 1 else 0) ∧ M1 167 2 = ((q_rdt T n).2.1 : Int) ∧ q_fx M M1 ∧ ((q_rdt T n).1 = true → q_tr M1 8 (q_rdt T n).2.2) ∧ (∀ j : Nat, j < 12 → 0 ≤ M1 12 j ∧ M1 12 j ≤ 1)) (z := 0) hx hb hr hG hlocks (Or.inl rfl) (⟨by rw [hq9]; rfl, by rw [hq9]; dsimp only; have e9 := h2_M4; omega, hfx_M4, (fun h9 => by rw [hq9] at h9; cases h9), hb8_M4⟩) dX4_readTrial_18
  · skip
    replace hz_3 := hz_3.symm; subst hz_3; replace hM_3 := hM_3.symm; subst hM_3
    refine z_if_eq (tgt := 17) hx hb (by decide) dX4_readTrial_6 (by decide) (fun c_6 => ?_) (fun c_6 => ?_)
    · skip
      refine lv_iconst (v := iZ 0) hx hb dX4_readTrial_17 rfl ?_
      have hq9 : q_rdt T n = (false, 0, q_new) := by unfold q_rdt; rw [if_neg (by omega)]
      exact g_zret (post := fun z M1 => z = (if (q_rdt T n).1 = true then 1 else 0) ∧ M1 167 2 = ((q_rdt T n).2.1 : Int) ∧ q_fx M M1 ∧ ((q_rdt T n).1 = true → q_tr M1 8 (q_rdt T n).2.2) ∧ (∀ j : Nat, j < 12 → 0 ≤ M1 12 j ∧ M1 12 j ≤ 1)) (z := 0) hx hb hr hG hlocks (Or.inl rfl) (⟨by rw [hq9]; rfl, by rw [hq9]; dsimp only; have e9 := h2; omega, (q_fx.rf M), (fun h9 => by rw [hq9] at h9; cases h9), (fun j hj => tr_bo hR hj)⟩) dX4_readTrial_18
    · exfalso; omega
set_option maxHeartbeats 4000000 in
set_option maxRecDepth 100000 in
theorem c_X4_readInto (l : Launch) (G : gG) (M : Nat → Nat → Int) (hdm : ∀ k, k < 169 → gdm G k) (T : Nat → Int) (n : Nat) (hn : n ≤ 70) (hTx : M 168 = T) (h1 : M 167 1 = (n : Int)) (hch : ∀ j, j < n → 0 ≤ T j ∧ T j ≤ 255) (hbo : ∀ j : Nat, j < 12 → 0 ≤ M 12 j ∧ M 12 j ≤ 1) : gMi l yX4_readInto wsX4_readInto ({ frames := 5, cells := 0, slots := 0, locals := 111 } : Room) G M [.ref (gad G 167), .ref (gad G 8)] (fun z M1 => z = q_err T n ∧ q_fx M M1 ∧ ((q_rdt T n).1 = true → q_tr M1 8 (q_rdt T n).2.2) ∧ (∀ j : Nat, j < 12 → 0 ≤ M1 12 j ∧ M1 12 j ≤ 1)) := by
  refine gMi_of (cc := cX4_readInto) (maxL := 2) (ret := some .int) (by decide) rfl (Nat.le_of_ble_eq_true rfl) ?_
  intro p e s m below meth c ls hx hb hr hml hown hts hlocks hl hG
  have hown : s.vm.findClass RX4 = some m.cls := hown
  have hl : lv_has ls 2 [(0, .ref (gad G 167)), (1, .ref (gad G 8))] := hl
  have hinX4 : ∀ w ∈ u_ws RX4 TX4 3, w ∈ wsX4_readInto := by decide +kernel
  have f15 := hts (.fieldLink RX4 15 "DogTrials$TrialText" "length" "I") (by decide +kernel)
  have f24 := hts (.fieldLink RX4 24 "DogTrials$TrialText" "at" "I") (by decide +kernel)
  have hsz := q_rdt_in T n
  refine lv_aload_n hx hb dX4_readInto_0 rfl (lv_at hl 1 rfl) ?_
  refine g_vcallV (b := 8) (As := []) (rest := []) ⟨hx, hb, hml, hown, hts⟩ (c_X3_makeNew l G M 8 ⟨by decide, by decide⟩ (fun r hr => hdm _ (by omega))) (cwV 0 hts gX4_readInto_X3_makeNew rfl rfl rfl (by decide +kernel) ⟨Nat.le_of_ble_eq_true rfl, Nat.le_of_ble_eq_true rfl⟩) hG (g_recv hG (b := 8) (hdm 8 (by decide)) (gE_T ⟨by decide, by decide⟩ G _) rfl) rfl hl.1 rfl (Nat.le_of_ble_eq_true rfl) dX4_readInto_1 ⟨Nat.zero_le _, Nat.zero_le _⟩ (fun M2 H locs hp_1 hG => ?_)
  obtain ⟨hm1_M2, hm2_M2, hm3_M2, hmo_M2⟩ := hp_1
  have hmn_M2 := And.intro hm1_M2 (And.intro hm2_M2 hm3_M2)
  refine lv_aload_n hx hb dX4_readInto_4 rfl (lv_at hl 0 rfl) ?_
  refine lv_iconst (v := iZ 0) hx hb dX4_readInto_5 rfl ?_
  refine g_put (F := (oS G)) hx hb hts hinX4 tyX4 tyX4_ok nmX4 hown hG (o := 167) (hdm 167 (by decide)) (fun f => rfl) rfl 2 (by decide) f24 (fun _ h => h) rfl rfl (fun _ => Nat.lt_of_lt_of_le (by decide) (Nat.le_refl 3)) (fun _ => rfl) dX4_readInto_6 (fun H locs hG => ?_)
  obtain ⟨M3, hM3⟩ : ∃ X, X = (q_wr M2 167 2 0) := ⟨_, rfl⟩
  rw [← hM3] at hG
  have htn : q_tr M3 8 q_new := by rw [hM3]; exact tr_wr (q_tr_new hmn_M2 hbo) (by decide)
  have hTx9 : M3 168 = T := by rw [hM3, wr_off _ _ _ (by decide), hmo_M2 168 (by decide)]; exact hTx
  have h19 : M3 167 1 = (n : Int) := by rw [hM3, wr_ne _ _ _ (by decide), hmo_M2 167 (by decide)]; exact h1
  have h29 : M3 167 2 = ((0 : Nat) : Int) := by rw [hM3, wr_eq]; rfl
  have hfx9 : q_fx M M3 := by rw [hM3]; exact q_fx.wr (q_fx.off (q_fx.rf M) hmo_M2)
  skip
  refine lv_aload_n hx hb dX4_readInto_9 rfl (lv_at hl 0 rfl) ?_
  refine lv_aload_n hx hb dX4_readInto_10 rfl (lv_at hl 1 rfl) ?_
  refine g_callV (b := 167) (As := [.ref (gad G 8)]) (rest := []) ⟨hx, hb, hml, hown, hts⟩ (c_X4_readTrial l G M3 hdm T n hn hTx9 h19 h29 hch htn) (cwV 1 hts gX4_readInto_X4_readTrial rfl rfl rfl (by decide +kernel) ⟨Nat.le_of_ble_eq_true rfl, Nat.le_of_ble_eq_true rfl⟩) hG (g_recv hG (b := 167) (hdm 167 (by decide)) rfl rfl) rfl hl.1 rfl (Nat.le_of_ble_eq_true rfl) dX4_readInto_11 ⟨Nat.zero_le _, Nat.zero_le _⟩ (fun z4 M5 H locs hp_11 hG => ?_)
  obtain ⟨hz_11, h2_M5, hfx_M5, hpg_M5, hb8_M5⟩ := hp_11; replace hz_11 := hz_11.symm; subst hz_11
  refine z_ifP_ne (tgt := 22) hx hb dX4_readInto_14 (by decide) (fun c_14 => ?_) (fun c_14 => ?_)
  · skip
    refine lv_aload_n hx hb dX4_readInto_22 rfl (lv_at hl 0 rfl) ?_
    refine g_geti (z := ((q_rdt T n).2.1 : Int)) hx hb hts hinX4 hown hG (o := 167) (hdm 167 (by decide)) rfl rfl 2 (by decide) f24 (fun _ h => h) rfl h2_M5 dX4_readInto_23 ?_
    refine lv_aload_n hx hb dX4_readInto_26 rfl (lv_at hl 0 rfl) ?_
    refine g_geti (z := (n : Int)) hx hb hts hinX4 hown hG (o := 167) (hdm 167 (by decide)) rfl rfl 1 (by decide) f15 (fun _ h => h) rfl ((hfx_M5.2 1 (by decide)).trans h19) dX4_readInto_27 ?_
    refine z_icmp_ge (tgt := 40) hx hb (by omega) (by omega) dX4_readInto_30 (by decide) (fun c_30 => ?_) (fun c_30 => ?_)
    · skip
      refine lv_bipush (v := iZ (-9)) hx hb dX4_readInto_40 (by decide) ?_
      exact g_iret (post := fun z M1 => z = q_err T n ∧ q_fx M M1 ∧ ((q_rdt T n).1 = true → q_tr M1 8 (q_rdt T n).2.2) ∧ (∀ j : Nat, j < 12 → 0 ≤ M1 12 j ∧ M1 12 j ≤ 1)) (z := (-9)) hx hb hr hG hlocks (⟨by unfold q_err; first | (rw [if_pos ⟨by assumption, by omega⟩]; done) | (rw [if_neg (fun h9 => by first | exact absurd h9.1 (by assumption) | omega)]; done), q_fx.tr hfx9 hfx_M5, hpg_M5, hb8_M5⟩) dX4_readInto_42
    · skip
      refine lv_aload_n hx hb dX4_readInto_33 rfl (lv_at hl 0 rfl) ?_
      refine g_geti (z := ((q_rdt T n).2.1 : Int)) hx hb hts hinX4 hown hG (o := 167) (hdm 167 (by decide)) rfl rfl 2 (by decide) f24 (fun _ h => h) rfl h2_M5 dX4_readInto_34 ?_
      refine lv_goto (tgt := 42) hx hb dX4_readInto_37 (by decide) ?_
      exact g_iret (post := fun z M1 => z = q_err T n ∧ q_fx M M1 ∧ ((q_rdt T n).1 = true → q_tr M1 8 (q_rdt T n).2.2) ∧ (∀ j : Nat, j < 12 → 0 ≤ M1 12 j ∧ M1 12 j ≤ 1)) (z := ((q_rdt T n).2.1 : Int)) hx hb hr hG hlocks (⟨by unfold q_err; first | (rw [if_pos ⟨by assumption, by omega⟩]; done) | (rw [if_neg (fun h9 => by first | exact absurd h9.1 (by assumption) | omega)]; done), q_fx.tr hfx9 hfx_M5, hpg_M5, hb8_M5⟩) dX4_readInto_42
  · skip
    refine lv_aload_n hx hb dX4_readInto_17 rfl (lv_at hl 0 rfl) ?_
    refine g_geti (z := ((q_rdt T n).2.1 : Int)) hx hb hts hinX4 hown hG (o := 167) (hdm 167 (by decide)) rfl rfl 2 (by decide) f24 (fun _ h => h) rfl h2_M5 dX4_readInto_18 ?_
    exact g_iret (post := fun z M1 => z = q_err T n ∧ q_fx M M1 ∧ ((q_rdt T n).1 = true → q_tr M1 8 (q_rdt T n).2.2) ∧ (∀ j : Nat, j < 12 → 0 ≤ M1 12 j ∧ M1 12 j ≤ 1)) (z := ((q_rdt T n).2.1 : Int)) hx hb hr hG hlocks (⟨by unfold q_err; first | (rw [if_pos ⟨by assumption, by omega⟩]; done) | (rw [if_neg (fun h9 => by first | exact absurd h9.1 (by assumption) | omega)]; done), q_fx.tr hfx9 hfx_M5, hpg_M5, hb8_M5⟩) dX4_readInto_21
