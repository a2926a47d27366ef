set_option maxHeartbeats 8000000 in
set_option maxRecDepth 100000 in
theorem c_X2_succeeds (l : Launch) (G : gG) (M : Nat → Nat → Int) (hdm : ∀ k, k < 169 → gdm G k) (R : Nat → Int) (hR : q_tr M 16 R) (hI : q_inv R) (h t : Int) (hh : 0 ≤ h ∧ h ≤ 9) (ht : 0 ≤ t ∧ t < 1000) : gMi l yX2_succeeds wsX2_succeeds ({ frames := 4, cells := 0, slots := 0, locals := 96 } : Room) G M [.ref (gad G 163), .int (iZ (1000 * h + t))] (fun z M1 => z = (if q_doz R h t = true then 1 else 0) ∧ (q_doz R h t = true → q_tr M1 16 (q_dop R h t)) ∧ q_rh M M1) := by
  refine gMi_of (cc := cX2_succeeds) (maxL := 5) (ret := some .boolean) (by decide) rfl (Nat.le_of_ble_eq_true rfl) ?_
  intro p e s m below meth c ls hx hb hr hml hown hts hlocks hl hG
  have hown : s.vm.findClass RX2 = some m.cls := hown
  have hl : lv_has ls 5 [(0, .ref (gad G 163)), (1, .int (iZ (1000 * h + t)))] := hl
  have hinX2 : ∀ w ∈ u_ws RX2 TX2 3, w ∈ wsX2_succeeds := by decide +kernel
  have hinX3 : ∀ w ∈ u_ws RX3 TX3 15, w ∈ wsX2_succeeds := by decide +kernel
  have f12 := hts (.fieldLink RX2 12 "DogTrials$Rehearsal" "copy" "LDogTrials$Trial;") (by decide +kernel)
  have f62 := hts (.fieldLink RX2 62 "DogTrials$Trial" "minute" "I") (by decide +kernel)
  have hnd := hI.1
  have hob := q_ob_in R
  have hms := hI.2.2.2.1
  have hs6 := hI.2.2.2.2.1
  refine lv_iload_n hx hb dX2_succeeds_0 rfl (lv_at hl 1 rfl) ?_
  refine lv_bipush (v := iZ (100)) hx hb dX2_succeeds_1 (by decide) ?_
  refine z_idiv (z := ((1000 * h + t) / 100)) hx hb (by omega) (by omega) rfl dX2_succeeds_3 ?_
  refine lv_bipush (v := iZ (10)) hx hb dX2_succeeds_4 (by decide) ?_
  refine z_irem (z := (t / 100)) hx hb (by omega) (by omega) (by omega) dX2_succeeds_6 ?_
  refine lv_istore_n (lv' := [(2, .int (iZ (t / 100))), (0, .ref (gad G 163)), (1, .int (iZ (1000 * h + t)))]) hx hb dX2_succeeds_7 rfl hl (by decide) rfl (fun ls hl => ?_)
  refine lv_iload_n hx hb dX2_succeeds_8 rfl (lv_at hl 2 rfl) ?_
  refine lv_bipush (v := iZ (100)) hx hb dX2_succeeds_9 (by decide) ?_
  refine z_irem (z := (t % 100)) hx hb (by omega) (by omega) (by omega) dX2_succeeds_11 ?_
  refine lv_istore_n (lv' := [(3, .int (iZ (t % 100))), (2, .int (iZ (t / 100))), (0, .ref (gad G 163)), (1, .int (iZ (1000 * h + t)))]) hx hb dX2_succeeds_12 rfl hl (by decide) rfl (fun ls hl => ?_)
  refine lv_iload_n hx hb dX2_succeeds_13 rfl (lv_at hl 3 rfl) ?_
  refine lv_sipush (v := iZ (1000)) hx hb dX2_succeeds_14 (by decide) ?_
  refine z_irem (z := t) hx hb (by omega) (by omega) (by omega) dX2_succeeds_17 ?_
  refine lv_istore (lv' := [(4, .int (iZ t)), (3, .int (iZ (t % 100))), (2, .int (iZ (t / 100))), (0, .ref (gad G 163)), (1, .int (iZ (1000 * h + t)))]) hx hb dX2_succeeds_18 hl (by decide) rfl (fun ls hl => ?_)
  refine lv_iload_n hx hb dX2_succeeds_20 rfl (lv_at hl 4 rfl) ?_
  refine lv_sipush (v := iZ (1000)) hx hb dX2_succeeds_21 (by decide) ?_
  refine z_idiv (z := h) hx hb (by omega) (by omega) (by omega) dX2_succeeds_24 ?_
  have hsw_25 : (iZ h).toInt = h := iZ_int (by omega)
  by_cases c_25 : h < 1 ∨ 9 < h
  · refine lv_tableOut (tgt := 229) hx hb dX2_succeeds_25 (by rw [hsw_25]; exact c_25) (by decide) ?_
    refine lv_iconst (v := iZ 0) hx hb dX2_succeeds_229 rfl ?_
    have hfr_0 : q_rh M M := q_rh.rf M
    have hfr := hfr_0
    exact g_zret (post := fun z M1 => z = (if q_doz R h t = true then 1 else 0) ∧ (q_doz R h t = true → q_tr M1 16 (q_dop R h t)) ∧ q_rh M M1) (z := 0) hx hb hr hG hlocks (Or.inl rfl) (⟨by rw [q_doz_0 _ _ _ c_25]; rfl, fun h9 => absurd h9 (by rw [q_doz_0 _ _ _ c_25]; decide), hfr⟩) dX2_succeeds_230
  · rcases (show h = 1 ∨ 1 < h by omega) with e_25 | e_25
    · skip
      refine lv_tableIn (off := 51) (tgt := 76) hx hb dX2_succeeds_25 (by rw [hsw_25]; omega) (by rw [hsw_25]; omega) (by rw [hsw_25, e_25]; rfl) (by decide) ?_
      refine lv_aload_n hx hb dX2_succeeds_76 rfl (lv_at hl 3 rfl) ?_
      refine lv_iload_n hx hb dX2_succeeds_77 rfl (lv_at hl 2 rfl) ?_
      refine lv_iload_n hx hb dX2_succeeds_78 rfl (lv_at hl 1 rfl) ?_
      refine g_callV (b := 163) (As := [.int (iZ (t / 100)), .int (iZ (t % 100))]) (rest := []) ⟨hx, hb, hml, hown, hts⟩ (c_X2_letFirstRun l G M hdm R hR hI (t / 100) (t % 100) (by omega) (by omega)) (cwV 2 hts gX2_succeeds_X2_letFirstRun rfl rfl rfl (by decide +kernel) ⟨Nat.le_of_ble_eq_true rfl, Nat.le_of_ble_eq_true rfl⟩) hG (g_recv hG (b := 163) (hdm 163 (by decide)) rfl rfl) rfl hl.1 rfl (Nat.le_of_ble_eq_true rfl) dX2_succeeds_79 ⟨Nat.zero_le _, Nat.zero_le _⟩ (fun z1 M2 H locs hp_79 hG => ?_)
      obtain ⟨hz_79, hpg_M2, hrh_M2⟩ := hp_79; replace hz_79 := hz_79.symm; subst hz_79
      have hfr_0 : q_rh M M := q_rh.rf M
      have hfr_M2 : q_rh M M2 := q_rh.tr hfr_0 hrh_M2
      have hfr := hfr_M2
      exact g_zret (post := fun z M1 => z = (if q_doz R h t = true then 1 else 0) ∧ (q_doz R h t = true → q_tr M1 16 (q_dop R h t)) ∧ q_rh M M1) (z := (if (1 ≤ (t % 100) ∧ (t % 100) ≤ 30 ∧ q_ob R = 0 ∧ q_rz R (t % 100) = 1) then 1 else 0)) hx hb hr hG hlocks (by first | omega | (split <;> simp)) (⟨by by_cases h9 : (1 ≤ (t % 100) ∧ (t % 100) ≤ 30 ∧ q_ob R = 0 ∧ q_rz R (t % 100) = 1); (rw [if_pos h9, if_pos (show q_doz R h t = true by rw [e_25, q_doz_1]; exact decide_eq_true (by omega))]); (rw [if_neg h9, if_neg (fun h8 => h9 (by rw [e_25, q_doz_1] at h8; have h7 := of_decide_eq_true h8; omega))]), fun h9 => by rw [e_25, q_doz_1] at h9; rw [e_25, q_dop_1]; exact hpg_M2 (of_decide_eq_true h9), hfr⟩) dX2_succeeds_82
    · rcases (show h = 2 ∨ 2 < h by omega) with e_25 | e_25
      · skip
        refine lv_tableIn (off := 58) (tgt := 83) hx hb dX2_succeeds_25 (by rw [hsw_25]; omega) (by rw [hsw_25]; omega) (by rw [hsw_25, e_25]; rfl) (by decide) ?_
        refine lv_iload_n hx hb dX2_succeeds_83 rfl (lv_at hl 2 rfl) ?_
        refine z_if_ne (tgt := 99) hx hb (by omega) dX2_succeeds_84 (by decide) (fun c_84 => ?_) (fun c_84 => ?_)
        · skip
          refine lv_iconst (v := iZ 0) hx hb dX2_succeeds_99 rfl ?_
          have hfr_0 : q_rh M M := q_rh.rf M
          have hfr := hfr_0
          exact g_zret (post := fun z M1 => z = (if q_doz R h t = true then 1 else 0) ∧ (q_doz R h t = true → q_tr M1 16 (q_dop R h t)) ∧ q_rh M M1) (z := 0) hx hb hr hG hlocks (Or.inl rfl) (⟨by first | (rw [if_pos (show q_doz R h t = true by rw [e_25, q_doz_2]; exact decide_eq_true (by omega))]; done) | (rw [if_neg (show ¬ q_doz R h t = true by rw [e_25, q_doz_2]; exact fun h9 => by have h8 := of_decide_eq_true h9; omega)]; done), fun h9 => by exfalso; rw [e_25, q_doz_2] at h9; have h8 := of_decide_eq_true h9; omega, hfr⟩) dX2_succeeds_100
        · skip
          refine lv_aload_n hx hb dX2_succeeds_87 rfl (lv_at hl 3 rfl) ?_
          refine lv_iload_n hx hb dX2_succeeds_88 rfl (lv_at hl 1 rfl) ?_
          refine g_callV (b := 163) (As := [.int (iZ (t % 100))]) (rest := []) ⟨hx, hb, hml, hown, hts⟩ (c_X2_takeOut l G M hdm R hR hI (t % 100) (by omega)) (cwV 1 hts gX2_succeeds_X2_takeOut rfl rfl rfl (by decide +kernel) ⟨Nat.le_of_ble_eq_true rfl, Nat.le_of_ble_eq_true rfl⟩) hG (g_recv hG (b := 163) (hdm 163 (by decide)) rfl rfl) rfl hl.1 rfl (Nat.le_of_ble_eq_true rfl) dX2_succeeds_89 ⟨Nat.zero_le _, Nat.zero_le _⟩ (fun z3 M4 H locs hp_89 hG => ?_)
          obtain ⟨hz_89, ht_M4, hrh_M4⟩ := hp_89; replace hz_89 := hz_89.symm; subst hz_89
          refine z_ifP_eq (tgt := 99) hx hb dX2_succeeds_92 (by decide) (fun c_92 => ?_) (fun c_92 => ?_)
          · skip
            refine lv_iconst (v := iZ 0) hx hb dX2_succeeds_99 rfl ?_
            have hfr_0 : q_rh M M := q_rh.rf M
            have hfr_M4 : q_rh M M4 := q_rh.tr hfr_0 hrh_M4
            have hfr := hfr_M4
            exact g_zret (post := fun z M1 => z = (if q_doz R h t = true then 1 else 0) ∧ (q_doz R h t = true → q_tr M1 16 (q_dop R h t)) ∧ q_rh M M1) (z := 0) hx hb hr hG hlocks (Or.inl rfl) (⟨by first | (rw [if_pos (show q_doz R h t = true by rw [e_25, q_doz_2]; exact decide_eq_true (by omega))]; done) | (rw [if_neg (show ¬ q_doz R h t = true by rw [e_25, q_doz_2]; exact fun h9 => by have h8 := of_decide_eq_true h9; omega)]; done), fun h9 => by rw [e_25, q_doz_2] at h9; have h8 := of_decide_eq_true h9; rw [e_25, q_dop_2]; have h7 := ht_M4; first | (rw [if_pos (by omega)] at h7; exact h7) | (exfalso; omega), hfr⟩) dX2_succeeds_100
          · skip
            refine lv_iconst (v := iZ 1) hx hb dX2_succeeds_95 rfl ?_
            refine lv_goto (tgt := 100) hx hb dX2_succeeds_96 (by decide) ?_
            have hfr_0 : q_rh M M := q_rh.rf M
            have hfr_M4 : q_rh M M4 := q_rh.tr hfr_0 hrh_M4
            have hfr := hfr_M4
            exact g_zret (post := fun z M1 => z = (if q_doz R h t = true then 1 else 0) ∧ (q_doz R h t = true → q_tr M1 16 (q_dop R h t)) ∧ q_rh M M1) (z := 1) hx hb hr hG hlocks (Or.inr rfl) (⟨by first | (rw [if_pos (show q_doz R h t = true by rw [e_25, q_doz_2]; exact decide_eq_true (by omega))]; done) | (rw [if_neg (show ¬ q_doz R h t = true by rw [e_25, q_doz_2]; exact fun h9 => by have h8 := of_decide_eq_true h9; omega)]; done), fun h9 => by rw [e_25, q_doz_2] at h9; have h8 := of_decide_eq_true h9; rw [e_25, q_dop_2]; have h7 := ht_M4; first | (rw [if_pos (by omega)] at h7; exact h7) | (exfalso; omega), hfr⟩) dX2_succeeds_100
      · rcases (show h = 3 ∨ 3 < h by omega) with e_25 | e_25
        · skip
          refine lv_tableIn (off := 76) (tgt := 101) hx hb dX2_succeeds_25 (by rw [hsw_25]; omega) (by rw [hsw_25]; omega) (by rw [hsw_25, e_25]; rfl) (by decide) ?_
          refine lv_aload_n hx hb dX2_succeeds_101 rfl (lv_at hl 3 rfl) ?_
          refine lv_iload_n hx hb dX2_succeeds_102 rfl (lv_at hl 1 rfl) ?_
          refine lv_iload_n hx hb dX2_succeeds_103 rfl (lv_at hl 2 rfl) ?_
          refine g_callV (b := 163) (As := [.int (iZ (t % 100)), .int (iZ (t / 100))]) (rest := []) ⟨hx, hb, hml, hown, hts⟩ (c_X2_tellInterference l G M hdm R hR hI (t % 100) (by omega) (t / 100) (by omega)) (cwV 2 hts gX2_succeeds_X2_tellInterference rfl rfl rfl (by decide +kernel) ⟨Nat.le_of_ble_eq_true rfl, Nat.le_of_ble_eq_true rfl⟩) hG (g_recv hG (b := 163) (hdm 163 (by decide)) rfl rfl) rfl hl.1 rfl (Nat.le_of_ble_eq_true rfl) dX2_succeeds_104 ⟨Nat.zero_le _, Nat.zero_le _⟩ (fun z5 M6 H locs hp_104 hG => ?_)
          obtain ⟨hz_104, ht_M6, hrh_M6⟩ := hp_104; replace hz_104 := hz_104.symm; subst hz_104
          have hfr_0 : q_rh M M := q_rh.rf M
          have hfr_M6 : q_rh M M6 := q_rh.tr hfr_0 hrh_M6
          have hfr := hfr_M6
          exact g_zret (post := fun z M1 => z = (if q_doz R h t = true then 1 else 0) ∧ (q_doz R h t = true → q_tr M1 16 (q_dop R h t)) ∧ q_rh M M1) (z := (if (0 ≤ (t % 100) ∧ (t % 100) < q_nd R ∧ 0 ≤ (t / 100) ∧ (t / 100) ≤ 5 ∧ q_sa R ((t % 100)).toNat = 1) then 1 else 0)) hx hb hr hG hlocks (by first | omega | (split <;> simp)) (⟨by by_cases h9 : (0 ≤ (t % 100) ∧ (t % 100) < q_nd R ∧ 0 ≤ (t / 100) ∧ (t / 100) ≤ 5 ∧ q_sa R ((t % 100)).toNat = 1); (rw [if_pos h9, if_pos (show q_doz R h t = true by rw [e_25, q_doz_3]; exact decide_eq_true (by omega))]); (rw [if_neg h9, if_neg (fun h8 => h9 (by rw [e_25, q_doz_3] at h8; have h7 := of_decide_eq_true h8; omega))]), fun h9 => by rw [e_25, q_doz_3] at h9; have h8 := of_decide_eq_true h9; rw [e_25, q_dop_3]; have h7 := ht_M6; first | (rw [if_pos (by omega)] at h7; exact h7) | (exfalso; omega), hfr⟩) dX2_succeeds_107
        · rcases (show h = 4 ∨ 4 < h by omega) with e_25 | e_25
          · skip
            refine lv_tableIn (off := 83) (tgt := 108) hx hb dX2_succeeds_25 (by rw [hsw_25]; omega) (by rw [hsw_25]; omega) (by rw [hsw_25, e_25]; rfl) (by decide) ?_
            refine lv_aload_n hx hb dX2_succeeds_108 rfl (lv_at hl 3 rfl) ?_
            refine lv_iload hx hb dX2_succeeds_109 (lv_at hl 0 rfl) ?_
            refine g_callV (b := 163) (As := [.int (iZ t)]) (rest := []) ⟨hx, hb, hml, hown, hts⟩ (c_X2_startDay l G M hdm R hR hI t (by omega)) (cwV 1 hts gX2_succeeds_X2_startDay rfl rfl rfl (by decide +kernel) ⟨Nat.le_of_ble_eq_true rfl, Nat.le_of_ble_eq_true rfl⟩) hG (g_recv hG (b := 163) (hdm 163 (by decide)) rfl rfl) rfl hl.1 rfl (Nat.le_of_ble_eq_true rfl) dX2_succeeds_111 ⟨Nat.zero_le _, Nat.zero_le _⟩ (fun z7 M8 H locs hp_111 hG => ?_)
            obtain ⟨hz_111, ht_M8, hrh_M8⟩ := hp_111; replace hz_111 := hz_111.symm; subst hz_111
            have hfr_0 : q_rh M M := q_rh.rf M
            have hfr_M8 : q_rh M M8 := q_rh.tr hfr_0 hrh_M8
            have hfr := hfr_M8
            exact g_zret (post := fun z M1 => z = (if q_doz R h t = true then 1 else 0) ∧ (q_doz R h t = true → q_tr M1 16 (q_dop R h t)) ∧ q_rh M M1) (z := (if (60 ≤ t ∧ t ≤ 600) then 1 else 0)) hx hb hr hG hlocks (by first | omega | (split <;> simp)) (⟨by by_cases h9 : (60 ≤ t ∧ t ≤ 600); (rw [if_pos h9, if_pos (show q_doz R h t = true by rw [e_25, q_doz_4]; exact decide_eq_true (by omega))]); (rw [if_neg h9, if_neg (fun h8 => h9 (by rw [e_25, q_doz_4] at h8; have h7 := of_decide_eq_true h8; omega))]), fun h9 => by rw [e_25, q_doz_4] at h9; have h8 := of_decide_eq_true h9; rw [e_25, q_dop_4]; have h7 := ht_M8; first | (rw [if_pos (by omega)] at h7; exact h7) | (exfalso; omega), hfr⟩) dX2_succeeds_114
          · rcases (show h = 5 ∨ 5 < h by omega) with e_25 | e_25
            · skip
              refine lv_tableIn (off := 90) (tgt := 115) hx hb dX2_succeeds_25 (by rw [hsw_25]; omega) (by rw [hsw_25]; omega) (by rw [hsw_25, e_25]; rfl) (by decide) ?_
              refine lv_iload_n hx hb dX2_succeeds_115 rfl (lv_at hl 2 rfl) ?_
              refine z_if_ne (tgt := 138) hx hb (by omega) dX2_succeeds_116 (by decide) (fun c_116 => ?_) (fun c_116 => ?_)
              · skip
                refine lv_iconst (v := iZ 0) hx hb dX2_succeeds_138 rfl ?_
                have hfr_0 : q_rh M M := q_rh.rf M
                have hfr := hfr_0
                exact g_zret (post := fun z M1 => z = (if q_doz R h t = true then 1 else 0) ∧ (q_doz R h t = true → q_tr M1 16 (q_dop R h t)) ∧ q_rh M M1) (z := 0) hx hb hr hG hlocks (Or.inl rfl) (⟨by first | (rw [if_pos (show q_doz R h t = true by rw [e_25, q_doz_5]; exact decide_eq_true (by omega))]; done) | (rw [if_neg (show ¬ q_doz R h t = true by rw [e_25, q_doz_5]; exact fun h9 => by have h8 := of_decide_eq_true h9; omega)]; done), fun _ => by rw [e_25, q_dop_5 _ _ _ (by omega)]; exact hR, hfr⟩) dX2_succeeds_139
              · skip
                refine lv_aload_n hx hb dX2_succeeds_119 rfl (lv_at hl 3 rfl) ?_
                refine lv_iload_n hx hb dX2_succeeds_120 rfl (lv_at hl 4 rfl) ?_
                refine lv_bipush (v := iZ (10)) hx hb dX2_succeeds_121 (by decide) ?_
                refine z_irem (z := (t % 100 % 10)) hx hb (by omega) (by omega) (by omega) dX2_succeeds_123 ?_
                refine lv_iload_n hx hb dX2_succeeds_124 rfl (lv_at hl 1 rfl) ?_
                refine lv_bipush (v := iZ (10)) hx hb dX2_succeeds_125 (by decide) ?_
                refine z_idiv (z := (t % 100 / 10)) hx hb (by omega) (by omega) rfl dX2_succeeds_127 ?_
                refine g_callV (b := 163) (As := [.int (iZ (t % 100 % 10)), .int (iZ (t % 100 / 10))]) (rest := []) ⟨hx, hb, hml, hown, hts⟩ (c_X2_isInOrder l G M hdm R hR hI (t % 100 % 10) (by omega) (t % 100 / 10) (by omega)) (cwV 2 hts gX2_succeeds_X2_isInOrder rfl rfl rfl (by decide +kernel) ⟨Nat.le_of_ble_eq_true rfl, Nat.le_of_ble_eq_true rfl⟩) hG (g_recv hG (b := 163) (hdm 163 (by decide)) rfl rfl) rfl hl.1 rfl (Nat.le_of_ble_eq_true rfl) dX2_succeeds_128 ⟨Nat.zero_le _, Nat.zero_le _⟩ (fun z9 M10 H locs hp_128 hG => ?_)
                obtain ⟨hz_128, ht_M10, hrh_M10⟩ := hp_128; replace hz_128 := hz_128.symm; subst hz_128
                have hat := q_atk_in hI (t % 100 / 10)
                refine z_ifP_eq (tgt := 138) hx hb dX2_succeeds_131 (by decide) (fun c_131 => ?_) (fun c_131 => ?_)
                · skip
                  refine lv_iconst (v := iZ 0) hx hb dX2_succeeds_138 rfl ?_
                  have hfr_0 : q_rh M M := q_rh.rf M
                  have hfr_M10 : q_rh M M10 := q_rh.tr hfr_0 hrh_M10
                  have hfr := hfr_M10
                  exact g_zret (post := fun z M1 => z = (if q_doz R h t = true then 1 else 0) ∧ (q_doz R h t = true → q_tr M1 16 (q_dop R h t)) ∧ q_rh M M1) (z := 0) hx hb hr hG hlocks (Or.inl rfl) (⟨by first | (rw [if_pos (show q_doz R h t = true by rw [e_25, q_doz_5]; exact decide_eq_true (by omega))]; done) | (rw [if_neg (show ¬ q_doz R h t = true by rw [e_25, q_doz_5]; exact fun h9 => by have h8 := of_decide_eq_true h9; omega)]; done), fun _ => by rw [e_25, q_dop_5 _ _ _ (by omega)]; exact ht_M10, hfr⟩) dX2_succeeds_139
                · skip
                  refine lv_iconst (v := iZ 1) hx hb dX2_succeeds_134 rfl ?_
                  refine lv_goto (tgt := 139) hx hb dX2_succeeds_135 (by decide) ?_
                  have hfr_0 : q_rh M M := q_rh.rf M
                  have hfr_M10 : q_rh M M10 := q_rh.tr hfr_0 hrh_M10
                  have hfr := hfr_M10
                  exact g_zret (post := fun z M1 => z = (if q_doz R h t = true then 1 else 0) ∧ (q_doz R h t = true → q_tr M1 16 (q_dop R h t)) ∧ q_rh M M1) (z := 1) hx hb hr hG hlocks (Or.inr rfl) (⟨by first | (rw [if_pos (show q_doz R h t = true by rw [e_25, q_doz_5]; exact decide_eq_true (by omega))]; done) | (rw [if_neg (show ¬ q_doz R h t = true by rw [e_25, q_doz_5]; exact fun h9 => by have h8 := of_decide_eq_true h9; omega)]; done), fun _ => by rw [e_25, q_dop_5 _ _ _ (by omega)]; exact ht_M10, hfr⟩) dX2_succeeds_139
            · rcases (show h = 6 ∨ 6 < h by omega) with e_25 | e_25
              · skip
                refine lv_tableIn (off := 115) (tgt := 140) hx hb dX2_succeeds_25 (by rw [hsw_25]; omega) (by rw [hsw_25]; omega) (by rw [hsw_25, e_25]; rfl) (by decide) ?_
                refine lv_aload_n hx hb dX2_succeeds_140 rfl (lv_at hl 3 rfl) ?_
                refine g_get hx hb hts hinX2 hown hG (o := 163) (hdm 163 (by decide)) rfl rfl 0 (by decide) f12 (fun _ h => h) rfl dX2_succeeds_141 ?_
                refine lv_iload_n hx hb dX2_succeeds_144 rfl (lv_at hl 1 rfl) ?_
                refine g_callV (b := 16) (As := [.int (iZ (t % 100))]) (rest := []) ⟨hx, hb, hml, hown, hts⟩ (c_X3_hasDog l G M hdm 16 ⟨by decide, by decide⟩ R hR hI (t % 100) (by omega)) (cwV 1 hts gX2_succeeds_X3_hasDog rfl rfl rfl (by decide +kernel) ⟨Nat.le_of_ble_eq_true rfl, Nat.le_of_ble_eq_true rfl⟩) hG (g_recv hG (b := 16) (hdm 16 (by decide)) (gE_T ⟨by decide, by decide⟩ G _) rfl) rfl hl.1 rfl (Nat.le_of_ble_eq_true rfl) dX2_succeeds_145 ⟨Nat.zero_le _, Nat.zero_le _⟩ (fun z11 M12 H locs hp_145 hG => ?_)
                obtain ⟨hz_145, hM_145⟩ := hp_145; replace hz_145 := hz_145.symm; subst hz_145; replace hM_145 := hM_145.symm; subst hM_145
                refine z_ifP_eq (tgt := 167) hx hb dX2_succeeds_148 (by decide) (fun c_148 => ?_) (fun c_148 => ?_)
                · skip
                  refine lv_iconst (v := iZ 0) hx hb dX2_succeeds_167 rfl ?_
                  have hfr_0 : q_rh M M := q_rh.rf M
                  have hfr := hfr_0
                  exact g_zret (post := fun z M1 => z = (if q_doz R h t = true then 1 else 0) ∧ (q_doz R h t = true → q_tr M1 16 (q_dop R h t)) ∧ q_rh M M1) (z := 0) hx hb hr hG hlocks (Or.inl rfl) (⟨by first | (rw [if_pos (show q_doz R h t = true by rw [e_25, q_doz_6]; exact decide_eq_true (by omega))]; done) | (rw [if_neg (show ¬ q_doz R h t = true by rw [e_25, q_doz_6]; exact fun h9 => by have h8 := of_decide_eq_true h9; omega)]; done), fun _ => by rw [e_25, q_dop_5 _ _ _ (by omega)]; exact hR, hfr⟩) dX2_succeeds_168
                · skip
                  refine lv_aload_n hx hb dX2_succeeds_151 rfl (lv_at hl 3 rfl) ?_
                  refine g_get hx hb hts hinX2 hown hG (o := 163) (hdm 163 (by decide)) rfl rfl 0 (by decide) f12 (fun _ h => h) rfl dX2_succeeds_152 ?_
                  refine lv_iload_n hx hb dX2_succeeds_155 rfl (lv_at hl 1 rfl) ?_
                  rw [show (t % 100) = (((t % 100).toNat : Nat) : Int) by omega]
                  refine g_callV (b := 16) (As := [.int (iZ (((t % 100).toNat) : Int))]) (rest := []) ⟨hx, hb, hml, hown, hts⟩ (c_X3_placeOf l G M hdm 16 ⟨by decide, by decide⟩ R hR hI (((t % 100).toNat)) (by omega)) (cwV 1 hts gX2_succeeds_X3_placeOf rfl rfl rfl (by decide +kernel) ⟨Nat.le_of_ble_eq_true rfl, Nat.le_of_ble_eq_true rfl⟩) hG (g_recv hG (b := 16) (hdm 16 (by decide)) (gE_T ⟨by decide, by decide⟩ G _) rfl) rfl hl.1 rfl (Nat.le_of_ble_eq_true rfl) dX2_succeeds_156 ⟨Nat.zero_le _, Nat.zero_le _⟩ (fun z13 M14 H locs hp_156 hG => ?_)
                  obtain ⟨hz_156, hM_156⟩ := hp_156; replace hz_156 := hz_156.symm; subst hz_156; replace hM_156 := hM_156.symm; subst hM_156
                  have hpi := q_pl_in R (t % 100).toNat
                  have hpl0 := ct_in (fun j => decide (q_hs R j = 1) && q_bt R j (t % 100).toNat) (q_nd R).toNat
                  have hplr : q_pl R (t % 100).toNat ≤ 13 := by unfold q_pl; split <;> omega
                  refine lv_iload_n hx hb dX2_succeeds_159 rfl (lv_at hl 2 rfl) ?_
                  refine z_icmp_ne (tgt := 167) hx hb (by omega) (by omega) dX2_succeeds_160 (by decide) (fun c_160 => ?_) (fun c_160 => ?_)
                  · skip
                    refine lv_iconst (v := iZ 0) hx hb dX2_succeeds_167 rfl ?_
                    have hfr_0 : q_rh M M := q_rh.rf M
                    have hfr := hfr_0
                    exact g_zret (post := fun z M1 => z = (if q_doz R h t = true then 1 else 0) ∧ (q_doz R h t = true → q_tr M1 16 (q_dop R h t)) ∧ q_rh M M1) (z := 0) hx hb hr hG hlocks (Or.inl rfl) (⟨by first | (rw [if_pos (show q_doz R h t = true by rw [e_25, q_doz_6]; exact decide_eq_true (by omega))]; done) | (rw [if_neg (show ¬ q_doz R h t = true by rw [e_25, q_doz_6]; exact fun h9 => by have h8 := of_decide_eq_true h9; omega)]; done), fun _ => by rw [e_25, q_dop_5 _ _ _ (by omega)]; exact hR, hfr⟩) dX2_succeeds_168
                  · skip
                    refine lv_iconst (v := iZ 1) hx hb dX2_succeeds_163 rfl ?_
                    refine lv_goto (tgt := 168) hx hb dX2_succeeds_164 (by decide) ?_
                    have hfr_0 : q_rh M M := q_rh.rf M
                    have hfr := hfr_0
                    exact g_zret (post := fun z M1 => z = (if q_doz R h t = true then 1 else 0) ∧ (q_doz R h t = true → q_tr M1 16 (q_dop R h t)) ∧ q_rh M M1) (z := 1) hx hb hr hG hlocks (Or.inr rfl) (⟨by first | (rw [if_pos (show q_doz R h t = true by rw [e_25, q_doz_6]; exact decide_eq_true (by omega))]; done) | (rw [if_neg (show ¬ q_doz R h t = true by rw [e_25, q_doz_6]; exact fun h9 => by have h8 := of_decide_eq_true h9; omega)]; done), fun _ => by rw [e_25, q_dop_5 _ _ _ (by omega)]; exact hR, hfr⟩) dX2_succeeds_168
              · rcases (show h = 7 ∨ 7 < h by omega) with e_25 | e_25
                · skip
                  refine lv_tableIn (off := 144) (tgt := 169) hx hb dX2_succeeds_25 (by rw [hsw_25]; omega) (by rw [hsw_25]; omega) (by rw [hsw_25, e_25]; rfl) (by decide) ?_
                  refine lv_aload_n hx hb dX2_succeeds_169 rfl (lv_at hl 3 rfl) ?_
                  refine g_get hx hb hts hinX2 hown hG (o := 163) (hdm 163 (by decide)) rfl rfl 0 (by decide) f12 (fun _ h => h) rfl dX2_succeeds_170 ?_
                  refine g_geti (z := (R 1)) hx hb hts hinX3 hown hG (o := 16) (hdm 16 (by decide)) (gE_T ⟨by decide, by decide⟩ G _) rfl 9 (by decide) f62 (fun _ h => h) rfl (tr_s9 hR) dX2_succeeds_173 ?_
                  refine lv_iload hx hb dX2_succeeds_176 (lv_at hl 0 rfl) ?_
                  refine z_icmp_lt (tgt := 185) hx hb (by omega) (by omega) dX2_succeeds_178 (by decide) (fun c_178 => ?_) (fun c_178 => ?_)
                  · skip
                    refine lv_iconst (v := iZ 0) hx hb dX2_succeeds_185 rfl ?_
                    have hfr_0 : q_rh M M := q_rh.rf M
                    have hfr := hfr_0
                    exact g_zret (post := fun z M1 => z = (if q_doz R h t = true then 1 else 0) ∧ (q_doz R h t = true → q_tr M1 16 (q_dop R h t)) ∧ q_rh M M1) (z := 0) hx hb hr hG hlocks (Or.inl rfl) (⟨by first | (rw [if_pos (show q_doz R h t = true by rw [e_25, q_doz_7]; exact decide_eq_true (by omega))]; done) | (rw [if_neg (show ¬ q_doz R h t = true by rw [e_25, q_doz_7]; exact fun h9 => by have h8 := of_decide_eq_true h9; omega)]; done), fun _ => by rw [e_25, q_dop_5 _ _ _ (by omega)]; exact hR, hfr⟩) dX2_succeeds_186
                  · skip
                    refine lv_iconst (v := iZ 1) hx hb dX2_succeeds_181 rfl ?_
                    refine lv_goto (tgt := 186) hx hb dX2_succeeds_182 (by decide) ?_
                    have hfr_0 : q_rh M M := q_rh.rf M
                    have hfr := hfr_0
                    exact g_zret (post := fun z M1 => z = (if q_doz R h t = true then 1 else 0) ∧ (q_doz R h t = true → q_tr M1 16 (q_dop R h t)) ∧ q_rh M M1) (z := 1) hx hb hr hG hlocks (Or.inr rfl) (⟨by first | (rw [if_pos (show q_doz R h t = true by rw [e_25, q_doz_7]; exact decide_eq_true (by omega))]; done) | (rw [if_neg (show ¬ q_doz R h t = true by rw [e_25, q_doz_7]; exact fun h9 => by have h8 := of_decide_eq_true h9; omega)]; done), fun _ => by rw [e_25, q_dop_5 _ _ _ (by omega)]; exact hR, hfr⟩) dX2_succeeds_186
                · rcases (show h = 8 ∨ 8 < h by omega) with e_25 | e_25
                  · skip
                    refine lv_tableIn (off := 162) (tgt := 187) hx hb dX2_succeeds_25 (by rw [hsw_25]; omega) (by rw [hsw_25]; omega) (by rw [hsw_25, e_25]; rfl) (by decide) ?_
                    refine lv_iload_n hx hb dX2_succeeds_187 rfl (lv_at hl 2 rfl) ?_
                    refine z_if_ne (tgt := 206) hx hb (by omega) dX2_succeeds_188 (by decide) (fun c_188 => ?_) (fun c_188 => ?_)
                    · skip
                      refine lv_iconst (v := iZ 0) hx hb dX2_succeeds_206 rfl ?_
                      have hfr_0 : q_rh M M := q_rh.rf M
                      have hfr := hfr_0
                      exact g_zret (post := fun z M1 => z = (if q_doz R h t = true then 1 else 0) ∧ (q_doz R h t = true → q_tr M1 16 (q_dop R h t)) ∧ q_rh M M1) (z := 0) hx hb hr hG hlocks (Or.inl rfl) (⟨by first | (rw [if_pos (show q_doz R h t = true by rw [e_25, q_doz_8]; exact decide_eq_true (by omega))]; done) | (rw [if_neg (show ¬ q_doz R h t = true by rw [e_25, q_doz_8]; exact fun h9 => by have h8 := of_decide_eq_true h9; omega)]; done), fun _ => by rw [e_25, q_dop_5 _ _ _ (by omega)]; exact hR, hfr⟩) dX2_succeeds_207
                    · skip
                      refine lv_aload_n hx hb dX2_succeeds_191 rfl (lv_at hl 3 rfl) ?_
                      refine g_get hx hb hts hinX2 hown hG (o := 163) (hdm 163 (by decide)) rfl rfl 0 (by decide) f12 (fun _ h => h) rfl dX2_succeeds_192 ?_
                      refine g_callV (b := 16) (As := []) (rest := []) ⟨hx, hb, hml, hown, hts⟩ (c_X3_dogsToRun l G M hdm 16 ⟨by decide, by decide⟩ R hR hI) (cwV 0 hts gX2_succeeds_X3_dogsToRun rfl rfl rfl (by decide +kernel) ⟨Nat.le_of_ble_eq_true rfl, Nat.le_of_ble_eq_true rfl⟩) hG (g_recv hG (b := 16) (hdm 16 (by decide)) (gE_T ⟨by decide, by decide⟩ G _) rfl) rfl hl.1 rfl (Nat.le_of_ble_eq_true rfl) dX2_succeeds_195 ⟨Nat.zero_le _, Nat.zero_le _⟩ (fun z15 M16 H locs hp_195 hG => ?_)
                      obtain ⟨hz_195, hM_195⟩ := hp_195; replace hz_195 := hz_195.symm; subst hz_195; replace hM_195 := hM_195.symm; subst hM_195
                      have hwt : 0 ≤ q_nwait R ∧ q_nwait R ≤ (q_nd R).toNat := ct_in _ _
                      refine lv_iload_n hx hb dX2_succeeds_198 rfl (lv_at hl 1 rfl) ?_
                      refine z_icmp_ne (tgt := 206) hx hb (by omega) (by omega) dX2_succeeds_199 (by decide) (fun c_199 => ?_) (fun c_199 => ?_)
                      · skip
                        refine lv_iconst (v := iZ 0) hx hb dX2_succeeds_206 rfl ?_
                        have hfr_0 : q_rh M M := q_rh.rf M
                        have hfr := hfr_0
                        exact g_zret (post := fun z M1 => z = (if q_doz R h t = true then 1 else 0) ∧ (q_doz R h t = true → q_tr M1 16 (q_dop R h t)) ∧ q_rh M M1) (z := 0) hx hb hr hG hlocks (Or.inl rfl) (⟨by first | (rw [if_pos (show q_doz R h t = true by rw [e_25, q_doz_8]; exact decide_eq_true (by omega))]; done) | (rw [if_neg (show ¬ q_doz R h t = true by rw [e_25, q_doz_8]; exact fun h9 => by have h8 := of_decide_eq_true h9; omega)]; done), fun _ => by rw [e_25, q_dop_5 _ _ _ (by omega)]; exact hR, hfr⟩) dX2_succeeds_207
                      · skip
                        refine lv_iconst (v := iZ 1) hx hb dX2_succeeds_202 rfl ?_
                        refine lv_goto (tgt := 207) hx hb dX2_succeeds_203 (by decide) ?_
                        have hfr_0 : q_rh M M := q_rh.rf M
                        have hfr := hfr_0
                        exact g_zret (post := fun z M1 => z = (if q_doz R h t = true then 1 else 0) ∧ (q_doz R h t = true → q_tr M1 16 (q_dop R h t)) ∧ q_rh M M1) (z := 1) hx hb hr hG hlocks (Or.inr rfl) (⟨by first | (rw [if_pos (show q_doz R h t = true by rw [e_25, q_doz_8]; exact decide_eq_true (by omega))]; done) | (rw [if_neg (show ¬ q_doz R h t = true by rw [e_25, q_doz_8]; exact fun h9 => by have h8 := of_decide_eq_true h9; omega)]; done), fun _ => by rw [e_25, q_dop_5 _ _ _ (by omega)]; exact hR, hfr⟩) dX2_succeeds_207
                  · have e_25 : h = 9 := by omega
                    refine lv_tableIn (off := 183) (tgt := 208) hx hb dX2_succeeds_25 (by rw [hsw_25]; omega) (by rw [hsw_25]; omega) (by rw [hsw_25, e_25]; rfl) (by decide) ?_
                    refine lv_iload_n hx hb dX2_succeeds_208 rfl (lv_at hl 2 rfl) ?_
                    refine z_if_ne (tgt := 227) hx hb (by omega) dX2_succeeds_209 (by decide) (fun c_209 => ?_) (fun c_209 => ?_)
                    · skip
                      refine lv_iconst (v := iZ 0) hx hb dX2_succeeds_227 rfl ?_
                      have hfr_0 : q_rh M M := q_rh.rf M
                      have hfr := hfr_0
                      exact g_zret (post := fun z M1 => z = (if q_doz R h t = true then 1 else 0) ∧ (q_doz R h t = true → q_tr M1 16 (q_dop R h t)) ∧ q_rh M M1) (z := 0) hx hb hr hG hlocks (Or.inl rfl) (⟨by first | (rw [if_pos (show q_doz R h t = true by rw [e_25, q_doz_9]; exact decide_eq_true (by omega))]; done) | (rw [if_neg (show ¬ q_doz R h t = true by rw [e_25, q_doz_9]; exact fun h9 => by have h8 := of_decide_eq_true h9; omega)]; done), fun _ => by rw [e_25, q_dop_5 _ _ _ (by omega)]; exact hR, hfr⟩) dX2_succeeds_228
                    · skip
                      refine lv_aload_n hx hb dX2_succeeds_212 rfl (lv_at hl 3 rfl) ?_
                      refine g_get hx hb hts hinX2 hown hG (o := 163) (hdm 163 (by decide)) rfl rfl 0 (by decide) f12 (fun _ h => h) rfl dX2_succeeds_213 ?_
                      refine g_callV (b := 16) (As := []) (rest := []) ⟨hx, hb, hml, hown, hts⟩ (c_X3_obstacle l G M hdm 16 ⟨by decide, by decide⟩ R hR hI) (cwV 0 hts gX2_succeeds_X3_obstacle rfl rfl rfl (by decide +kernel) ⟨Nat.le_of_ble_eq_true rfl, Nat.le_of_ble_eq_true rfl⟩) hG (g_recv hG (b := 16) (hdm 16 (by decide)) (gE_T ⟨by decide, by decide⟩ G _) rfl) rfl hl.1 rfl (Nat.le_of_ble_eq_true rfl) dX2_succeeds_216 ⟨Nat.zero_le _, Nat.zero_le _⟩ (fun z17 M18 H locs hp_216 hG => ?_)
                      obtain ⟨hz_216, hM_216⟩ := hp_216; replace hz_216 := hz_216.symm; subst hz_216; replace hM_216 := hM_216.symm; subst hM_216
                      refine lv_iload_n hx hb dX2_succeeds_219 rfl (lv_at hl 1 rfl) ?_
                      refine z_icmp_ne (tgt := 227) hx hb (by omega) (by omega) dX2_succeeds_220 (by decide) (fun c_220 => ?_) (fun c_220 => ?_)
                      · skip
                        refine lv_iconst (v := iZ 0) hx hb dX2_succeeds_227 rfl ?_
                        have hfr_0 : q_rh M M := q_rh.rf M
                        have hfr := hfr_0
                        exact g_zret (post := fun z M1 => z = (if q_doz R h t = true then 1 else 0) ∧ (q_doz R h t = true → q_tr M1 16 (q_dop R h t)) ∧ q_rh M M1) (z := 0) hx hb hr hG hlocks (Or.inl rfl) (⟨by first | (rw [if_pos (show q_doz R h t = true by rw [e_25, q_doz_9]; exact decide_eq_true (by omega))]; done) | (rw [if_neg (show ¬ q_doz R h t = true by rw [e_25, q_doz_9]; exact fun h9 => by have h8 := of_decide_eq_true h9; omega)]; done), fun _ => by rw [e_25, q_dop_5 _ _ _ (by omega)]; exact hR, hfr⟩) dX2_succeeds_228
                      · skip
                        refine lv_iconst (v := iZ 1) hx hb dX2_succeeds_223 rfl ?_
                        refine lv_goto (tgt := 228) hx hb dX2_succeeds_224 (by decide) ?_
                        have hfr_0 : q_rh M M := q_rh.rf M
                        have hfr := hfr_0
                        exact g_zret (post := fun z M1 => z = (if q_doz R h t = true then 1 else 0) ∧ (q_doz R h t = true → q_tr M1 16 (q_dop R h t)) ∧ q_rh M M1) (z := 1) hx hb hr hG hlocks (Or.inr rfl) (⟨by first | (rw [if_pos (show q_doz R h t = true by rw [e_25, q_doz_9]; exact decide_eq_true (by omega))]; done) | (rw [if_neg (show ¬ q_doz R h t = true by rw [e_25, q_doz_9]; exact fun h9 => by have h8 := of_decide_eq_true h9; omega)]; done), fun _ => by rw [e_25, q_dop_5 _ _ _ (by omega)]; exact hR, hfr⟩) dX2_succeeds_228
set_option maxHeartbeats 4000000 in
set_option maxRecDepth 100000 in
theorem c_X2_readScript (l : Launch) (G : gG) (M : Nat → Nat → Int) (hdm : ∀ k, k < 169 → gdm G k) (n : Nat) (hn : 1 ≤ n ∧ n ≤ 4) (v : Int) (hv : -9223372036854775808 ≤ v ∧ v < 9223372036854775808) : gMi l yX2_readScript wsX2_readScript ({ frames := 0, cells := 0, slots := 0, locals := 0 } : Room) G M [.ref (gad G 163), .int (iZ (n : Int)), .long (lZ v)] (fun z M1 => z = (if 0 ≤ v ∧ v < q_p4 n then 1 else 0) ∧ (0 ≤ v → ∀ k : Nat, k < n → M1 164 k = q_cmd v n k) ∧ ∀ a, a ≠ 164 → M1 a = M a) := by
  refine gMi_of (cc := cX2_readScript) (maxL := 7) (ret := some .boolean) (by decide) rfl (Nat.le_of_ble_eq_true rfl) ?_
  intro p e s m below meth c ls hx hb hr hml hown hts hlocks hl hG
  have hown : s.vm.findClass RX2 = some m.cls := hown
  have hl : lv_has ls 7 [(0, .ref (gad G 163)), (1, .int (iZ (n : Int))), (2, .long (lZ v))] := hl
  have hinX2 : ∀ w ∈ u_ws RX2 TX2 3, w ∈ wsX2_readScript := by decide +kernel
  have f25 := hts (.fieldLink RX2 25 "DogTrials$Rehearsal" "commands" "[I") (by decide +kernel)
  refine lv_lload_n hx hb dX2_readScript_0 rfl (lv_at hl 2 rfl) ?_
  refine lv_lconst (v := lZ 0) hx hb dX2_readScript_1 rfl ?_
  refine W.lcmp hx hb dX2_readScript_2 ?_
  refine z_ifL_ge (tgt := 8) hx hb (by omega) (by omega) dX2_readScript_3 (by decide) (fun c_3 => ?_) (fun c_3 => ?_)
  · skip
    refine lv_lload_n hx hb dX2_readScript_8 rfl (lv_at hl 2 rfl) ?_
    refine lv_lstore (lv' := [(4, .long (lZ v)), (0, .ref (gad G 163)), (1, .int (iZ (n : Int))), (2, .long (lZ v))]) hx hb dX2_readScript_9 hl (by decide) rfl (fun ls hl => ?_)
    refine lv_iload_n hx hb dX2_readScript_11 rfl (lv_at hl 2 rfl) ?_
    refine lv_iconst (v := iZ 1) hx hb dX2_readScript_12 rfl ?_
    refine z_isub (z := ((n : Int) - 1)) hx hb (by omega) dX2_readScript_13 ?_
    refine lv_istore (lv' := [(6, .int (iZ ((n : Int) - 1))), (4, .long (lZ v)), (0, .ref (gad G 163)), (1, .int (iZ (n : Int))), (2, .long (lZ v))]) hx hb dX2_readScript_14 hl (by decide) rfl (fun ls hl => ?_)
    have L_16 : ∀ (n_16 : Nat) (j : Nat) (x_i : Int) (x_r : Int) (Mk : Nat → Nat → Int), (x_i = ((n : Int) - 1 - (j : Int))) → (x_r = (q_r4 v j)) → (j ≤ n) → ((∀ k : Nat, n - j ≤ k → k < n → Mk 164 k = q_cmd v n k)) → ((∀ a, a ≠ 164 → Mk a = M a)) → 5 - j < n_16 → ∀ (H : Heap) (locs : List Loc) (ls : Array Slot), gH G Mk s H locs → lv_has ls 7 [(6, .int (iZ x_i)), (4, .long (lZ x_r)), (0, .ref (gad G 163)), (1, .int (iZ (n : Int))), (2, .long (lZ v))] → W p l e ({ frames := 0, cells := 0, slots := 0, locals := 0 } : Room) s m [.ref (gad G 163), .int (iZ (n : Int)), .long (lZ v)].toArray below meth c H locs 0 0 (MQ below (va_Qi (fun r (u : Int × (Nat → Nat → Int)) => r = iZ u.1 ∧ (fun z M1 => z = (if 0 ≤ v ∧ v < q_p4 n then 1 else 0) ∧ (0 ≤ v → ∀ k : Nat, k < n → M1 164 k = q_cmd v n k) ∧ ∀ a, a ≠ 164 → M1 a = M a) u.1 u.2) (fun u U => gB G u.2 U) (gA G)) [.ref (gad G 163), .int (iZ (n : Int)), .long (lZ v)].toArray s 0 0 (gA G)) (F0 m 16 ls []) := by
      intro n_16
      induction n_16 with
      | zero => intro j x_i x_r Mk he_x_i he_x_r hj hrw ho hm_16; exact absurd hm_16 (Nat.not_lt_zero _)
      | succ n_16 ih_16 =>
        intro j x_i x_r Mk he_x_i he_x_r hj hrw ho hm_16 H locs ls hG hl
        subst he_x_i
        subst he_x_r
        have hrs := q_r4_in (s := v) (by omega) j
        refine lv_iload hx hb dX2_readScript_16 (lv_at hl 0 rfl) ?_
        refine z_if_lt (tgt := 49) hx hb (by omega) dX2_readScript_18 (by decide) (fun c_18 => ?_) (fun c_18 => ?_)
        · skip
          refine lv_lload hx hb dX2_readScript_49 (lv_at hl 1 rfl) ?_
          refine lv_lconst (v := lZ 0) hx hb dX2_readScript_51 rfl ?_
          refine W.lcmp hx hb dX2_readScript_52 ?_
          refine z_ifL_ne (tgt := 60) hx hb (by omega) (by omega) dX2_readScript_53 (by decide) (fun c_53 => ?_) (fun c_53 => ?_)
          · skip
            refine lv_iconst (v := iZ 0) hx hb dX2_readScript_60 rfl ?_
            have hjn : j = n := by omega
            exact g_zret (post := fun z M1 => z = (if 0 ≤ v ∧ v < q_p4 n then 1 else 0) ∧ (0 ≤ v → ∀ k : Nat, k < n → M1 164 k = q_cmd v n k) ∧ ∀ a, a ≠ 164 → M1 a = M a) (z := 0) hx hb hr hG hlocks (Or.inl rfl) (⟨by have h9 := q_r4_0 (s := v) (by omega) hn; have h8 : q_r4 v j = q_r4 v n := (by rw [hjn]); first | (rw [if_pos ⟨by omega, h9.mp (by omega)⟩]; done) | (rw [if_neg (fun h6 => by have h7 := h9.mpr h6.2; omega)]; done), fun _ k hk => hrw k (by omega) hk, ho⟩) dX2_readScript_61
          · skip
            refine lv_iconst (v := iZ 1) hx hb dX2_readScript_56 rfl ?_
            refine lv_goto (tgt := 61) hx hb dX2_readScript_57 (by decide) ?_
            have hjn : j = n := by omega
            exact g_zret (post := fun z M1 => z = (if 0 ≤ v ∧ v < q_p4 n then 1 else 0) ∧ (0 ≤ v → ∀ k : Nat, k < n → M1 164 k = q_cmd v n k) ∧ ∀ a, a ≠ 164 → M1 a = M a) (z := 1) hx hb hr hG hlocks (Or.inr rfl) (⟨by have h9 := q_r4_0 (s := v) (by omega) hn; have h8 : q_r4 v j = q_r4 v n := (by rw [hjn]); first | (rw [if_pos ⟨by omega, h9.mp (by omega)⟩]; done) | (rw [if_neg (fun h6 => by have h7 := h9.mpr h6.2; omega)]; done), fun _ k hk => hrw k (by omega) hk, ho⟩) dX2_readScript_61
        · skip
          refine lv_aload_n hx hb dX2_readScript_21 rfl (lv_at hl 2 rfl) ?_
          refine g_get hx hb hts hinX2 hown hG (o := 163) (hdm 163 (by decide)) rfl rfl 2 (by decide) f25 (fun _ h => h) rfl dX2_readScript_22 ?_
          refine lv_iload hx hb dX2_readScript_25 (lv_at hl 0 rfl) ?_
          refine lv_lload hx hb dX2_readScript_27 (lv_at hl 1 rfl) ?_
          refine lv_ldc2 (v := lZ 10000) hx hb hown (by rw [show lZ 10000 = (10000 : Int64) from by decide]; exact hts (.constantLong RX2 29 10000) (by decide +kernel)) dX2_readScript_29 ?_
          refine z_lrem (z := (q_r4 v j % 10000)) hx hb (by omega) (by omega) (Int.tmod_eq_emod_of_nonneg (by omega)) dX2_readScript_32 ?_
          refine z_l2i hx hb dX2_readScript_33 ?_
          refine g_iast (j := ((n - 1 - j : Nat))) hx hb hG (o := 164) (hdm 164 (by decide)) (fun f => rfl) (by omega) (by omega) (by omega) dX2_readScript_34 (fun H locs hG => ?_)
          obtain ⟨M1, hM1⟩ : ∃ X, X = (q_wr Mk 164 ((n - 1 - j : Nat)) (q_r4 v j % 10000)) := ⟨_, rfl⟩
          rw [← hM1] at hG
          refine lv_lload hx hb dX2_readScript_35 (lv_at hl 1 rfl) ?_
          refine lv_ldc2 (v := lZ 10000) hx hb hown (by rw [show lZ 10000 = (10000 : Int64) from by decide]; exact hts (.constantLong RX2 29 10000) (by decide +kernel)) dX2_readScript_37 ?_
          refine z_ldiv (z := (q_r4 v j / 10000)) hx hb (by omega) (by omega) (Int.tdiv_eq_ediv_of_nonneg (by omega)) dX2_readScript_40 ?_
          refine lv_lstore (lv' := [(4, .long (lZ (q_r4 v j / 10000))), (6, .int (iZ ((n : Int) - 1 - (j : Int)))), (0, .ref (gad G 163)), (1, .int (iZ (n : Int))), (2, .long (lZ v))]) hx hb dX2_readScript_41 hl (by decide) rfl (fun ls hl => ?_)
          refine z_iinc (z := ((n : Int) - 2 - (j : Int))) (lv' := [(6, .int (iZ ((n : Int) - 2 - (j : Int)))), (4, .long (lZ (q_r4 v j / 10000))), (0, .ref (gad G 163)), (1, .int (iZ (n : Int))), (2, .long (lZ v))]) hx hb dX2_readScript_43 hl (k := 1) rfl (by omega) (by decide) rfl (fun ls hl => ?_)
          refine lv_goto (tgt := 16) hx hb dX2_readScript_46 (by decide) ?_
          exact ih_16 (j + 1) ((n : Int) - 2 - (j : Int)) (q_r4 v j / 10000) M1 (by omega) (by rw [q_r4]) (by omega) (fun k h1 h2 => by rw [hM1, wr_ap]; by_cases e9 : k = n - 1 - j; (rw [if_pos ⟨rfl, e9⟩, e9]; unfold q_cmd; rw [show n - 1 - (n - 1 - j) = j by omega]); (rw [if_neg (fun h => e9 h.2)]; exact hrw k (by omega) h2)) (fun a ha => by rw [hM1, wr_off _ _ _ ha]; exact ho a ha) (by omega) _ _ _ hG (lv_sub hl [0, 1, 2, 3, 4] rfl)
    exact L_16 _ 0 ((n : Int) - 1) v M (by omega) rfl (by omega) (fun k h1 h2 => by omega) (fun _ _ => rfl) (Nat.lt_succ_self _) _ _ _ hG (lv_sub hl [0, 1, 2, 3, 4] rfl)
  · skip
    refine lv_iconst (v := iZ 0) hx hb dX2_readScript_6 rfl ?_
    exact g_zret (post := fun z M1 => z = (if 0 ≤ v ∧ v < q_p4 n then 1 else 0) ∧ (0 ≤ v → ∀ k : Nat, k < n → M1 164 k = q_cmd v n k) ∧ ∀ a, a ≠ 164 → M1 a = M a) (z := 0) hx hb hr hG hlocks (Or.inl rfl) (⟨by rw [if_neg (by omega)], fun h9 => by omega, fun _ _ => rfl⟩) dX2_readScript_7
set_option maxHeartbeats 4000000 in
set_option maxRecDepth 100000 in
theorem c_X2_firstFailure (l : Launch) (G : gG) (M : Nat → Nat → Int) (hdm : ∀ k, k < 169 → gdm G k) (R0 : Nat → Int) (hR0 : q_tr M 0 R0) (hI : q_inv R0) (n : Nat) (hn : 1 ≤ n ∧ n ≤ 4) (C : Nat → Int) (hC : ∀ k, k < n → M 164 k = C k ∧ 0 ≤ C k ∧ C k < 10000) : gMi l yX2_firstFailure wsX2_firstFailure ({ frames := 5, cells := 0, slots := 0, locals := 120 } : Room) G M [.ref (gad G 163), .ref (gad G 0), .int (iZ (n : Int))] (fun z M1 => z = q_ff C R0 n ∧ q_rh M M1) := by
  refine gMi_of (cc := cX2_firstFailure) (maxL := 4) (ret := some .int) (by decide) rfl (Nat.le_of_ble_eq_true rfl) ?_
  intro p e s m below meth c ls hx hb hr hml hown hts hlocks hl hG
  have hown : s.vm.findClass RX2 = some m.cls := hown
  have hl : lv_has ls 4 [(0, .ref (gad G 163)), (1, .ref (gad G 0)), (2, .int (iZ (n : Int)))] := hl
  have hinX2 : ∀ w ∈ u_ws RX2 TX2 3, w ∈ wsX2_firstFailure := by decide +kernel
  have f12 := hts (.fieldLink RX2 12 "DogTrials$Rehearsal" "copy" "LDogTrials$Trial;") (by decide +kernel)
  have f25 := hts (.fieldLink RX2 25 "DogTrials$Rehearsal" "commands" "[I") (by decide +kernel)
  refine lv_aload_n hx hb dX2_firstFailure_0 rfl (lv_at hl 0 rfl) ?_
  refine g_get hx hb hts hinX2 hown hG (o := 163) (hdm 163 (by decide)) rfl rfl 0 (by decide) f12 (fun _ h => h) rfl dX2_firstFailure_1 ?_
  refine lv_aload_n hx hb dX2_firstFailure_4 rfl (lv_at hl 1 rfl) ?_
  refine g_vcallV (b := 16) (As := [.ref (gad G 0)]) (rest := []) ⟨hx, hb, hml, hown, hts⟩ (c_X3_copyFrom l G M hdm 16 ⟨by decide, by decide⟩ 0 ⟨by decide, by decide⟩ (by omega) R0 hR0 hI) (cwV 1 hts gX2_firstFailure_X3_copyFrom rfl rfl rfl (by decide +kernel) ⟨Nat.le_of_ble_eq_true rfl, Nat.le_of_ble_eq_true rfl⟩) hG (g_recv hG (b := 16) (hdm 16 (by decide)) (gE_T ⟨by decide, by decide⟩ G _) rfl) rfl hl.1 rfl (Nat.le_of_ble_eq_true rfl) dX2_firstFailure_5 ⟨Nat.zero_le _, Nat.zero_le _⟩ (fun M2 H locs hp_5 hG => ?_)
  obtain ⟨ht_M2, ho_M2⟩ := hp_5
  have hR0_M2 : q_tr M2 0 R0 := q_tr_off hR0 ho_M2 (by omega)
  refine lv_iconst (v := iZ 0) hx hb dX2_firstFailure_8 rfl ?_
  refine lv_istore_n (lv' := [(3, .int (iZ 0)), (0, .ref (gad G 163)), (1, .ref (gad G 0)), (2, .int (iZ (n : Int)))]) hx hb dX2_firstFailure_9 rfl hl (by decide) rfl (fun ls hl => ?_)
  have L_10 : ∀ (n_10 : Nat) (k : Nat) (x_i : Int) (Mk : Nat → Nat → Int), (x_i = (k : Int)) → (k ≤ n) → ((∀ j, j < k → q_okc C R0 j = true)) → (q_tr Mk 16 (q_run C R0 k)) → (q_rh M Mk) → 5 - k < n_10 → ∀ (H : Heap) (locs : List Loc) (ls : Array Slot), gH G Mk s H locs → lv_has ls 4 [(3, .int (iZ x_i)), (0, .ref (gad G 163)), (1, .ref (gad G 0)), (2, .int (iZ (n : Int)))] → W p l e ({ frames := 5, cells := 0, slots := 0, locals := 120 } : Room) s m [.ref (gad G 163), .ref (gad G 0), .int (iZ (n : Int))].toArray below meth c H locs 0 0 (MQ below (va_Qi (fun r (u : Int × (Nat → Nat → Int)) => r = iZ u.1 ∧ (fun z M1 => z = q_ff C R0 n ∧ q_rh M M1) u.1 u.2) (fun u U => gB G u.2 U) (gA G)) [.ref (gad G 163), .ref (gad G 0), .int (iZ (n : Int))].toArray s 0 0 (gA G)) (F0 m 10 ls []) := by
    intro n_10
    induction n_10 with
    | zero => intro k x_i Mk he_x_i hk hok hpg hfr hm_10; exact absurd hm_10 (Nat.not_lt_zero _)
    | succ n_10 ih_10 =>
      intro k x_i Mk he_x_i hk hok hpg hfr hm_10 H locs ls hG hl
      subst he_x_i
      have hIk := inv_run hI k hok
      have hck := hC k
      refine lv_iload_n hx hb dX2_firstFailure_10 rfl (lv_at hl 0 rfl) ?_
      refine lv_iload_n hx hb dX2_firstFailure_11 rfl (lv_at hl 3 rfl) ?_
      refine z_icmp_ge (tgt := 36) hx hb (by omega) (by omega) dX2_firstFailure_12 (by decide) (fun c_12 => ?_) (fun c_12 => ?_)
      · skip
        refine lv_bipush (v := iZ (-9)) hx hb dX2_firstFailure_36 (by decide) ?_
        exact g_iret (post := fun z M1 => z = q_ff C R0 n ∧ q_rh M M1) (z := (-9)) hx hb hr hG hlocks (⟨(q_ff_no (fun j hj => hok j (by omega))).symm, hfr⟩) dX2_firstFailure_38
      · skip
        refine lv_aload_n hx hb dX2_firstFailure_15 rfl (lv_at hl 1 rfl) ?_
        refine lv_aload_n hx hb dX2_firstFailure_16 rfl (lv_at hl 1 rfl) ?_
        refine g_get hx hb hts hinX2 hown hG (o := 163) (hdm 163 (by decide)) rfl rfl 2 (by decide) f25 (fun _ h => h) rfl dX2_firstFailure_17 ?_
        refine lv_iload_n hx hb dX2_firstFailure_20 rfl (lv_at hl 0 rfl) ?_
        refine g_iald (z := (1000 * (C k / 1000) + (C k % 1000))) (j := k) hx hb hG (o := 164) (hdm 164 (by decide)) rfl (by omega) (by omega) (by omega) (by rw [hfr 164 (by omega) (by omega), (hck (by omega)).1]; omega) dX2_firstFailure_21 ?_
        refine g_callV (b := 163) (As := [.int (iZ (1000 * (C k / 1000) + (C k % 1000)))]) (rest := []) ⟨hx, hb, hml, hown, hts⟩ (c_X2_succeeds l G Mk hdm (q_run C R0 k) hpg hIk (C k / 1000) (C k % 1000) (by have := hck (by omega); omega) (by omega)) (cwV 1 hts gX2_firstFailure_X2_succeeds rfl rfl rfl (by decide +kernel) ⟨Nat.le_of_ble_eq_true rfl, Nat.le_of_ble_eq_true rfl⟩) hG (g_recv hG (b := 163) (hdm 163 (by decide)) rfl rfl) rfl hl.1 rfl (Nat.le_of_ble_eq_true rfl) dX2_firstFailure_22 ⟨Nat.zero_le _, Nat.zero_le _⟩ (fun z3 M4 H locs hp_22 hG => ?_)
        obtain ⟨hz_22, hpg_M4, hrh_M4⟩ := hp_22; replace hz_22 := hz_22.symm; subst hz_22
        refine z_ifP_ne (tgt := 30) hx hb dX2_firstFailure_25 (by decide) (fun c_25 => ?_) (fun c_25 => ?_)
        · skip
          refine z_iinc (z := ((k : Int) + 1)) (lv' := [(3, .int (iZ ((k : Int) + 1))), (0, .ref (gad G 163)), (1, .ref (gad G 0)), (2, .int (iZ (n : Int)))]) hx hb dX2_firstFailure_30 hl (k := 0) rfl (by omega) (by decide) rfl (fun ls hl => ?_)
          refine lv_goto (tgt := 10) hx hb dX2_firstFailure_33 (by decide) ?_
          exact ih_10 (k + 1) ((k : Int) + 1) M4 (by omega) (by omega) (fun j hj => by rcases (show j < k ∨ j = k by omega) with h9 | h9; exact hok j h9; (subst h9; assumption)) (hpg_M4 (by assumption)) (q_rh.tr hfr hrh_M4) (by omega) _ _ _ hG (lv_sub hl [0, 1, 2, 3] rfl)
        · skip
          refine lv_iload_n hx hb dX2_firstFailure_28 rfl (lv_at hl 0 rfl) ?_
          exact g_iret (post := fun z M1 => z = q_ff C R0 n ∧ q_rh M M1) (z := (k : Int)) hx hb hr hG hlocks (⟨(q_ff_hit (by assumption) hok (by omega)).symm, q_rh.tr hfr hrh_M4⟩) dX2_firstFailure_29
  exact L_10 _ 0 0 M2 rfl (by omega) (fun j h => absurd h (Nat.not_lt_zero _)) ht_M2 (q_rh.off (q_rh.rf M) ho_M2 (by omega)) (Nat.lt_succ_self _) _ _ _ hG (lv_sub hl [0, 1, 2, 3] rfl)
set_option maxHeartbeats 4000000 in
set_option maxRecDepth 100000 in
theorem c_X2_playRun (l : Launch) (G : gG) (M : Nat → Nat → Int) (hdm : ∀ k, k < 169 → gdm G k) (R : Nat → Int) (hR : q_tr M 16 R) (hI : q_inv R) (hob : q_ob R = 0) (r : Int) (hr : 0 ≤ r ∧ r < 2147483648) : gMv l yX2_playRun wsX2_playRun ({ frames := 3, cells := 0, slots := 0, locals := 72 } : Room) G M [.ref (gad G 163), .int (iZ r)] (fun M1 => q_tr M1 16 (q_rno R (q_first R).toNat (r / 8 % 30 + 1) (fun p => r / 256 % (q_wth p + 1))) ∧ q_rh M M1) := by
  refine gMv_of (cc := cX2_playRun) (maxL := 4) (ret := none) (by decide) rfl (Nat.le_of_ble_eq_true rfl) ?_
  intro p e s m below meth c ls hx hb hr hml hown hts hlocks hl hG
  have hown : s.vm.findClass RX2 = some m.cls := hown
  have hl : lv_has ls 4 [(0, .ref (gad G 163)), (1, .int (iZ r))] := hl
  have hinX0 : ∀ w ∈ u_ws RX0 TX0 4, w ∈ wsX2_playRun := by decide +kernel
  have hinX2 : ∀ w ∈ u_ws RX2 TX2 3, w ∈ wsX2_playRun := by decide +kernel
  have f12 := hts (.fieldLink RX2 12 "DogTrials$Rehearsal" "copy" "LDogTrials$Trial;") (by decide +kernel)
  have f21 := hts (.fieldLink RX2 21 "DogTrials$Rehearsal" "course" "LDogTrials$Course;") (by decide +kernel)
  have f127 := hts (.fieldLink RX2 127 "DogTrials$Course" "losses" "[I") (by decide +kernel)
  have hnd := hI.1
  have hfi := q_first_in hI (q_ob_wait hob)
  refine lv_aload_n hx hb dX2_playRun_0 rfl (lv_at hl 0 rfl) ?_
  refine g_get hx hb hts hinX2 hown hG (o := 163) (hdm 163 (by decide)) rfl rfl 1 (by decide) f21 (fun _ h => h) rfl dX2_playRun_1 ?_
  refine lv_aload_n hx hb dX2_playRun_4 rfl (lv_at hl 0 rfl) ?_
  refine g_get hx hb hts hinX2 hown hG (o := 163) (hdm 163 (by decide)) rfl rfl 0 (by decide) f12 (fun _ h => h) rfl dX2_playRun_5 ?_
  refine g_callV (b := 159) (As := [.ref (gad G 16)]) (rest := []) ⟨hx, hb, hml, hown, hts⟩ (c_X0_firstToRun l G M hdm 159 (Or.inr rfl) 16 ⟨by decide, by decide⟩ R hR hI) (cwV 1 hts gX2_playRun_X0_firstToRun rfl rfl rfl (by decide +kernel) ⟨Nat.le_of_ble_eq_true rfl, Nat.le_of_ble_eq_true rfl⟩) hG (g_recv hG (b := 159) (hdm 159 (by decide)) (gE_C (Or.inr rfl) G _) rfl) rfl hl.1 rfl (Nat.le_of_ble_eq_true rfl) dX2_playRun_8 ⟨Nat.zero_le _, Nat.zero_le _⟩ (fun z1 M2 H locs hp_8 hG => ?_)
  obtain ⟨hz_8, ho_M2⟩ := hp_8; replace hz_8 := hz_8.symm; subst hz_8
  have hR_M2 : q_tr M2 16 R := q_tr_off hR ho_M2 (by omega)
  refine lv_istore_n (lv' := [(2, .int (iZ (q_first R))), (0, .ref (gad G 163)), (1, .int (iZ r))]) hx hb dX2_playRun_11 rfl hl (by decide) rfl (fun ls hl => ?_)
  refine lv_iload_n hx hb dX2_playRun_12 rfl (lv_at hl 0 rfl) ?_
  refine lv_bipush (v := iZ (-9)) hx hb dX2_playRun_13 (by decide) ?_
  refine z_icmp_ne (tgt := 19) hx hb (by omega) (by decide) dX2_playRun_15 (by decide) (fun c_15 => ?_) (fun c_15 => ?_)
  · skip
    refine lv_iconst (v := iZ 0) hx hb dX2_playRun_19 rfl ?_
    refine lv_istore_n (lv' := [(3, .int (iZ 0)), (2, .int (iZ (q_first R))), (0, .ref (gad G 163)), (1, .int (iZ r))]) hx hb dX2_playRun_20 rfl hl (by decide) rfl (fun ls hl => ?_)
    have L_21 : ∀ (n_21 : Nat) (k : Nat) (x_i : Int) (Mk : Nat → Nat → Int), (x_i = (k : Int)) → (k ≤ 6) → ((∀ p : Nat, p < k → Mk 162 p = r / 256 % (q_wth p + 1))) → (q_off M2 Mk 162 163) → 6 - k < n_21 → ∀ (H : Heap) (locs : List Loc) (ls : Array Slot), gH G Mk s H locs → lv_has ls 4 [(3, .int (iZ x_i)), (2, .int (iZ (q_first R))), (0, .ref (gad G 163)), (1, .int (iZ r))] → W p l e ({ frames := 3, cells := 0, slots := 0, locals := 72 } : Room) s m [.ref (gad G 163), .int (iZ r)].toArray below meth c H locs 0 0 (MQ below (va_Qv (fun (u : Nat → Nat → Int) => (fun M1 => q_tr M1 16 (q_rno R (q_first R).toNat (r / 8 % 30 + 1) (fun p => r / 256 % (q_wth p + 1))) ∧ q_rh M M1) u) (fun u U => gB G u U) (gA G)) [.ref (gad G 163), .int (iZ r)].toArray s 0 0 (gA G)) (F0 m 21 ls []) := by
      intro n_21
      induction n_21 with
      | zero => intro k x_i Mk he_x_i hk hrw ho hm_21; exact absurd hm_21 (Nat.not_lt_zero _)
      | succ n_21 ih_21 =>
        intro k x_i Mk he_x_i hk hrw ho hm_21 H locs ls hG hl
        subst he_x_i
        have hwk := wth_in k
        have hmk := q_wmod (r / 256) k
        have hvk : q_tr Mk 16 R := q_tr_off hR_M2 ho (by omega)
        have hfk : q_rh M Mk := q_rh.off (q_rh.off (q_rh.rf M) ho_M2 (by omega)) ho (by omega)
        refine lv_iload_n hx hb dX2_playRun_21 rfl (lv_at hl 0 rfl) ?_
        refine lv_bipush (v := iZ (6)) hx hb dX2_playRun_22 (by decide) ?_
        refine z_icmp_ge (tgt := 55) hx hb (by omega) (by decide) dX2_playRun_24 (by decide) (fun c_24 => ?_) (fun c_24 => ?_)
        · skip
          refine lv_aload_n hx hb dX2_playRun_55 rfl (lv_at hl 2 rfl) ?_
          refine g_get hx hb hts hinX2 hown hG (o := 163) (hdm 163 (by decide)) rfl rfl 1 (by decide) f21 (fun _ h => h) rfl dX2_playRun_56 ?_
          refine lv_aload_n hx hb dX2_playRun_59 rfl (lv_at hl 2 rfl) ?_
          refine g_get hx hb hts hinX2 hown hG (o := 163) (hdm 163 (by decide)) rfl rfl 0 (by decide) f12 (fun _ h => h) rfl dX2_playRun_60 ?_
          refine lv_iload_n hx hb dX2_playRun_63 rfl (lv_at hl 1 rfl) ?_
          rw [show (q_first R) = (((q_first R).toNat : Nat) : Int) by omega]
          refine lv_iconst (v := iZ 1) hx hb dX2_playRun_64 rfl ?_
          refine lv_iload_n hx hb dX2_playRun_65 rfl (lv_at hl 3 rfl) ?_
          refine lv_bipush (v := iZ (8)) hx hb dX2_playRun_66 (by decide) ?_
          refine z_idiv (z := (r / 8)) hx hb (by omega) (by omega) rfl dX2_playRun_68 ?_
          refine lv_bipush (v := iZ (30)) hx hb dX2_playRun_69 (by decide) ?_
          refine z_irem (z := ((r / 8) % 30)) hx hb (by omega) (by omega) rfl dX2_playRun_71 ?_
          refine z_iadd (z := (((r / 8) % 30) + 1)) hx hb (by omega) dX2_playRun_72 ?_
          refine g_callV (b := 159) (As := [.ref (gad G 16), .int (iZ (((q_first R).toNat) : Int)), .int (iZ (((r / 8) % 30) + 1))]) (rest := []) ⟨hx, hb, hml, hown, hts⟩ (c_X0_letRun l G Mk hdm 159 (Or.inr rfl) 16 ⟨by decide, by decide⟩ R hvk hI (((q_first R).toNat)) (by omega) (((r / 8) % 30) + 1) (by omega)) (cwV 3 hts gX2_playRun_X0_letRun rfl rfl rfl (by decide +kernel) ⟨Nat.le_of_ble_eq_true rfl, Nat.le_of_ble_eq_true rfl⟩) hG (g_recv hG (b := 159) (hdm 159 (by decide)) (gE_C (Or.inr rfl) G _) rfl) rfl hl.1 rfl (Nat.le_of_ble_eq_true rfl) dX2_playRun_73 ⟨Nat.zero_le _, Nat.zero_le _⟩ (fun z3 M4 H locs hp_73 hG => ?_)
          obtain ⟨hz_73, ht_M4, ho_M4⟩ := hp_73; replace hz_73 := hz_73.symm; subst hz_73
          refine lv_pop hx hb dX2_playRun_76 rfl ?_
          have hq9 : q_rno R (q_first R).toNat (r / 8 % 30 + 1) (fun p => Mk 162 p) = q_rno R (q_first R).toNat (r / 8 % 30 + 1) (fun p => r / 256 % (q_wth p + 1)) := q_rno_congr _ _ _ (fun p hp => hrw p (by omega))
          have hfr9 : q_rh M M4 := q_rh.off hfk ho_M4 (by omega)
          have hgoal : q_tr M4 16 (q_rno R (q_first R).toNat (r / 8 % 30 + 1) (fun p => r / 256 % (q_wth p + 1))) := by rw [← hq9]; exact ht_M4
          exact g_vret hx hb hr hG hlocks (⟨hgoal, hfr9⟩) dX2_playRun_77
        · skip
          refine lv_aload_n hx hb dX2_playRun_27 rfl (lv_at hl 2 rfl) ?_
          refine g_get hx hb hts hinX2 hown hG (o := 163) (hdm 163 (by decide)) rfl rfl 1 (by decide) f21 (fun _ h => h) rfl dX2_playRun_28 ?_
          refine g_get hx hb hts hinX0 hown hG (o := 159) (hdm 159 (by decide)) (gE_C (Or.inr rfl) G _) rfl 3 (by decide) f127 (fun _ h => h) rfl dX2_playRun_31 ?_
          refine lv_iload_n hx hb dX2_playRun_34 rfl (lv_at hl 0 rfl) ?_
          refine lv_iload_n hx hb dX2_playRun_35 rfl (lv_at hl 3 rfl) ?_
          refine lv_sipush (v := iZ (256)) hx hb dX2_playRun_36 (by decide) ?_
          refine z_idiv (z := (r / 256)) hx hb (by omega) (by omega) rfl dX2_playRun_39 ?_
          refine g_worth hx hb hG hown hG.2.1.2.2.2.2.2.2.2.2.1 dX2_playRun_40 ?_
          refine lv_iload_n hx hb dX2_playRun_43 rfl (lv_at hl 0 rfl) ?_
          refine g_wald (j := k) hx hb hG (by omega) (by omega) dX2_playRun_44 ?_
          refine lv_iconst (v := iZ 1) hx hb dX2_playRun_45 rfl ?_
          refine z_iadd (z := ((q_wth k) + 1)) hx hb (by omega) dX2_playRun_46 ?_
          refine z_irem (z := (r / 256 % (q_wth k + 1))) hx hb (by omega) (by omega) rfl dX2_playRun_47 ?_
          refine g_iast (j := k) hx hb hG (o := 162) (hdm 162 (by decide)) (fun f => rfl) (by omega) (by omega) (by omega) dX2_playRun_48 (fun H locs hG => ?_)
          obtain ⟨M5, hM5⟩ : ∃ X, X = (q_wr Mk 162 k (r / 256 % (q_wth k + 1))) := ⟨_, rfl⟩
          rw [← hM5] at hG
          have hvk__M5 : q_tr M5 16 R := by rw [hM5]; exact tr_wr hvk (by omega)
          refine z_iinc (z := ((k : Int) + 1)) (lv' := [(3, .int (iZ ((k : Int) + 1))), (2, .int (iZ (q_first R))), (0, .ref (gad G 163)), (1, .int (iZ r))]) hx hb dX2_playRun_49 hl (k := 0) rfl (by omega) (by decide) rfl (fun ls hl => ?_)
          refine lv_goto (tgt := 21) hx hb dX2_playRun_52 (by decide) ?_
          exact ih_21 (k + 1) ((k : Int) + 1) M5 (by omega) (by omega) (fun p hp => by rw [hM5, wr_ap]; by_cases e9 : p = k; (subst e9; rw [if_pos ⟨rfl, rfl⟩]); (rw [if_neg (fun h => e9 h.2)]; exact hrw p (by omega))) (by rw [hM5]; exact q_off.wr ho (by omega) (by omega)) (by omega) _ _ _ hG (lv_sub hl [0, 1, 2, 3] rfl)
    exact L_21 _ 0 0 M2 rfl (by omega) (fun j h => absurd h (Nat.not_lt_zero _)) (q_off.rf _ _ _) (Nat.lt_succ_self _) _ _ _ hG (lv_sub hl [0, 1, 2, 3] rfl)
  · exfalso; omega
set_option maxHeartbeats 4000000 in
set_option maxRecDepth 100000 in
theorem c_X2_playRound (l : Launch) (G : gG) (M : Nat → Nat → Int) (hdm : ∀ k, k < 169 → gdm G k) (R : Nat → Int) (hR : q_tr M 16 R) (hI : q_inv R) (r : Int) (hr : 0 ≤ r ∧ r < 2147483648) : gMv l yX2_playRound wsX2_playRound ({ frames := 4, cells := 0, slots := 0, locals := 95 } : Room) G M [.ref (gad G 163), .int (iZ r)] (fun M1 => q_tr M1 16 (q_rnd R r) ∧ q_rh M M1) := by
  refine gMv_of (cc := cX2_playRound) (maxL := 3) (ret := none) (by decide) rfl (Nat.le_of_ble_eq_true rfl) ?_
  intro p e s m below meth c ls hx hb hr hml hown hts hlocks hl hG
  have hown : s.vm.findClass RX2 = some m.cls := hown
  have hl : lv_has ls 3 [(0, .ref (gad G 163)), (1, .int (iZ r))] := hl
  have hinX2 : ∀ w ∈ u_ws RX2 TX2 3, w ∈ wsX2_playRound := by decide +kernel
  have hinX3 : ∀ w ∈ u_ws RX3 TX3 15, w ∈ wsX2_playRound := by decide +kernel
  have f12 := hts (.fieldLink RX2 12 "DogTrials$Rehearsal" "copy" "LDogTrials$Trial;") (by decide +kernel)
  have f124 := hts (.fieldLink RX2 124 "DogTrials$Trial" "dogs" "I") (by decide +kernel)
  have hnd := hI.1
  have hob := q_ob_in R
  refine lv_aload_n hx hb dX2_playRound_0 rfl (lv_at hl 0 rfl) ?_
  refine g_get hx hb hts hinX2 hown hG (o := 163) (hdm 163 (by decide)) rfl rfl 0 (by decide) f12 (fun _ h => h) rfl dX2_playRound_1 ?_
  refine g_callV (b := 16) (As := []) (rest := []) ⟨hx, hb, hml, hown, hts⟩ (c_X3_obstacle l G M hdm 16 ⟨by decide, by decide⟩ R hR hI) (cwV 0 hts gX2_playRound_X3_obstacle rfl rfl rfl (by decide +kernel) ⟨Nat.le_of_ble_eq_true rfl, Nat.le_of_ble_eq_true rfl⟩) hG (g_recv hG (b := 16) (hdm 16 (by decide)) (gE_T ⟨by decide, by decide⟩ G _) rfl) rfl hl.1 rfl (Nat.le_of_ble_eq_true rfl) dX2_playRound_4 ⟨Nat.zero_le _, Nat.zero_le _⟩ (fun z1 M2 H locs hp_4 hG => ?_)
  obtain ⟨hz_4, hM_4⟩ := hp_4; replace hz_4 := hz_4.symm; subst hz_4; replace hM_4 := hM_4.symm; subst hM_4
  refine lv_istore_n (lv' := [(2, .int (iZ (q_ob R))), (0, .ref (gad G 163)), (1, .int (iZ r))]) hx hb dX2_playRound_7 rfl hl (by decide) rfl (fun ls hl => ?_)
  refine lv_iload_n hx hb dX2_playRound_8 rfl (lv_at hl 0 rfl) ?_
  refine lv_iconst (v := iZ 2) hx hb dX2_playRound_9 rfl ?_
  refine z_icmp_ne (tgt := 34) hx hb (by omega) (by decide) dX2_playRound_10 (by decide) (fun c_10 => ?_) (fun c_10 => ?_)
  · skip
    refine lv_iload_n hx hb dX2_playRound_34 rfl (lv_at hl 0 rfl) ?_
    refine z_if_ne (tgt := 46) hx hb (by omega) dX2_playRound_35 (by decide) (fun c_35 => ?_) (fun c_35 => ?_)
    · skip
      refine lv_aload_n hx hb dX2_playRound_46 rfl (lv_at hl 1 rfl) ?_
      refine g_get hx hb hts hinX2 hown hG (o := 163) (hdm 163 (by decide)) rfl rfl 0 (by decide) f12 (fun _ h => h) rfl dX2_playRound_47 ?_
      refine g_geti (z := (q_nd R)) hx hb hts hinX3 hown hG (o := 16) (hdm 16 (by decide)) (gE_T ⟨by decide, by decide⟩ G _) rfl 0 (by decide) f124 (fun _ h => h) rfl (tr_nd hR) dX2_playRound_50 ?_
      refine z_if_le (tgt := 81) hx hb (by omega) dX2_playRound_53 (by decide) (fun c_53 => ?_) (fun c_53 => ?_)
      · skip
        have hfr_0 : q_rh M M := q_rh.rf M
        have hfr := hfr_0
        exact g_vret hx hb hr hG hlocks (⟨by unfold q_rnd; rw [if_neg (by omega), if_neg (by omega), if_neg (by omega)]; exact hR, hfr⟩) dX2_playRound_81
      · skip
        refine lv_aload_n hx hb dX2_playRound_56 rfl (lv_at hl 1 rfl) ?_
        refine lv_iload_n hx hb dX2_playRound_57 rfl (lv_at hl 2 rfl) ?_
        refine lv_bipush (v := iZ (8)) hx hb dX2_playRound_58 (by decide) ?_
        refine z_idiv (z := (r / 8)) hx hb (by omega) (by omega) rfl dX2_playRound_60 ?_
        refine lv_aload_n hx hb dX2_playRound_61 rfl (lv_at hl 1 rfl) ?_
        refine g_get hx hb hts hinX2 hown hG (o := 163) (hdm 163 (by decide)) rfl rfl 0 (by decide) f12 (fun _ h => h) rfl dX2_playRound_62 ?_
        refine g_geti (z := (q_nd R)) hx hb hts hinX3 hown hG (o := 16) (hdm 16 (by decide)) (gE_T ⟨by decide, by decide⟩ G _) rfl 0 (by decide) f124 (fun _ h => h) rfl (tr_nd hR) dX2_playRound_65 ?_
        have hmd := q_rmod (R := R) (by omega) r
        refine z_irem (z := (r / 8 % q_nd R)) hx hb (by omega) (by omega) rfl dX2_playRound_68 ?_
        refine lv_iload_n hx hb dX2_playRound_69 rfl (lv_at hl 2 rfl) ?_
        refine lv_sipush (v := iZ (128)) hx hb dX2_playRound_70 (by decide) ?_
        refine z_idiv (z := (r / 128)) hx hb (by omega) (by omega) rfl dX2_playRound_73 ?_
        refine lv_bipush (v := iZ (6)) hx hb dX2_playRound_74 (by decide) ?_
        refine z_irem (z := ((r / 128) % 6)) hx hb (by omega) (by omega) rfl dX2_playRound_76 ?_
        refine g_callV (b := 163) (As := [.int (iZ (r / 8 % q_nd R)), .int (iZ ((r / 128) % 6))]) (rest := []) ⟨hx, hb, hml, hown, hts⟩ (c_X2_tellInterference l G M hdm R hR hI (r / 8 % q_nd R) (by omega) ((r / 128) % 6) (by omega)) (cwV 2 hts gX2_playRound_X2_tellInterference rfl rfl rfl (by decide +kernel) ⟨Nat.le_of_ble_eq_true rfl, Nat.le_of_ble_eq_true rfl⟩) hG (g_recv hG (b := 163) (hdm 163 (by decide)) rfl rfl) rfl hl.1 rfl (Nat.le_of_ble_eq_true rfl) dX2_playRound_77 ⟨Nat.zero_le _, Nat.zero_le _⟩ (fun z3 M4 H locs hp_77 hG => ?_)
        obtain ⟨hz_77, ht_M4, hrh_M4⟩ := hp_77; replace hz_77 := hz_77.symm; subst hz_77
        refine lv_pop hx hb dX2_playRound_80 rfl ?_
        have hfr_0 : q_rh M M := q_rh.rf M
        have hfr_M4 : q_rh M M4 := q_rh.tr hfr_0 hrh_M4
        have hfr := hfr_M4
        exact g_vret hx hb hr hG hlocks (⟨by unfold q_rnd; rw [if_neg (by omega), if_neg (by omega)]; have h9 := ht_M4; by_cases h8 : 0 ≤ (r / 8 % q_nd R) ∧ (r / 8 % q_nd R) < q_nd R ∧ 0 ≤ (r / 128 % 6) ∧ (r / 128 % 6) ≤ 5 ∧ q_sa R ((r / 8 % q_nd R)).toNat = 1; (rw [if_pos h8] at h9; rw [if_pos (by omega)]; exact h9); (rw [if_neg h8] at h9; rw [if_neg (by omega)]; exact h9), hfr⟩) dX2_playRound_81
    · skip
      refine lv_aload_n hx hb dX2_playRound_38 rfl (lv_at hl 1 rfl) ?_
      refine lv_iload_n hx hb dX2_playRound_39 rfl (lv_at hl 2 rfl) ?_
      refine g_vcallV (b := 163) (As := [.int (iZ r)]) (rest := []) ⟨hx, hb, hml, hown, hts⟩ (c_X2_playRun l G M hdm R hR hI (by omega) r (by omega)) (cwV 1 hts gX2_playRound_X2_playRun rfl rfl rfl (by decide +kernel) ⟨Nat.le_of_ble_eq_true rfl, Nat.le_of_ble_eq_true rfl⟩) hG (g_recv hG (b := 163) (hdm 163 (by decide)) rfl rfl) rfl hl.1 rfl (Nat.le_of_ble_eq_true rfl) dX2_playRound_40 ⟨Nat.zero_le _, Nat.zero_le _⟩ (fun M6 H locs hp_40 hG => ?_)
      obtain ⟨ht_M6, hrh_M6⟩ := hp_40
      refine lv_goto (tgt := 81) hx hb dX2_playRound_43 (by decide) ?_
      have hfr_0 : q_rh M M := q_rh.rf M
      have hfr_M6 : q_rh M M6 := q_rh.tr hfr_0 hrh_M6
      have hfr := hfr_M6
      exact g_vret hx hb hr hG hlocks (⟨by unfold q_rnd; rw [if_neg (by omega), if_pos (by omega), Int.add_comm 1]; exact ht_M6, hfr⟩) dX2_playRound_81
  · skip
    refine lv_aload_n hx hb dX2_playRound_13 rfl (lv_at hl 1 rfl) ?_
    refine g_get hx hb hts hinX2 hown hG (o := 163) (hdm 163 (by decide)) rfl rfl 0 (by decide) f12 (fun _ h => h) rfl dX2_playRound_14 ?_
    refine lv_bipush (v := iZ (60)) hx hb dX2_playRound_17 (by decide) ?_
    refine lv_iload_n hx hb dX2_playRound_19 rfl (lv_at hl 2 rfl) ?_
    refine lv_bipush (v := iZ (8)) hx hb dX2_playRound_20 (by decide) ?_
    refine z_idiv (z := (r / 8)) hx hb (by omega) (by omega) rfl dX2_playRound_22 ?_
    refine lv_sipush (v := iZ (541)) hx hb dX2_playRound_23 (by decide) ?_
    refine z_irem (z := ((r / 8) % 541)) hx hb (by omega) (by omega) rfl dX2_playRound_26 ?_
    refine z_iadd (z := (((r / 8) % 541) + 60)) hx hb (by omega) dX2_playRound_27 ?_
    refine g_vcallV (b := 16) (As := [.int (iZ (((r / 8) % 541) + 60))]) (rest := []) ⟨hx, hb, hml, hown, hts⟩ (c_X3_beginDay l G M hdm 16 ⟨by decide, by decide⟩ R hR hI (((r / 8) % 541) + 60)) (cwV 1 hts gX2_playRound_X3_beginDay rfl rfl rfl (by decide +kernel) ⟨Nat.le_of_ble_eq_true rfl, Nat.le_of_ble_eq_true rfl⟩) hG (g_recv hG (b := 16) (hdm 16 (by decide)) (gE_T ⟨by decide, by decide⟩ G _) rfl) rfl hl.1 rfl (Nat.le_of_ble_eq_true rfl) dX2_playRound_28 ⟨Nat.zero_le _, Nat.zero_le _⟩ (fun M8 H locs hp_28 hG => ?_)
    obtain ⟨ht_M8, ho_M8⟩ := hp_28
    refine lv_goto (tgt := 81) hx hb dX2_playRound_31 (by decide) ?_
    have hfr_0 : q_rh M M := q_rh.rf M
    have hfr_M8 : q_rh M M8 := q_rh.off hfr_0 ho_M8 (by omega)
    have hfr := hfr_M8
    exact g_vret hx hb hr hG hlocks (⟨by unfold q_rnd; rw [if_pos (by omega), Int.add_comm 60]; exact ht_M8, hfr⟩) dX2_playRound_81
set_option maxHeartbeats 4000000 in
set_option maxRecDepth 100000 in
theorem c_X2_playRounds (l : Launch) (G : gG) (M : Nat → Nat → Int) (hdm : ∀ k, k < 169 → gdm G k) (R0 : Nat → Int) (hR0 : q_tr M 0 R0) (hI : q_inv R0) (v : Int) (n : Nat) (hn : n ≤ 99) : gMi l yX2_playRounds wsX2_playRounds ({ frames := 5, cells := 0, slots := 0, locals := 117 } : Room) G M [.ref (gad G 163), .ref (gad G 0), .long (lZ v), .int (iZ (n : Int))] (fun z M1 => z = 1000 * (q_sim R0 v n) 0 + q_sum (q_sim R0 v n) ∧ q_rh M M1) := by
  refine gMi_of (cc := cX2_playRounds) (maxL := 8) (ret := some .int) (by decide) rfl (Nat.le_of_ble_eq_true rfl) ?_
  intro p e s m below meth c ls hx hb hr hml hown hts hlocks hl hG
  have hown : s.vm.findClass RX2 = some m.cls := hown
  have hl : lv_has ls 8 [(0, .ref (gad G 163)), (1, .ref (gad G 0)), (2, .long (lZ v)), (4, .int (iZ (n : Int)))] := hl
  have hinX2 : ∀ w ∈ u_ws RX2 TX2 3, w ∈ wsX2_playRounds := by decide +kernel
  have hinX3 : ∀ w ∈ u_ws RX3 TX3 15, w ∈ wsX2_playRounds := by decide +kernel
  have f12 := hts (.fieldLink RX2 12 "DogTrials$Rehearsal" "copy" "LDogTrials$Trial;") (by decide +kernel)
  have f115 := hts (.fieldLink RX2 115 "DogTrials$Trial" "day" "I") (by decide +kernel)
  refine lv_aload_n hx hb dX2_playRounds_0 rfl (lv_at hl 0 rfl) ?_
  refine g_get hx hb hts hinX2 hown hG (o := 163) (hdm 163 (by decide)) rfl rfl 0 (by decide) f12 (fun _ h => h) rfl dX2_playRounds_1 ?_
  refine lv_aload_n hx hb dX2_playRounds_4 rfl (lv_at hl 1 rfl) ?_
  refine g_vcallV (b := 16) (As := [.ref (gad G 0)]) (rest := []) ⟨hx, hb, hml, hown, hts⟩ (c_X3_copyFrom l G M hdm 16 ⟨by decide, by decide⟩ 0 ⟨by decide, by decide⟩ (by omega) R0 hR0 hI) (cwV 1 hts gX2_playRounds_X3_copyFrom rfl rfl rfl (by decide +kernel) ⟨Nat.le_of_ble_eq_true rfl, Nat.le_of_ble_eq_true rfl⟩) hG (g_recv hG (b := 16) (hdm 16 (by decide)) (gE_T ⟨by decide, by decide⟩ G _) rfl) rfl hl.1 rfl (Nat.le_of_ble_eq_true rfl) dX2_playRounds_5 ⟨Nat.zero_le _, Nat.zero_le _⟩ (fun M2 H locs hp_5 hG => ?_)
  obtain ⟨ht_M2, ho_M2⟩ := hp_5
  have hR0_M2 : q_tr M2 0 R0 := q_tr_off hR0 ho_M2 (by omega)
  refine lv_lload_n hx hb dX2_playRounds_8 rfl (lv_at hl 2 rfl) ?_
  refine lv_lstore (lv' := [(5, .long (lZ v)), (0, .ref (gad G 163)), (1, .ref (gad G 0)), (2, .long (lZ v)), (4, .int (iZ (n : Int)))]) hx hb dX2_playRounds_9 hl (by decide) rfl (fun ls hl => ?_)
  refine lv_iconst (v := iZ 0) hx hb dX2_playRounds_11 rfl ?_
  refine lv_istore (lv' := [(7, .int (iZ 0)), (5, .long (lZ v)), (0, .ref (gad G 163)), (1, .ref (gad G 0)), (2, .long (lZ v)), (4, .int (iZ (n : Int)))]) hx hb dX2_playRounds_12 hl (by decide) rfl (fun ls hl => ?_)
  have L_14 : ∀ (n_14 : Nat) (k : Nat) (x_i : Int) (x_x : Int) (Mk : Nat → Nat → Int), (x_i = (k : Int)) → (x_x = (q_lcg v k)) → (k ≤ n) → (q_tr Mk 16 (q_sim R0 v k)) → (q_rh M Mk) → 100 - k < n_14 → ∀ (H : Heap) (locs : List Loc) (ls : Array Slot), gH G Mk s H locs → lv_has ls 8 [(7, .int (iZ x_i)), (5, .long (lZ x_x)), (0, .ref (gad G 163)), (1, .ref (gad G 0)), (2, .long (lZ v)), (4, .int (iZ (n : Int)))] → W p l e ({ frames := 5, cells := 0, slots := 0, locals := 117 } : Room) s m [.ref (gad G 163), .ref (gad G 0), .long (lZ v), .int (iZ (n : Int))].toArray below meth c H locs 0 0 (MQ below (va_Qi (fun r (u : Int × (Nat → Nat → Int)) => r = iZ u.1 ∧ (fun z M1 => z = 1000 * (q_sim R0 v n) 0 + q_sum (q_sim R0 v n) ∧ q_rh M M1) u.1 u.2) (fun u U => gB G u.2 U) (gA G)) [.ref (gad G 163), .ref (gad G 0), .long (lZ v), .int (iZ (n : Int))].toArray s 0 0 (gA G)) (F0 m 14 ls []) := by
    intro n_14
    induction n_14 with
    | zero => intro k x_i x_x Mk he_x_i he_x_x hk hpg hfr hm_14; exact absurd hm_14 (Nat.not_lt_zero _)
    | succ n_14 ih_14 =>
      intro k x_i x_x Mk he_x_i he_x_x hk hpg hfr hm_14 H locs ls hG hl
      subst he_x_i
      subst he_x_x
      have hIk := inv_sim hI v k
      have hup := q_up31_in (q_lcg v (k + 1))
      refine lv_iload hx hb dX2_playRounds_14 (lv_at hl 0 rfl) ?_
      refine lv_iload hx hb dX2_playRounds_16 (lv_at hl 5 rfl) ?_
      refine z_icmp_ge (tgt := 49) hx hb (by omega) (by omega) dX2_playRounds_18 (by decide) (fun c_18 => ?_) (fun c_18 => ?_)
      · skip
        refine lv_sipush (v := iZ (1000)) hx hb dX2_playRounds_49 (by decide) ?_
        refine lv_aload_n hx hb dX2_playRounds_52 rfl (lv_at hl 2 rfl) ?_
        refine g_get hx hb hts hinX2 hown hG (o := 163) (hdm 163 (by decide)) rfl rfl 0 (by decide) f12 (fun _ h => h) rfl dX2_playRounds_53 ?_
        refine g_geti (z := ((q_sim R0 v k) 0)) hx hb hts hinX3 hown hG (o := 16) (hdm 16 (by decide)) (gE_T ⟨by decide, by decide⟩ G _) rfl 8 (by decide) f115 (fun _ h => h) rfl (tr_s8 hpg) dX2_playRounds_56 ?_
        refine z_imul (z := (1000 * ((q_sim R0 v k) 0))) hx hb (by omega) dX2_playRounds_59 ?_
        refine lv_aload_n hx hb dX2_playRounds_60 rfl (lv_at hl 2 rfl) ?_
        refine g_get hx hb hts hinX2 hown hG (o := 163) (hdm 163 (by decide)) rfl rfl 0 (by decide) f12 (fun _ h => h) rfl dX2_playRounds_61 ?_
        refine g_callV (b := 16) (As := []) (rest := [.int (iZ (1000 * ((q_sim R0 v k) 0)))]) ⟨hx, hb, hml, hown, hts⟩ (c_X3_sumOfScores l G Mk hdm 16 ⟨by decide, by decide⟩ (q_sim R0 v k) hpg hIk) (cwV 0 hts gX2_playRounds_X3_sumOfScores rfl rfl rfl (by decide +kernel) ⟨Nat.le_of_ble_eq_true rfl, Nat.le_of_ble_eq_true rfl⟩) hG (g_recv hG (b := 16) (hdm 16 (by decide)) (gE_T ⟨by decide, by decide⟩ G _) rfl) rfl hl.1 rfl (Nat.le_of_ble_eq_true rfl) dX2_playRounds_64 ⟨Nat.zero_le _, Nat.zero_le _⟩ (fun z3 M4 H locs hp_64 hG => ?_)
        obtain ⟨hz_64, hM_64⟩ := hp_64; replace hz_64 := hz_64.symm; subst hz_64; replace hM_64 := hM_64.symm; subst hM_64
        refine z_iadd (z := (1000 * ((q_sim R0 v k) 0) + (q_sum (q_sim R0 v k)))) hx hb (by omega) dX2_playRounds_67 ?_
        exact g_iret (post := fun z M1 => z = 1000 * (q_sim R0 v n) 0 + q_sum (q_sim R0 v n) ∧ q_rh M M1) (z := (1000 * ((q_sim R0 v k) 0) + (q_sum (q_sim R0 v k)))) hx hb hr hG hlocks (⟨by rw [show n = k by omega] <;> omega, hfr⟩) dX2_playRounds_68
      · skip
        refine lv_lload hx hb dX2_playRounds_21 (lv_at hl 1 rfl) ?_
        refine lv_ldc2 (v := lZ 6364136223846793005) hx hb hown (by rw [show lZ 6364136223846793005 = (6364136223846793005 : Int64) from by decide]; exact hts (.constantLong RX2 108 6364136223846793005) (by decide +kernel)) dX2_playRounds_23 ?_
        refine z_lmul (z := (6364136223846793005 * (q_lcg v k))) hx hb (by omega) dX2_playRounds_26 ?_
        refine lv_ldc2 (v := lZ 1442695040888963407) hx hb hown (by rw [show lZ 1442695040888963407 = (1442695040888963407 : Int64) from by decide]; exact hts (.constantLong RX2 110 1442695040888963407) (by decide +kernel)) dX2_playRounds_27 ?_
        refine z_ladd (z := (q_lcg v (k + 1))) hx hb (by rw [q_lcg]) dX2_playRounds_30 ?_
        refine lv_lstore (lv' := [(5, .long (lZ (q_lcg v (k + 1)))), (7, .int (iZ (k : Int))), (0, .ref (gad G 163)), (1, .ref (gad G 0)), (2, .long (lZ v)), (4, .int (iZ (n : Int)))]) hx hb dX2_playRounds_31 hl (by decide) rfl (fun ls hl => ?_)
        refine lv_aload_n hx hb dX2_playRounds_33 rfl (lv_at hl 2 rfl) ?_
        refine lv_lload hx hb dX2_playRounds_34 (lv_at hl 0 rfl) ?_
        refine lv_bipush (v := iZ (33)) hx hb dX2_playRounds_36 (by decide) ?_
        refine z_up31 hx hb dX2_playRounds_38 dX2_playRounds_39 ?_
        refine g_vcallV (b := 163) (As := [.int (iZ (q_up31 (q_lcg v (k + 1))))]) (rest := []) ⟨hx, hb, hml, hown, hts⟩ (c_X2_playRound l G Mk hdm (q_sim R0 v k) hpg hIk (q_up31 (q_lcg v (k + 1))) (by omega)) (cwV 1 hts gX2_playRounds_X2_playRound rfl rfl rfl (by decide +kernel) ⟨Nat.le_of_ble_eq_true rfl, Nat.le_of_ble_eq_true rfl⟩) hG (g_recv hG (b := 163) (hdm 163 (by decide)) rfl rfl) rfl hl.1 rfl (Nat.le_of_ble_eq_true rfl) dX2_playRounds_40 ⟨Nat.zero_le _, Nat.zero_le _⟩ (fun M6 H locs hp_40 hG => ?_)
        obtain ⟨ht_M6, hrh_M6⟩ := hp_40
        refine z_iinc (z := ((k : Int) + 1)) (lv' := [(7, .int (iZ ((k : Int) + 1))), (5, .long (lZ (q_lcg v (k + 1)))), (0, .ref (gad G 163)), (1, .ref (gad G 0)), (2, .long (lZ v)), (4, .int (iZ (n : Int)))]) hx hb dX2_playRounds_43 hl (k := 1) rfl (by omega) (by decide) rfl (fun ls hl => ?_)
        refine lv_goto (tgt := 14) hx hb dX2_playRounds_46 (by decide) ?_
        exact ih_14 (k + 1) ((k : Int) + 1) (q_lcg v (k + 1)) M6 (by omega) rfl (by omega) (by rw [q_sim]; exact ht_M6) (q_rh.tr hfr hrh_M6) (by omega) _ _ _ hG (lv_sub hl [0, 1, 2, 3, 4, 5] rfl)
  exact L_14 _ 0 0 v M2 rfl rfl (by omega) ht_M2 (q_rh.off (q_rh.rf M) ho_M2 (by omega)) (Nat.lt_succ_self _) _ _ _ hG (lv_sub hl [0, 1, 2, 3, 4, 5] rfl)
