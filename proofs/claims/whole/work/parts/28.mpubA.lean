set_option maxHeartbeats 4000000 in
set_option maxRecDepth 100000 in
theorem c_X6_append (l : Launch) (G : gG) (M : Nat → Nat → Int) (hdm : ∀ k, k < 179 → gdm G k) (n : Nat) (hn : n ≤ 70) (h1 : M 169 2 = (n : Int)) (a : Int) (ha9 : -2147483648 ≤ a ∧ a < 2147483648) : gMi l yX6_append wsX6_append ({ frames := 1, cells := 0, slots := 0, locals := 25 } : Room) G M [.ref (gad G 169), .int (iZ a)] (fun z M1 => ((if ¬ (0 ≤ a ∧ a ≤ 255) then (1 : Int) else if 70 ≤ n then 2 else 0) = 0 → z = (n : Int) + 1 ∧ M1 = q_wr (q_wr (q_wr M 169 0 0) 170 n a) 169 2 ((n : Int) + 1)) ∧ ((if ¬ (0 ≤ a ∧ a ≤ 255) then (1 : Int) else if 70 ≤ n then 2 else 0) ≠ 0 → q_ms M M1) ∧ M1 169 0 = (if ¬ (0 ≤ a ∧ a ≤ 255) then (1 : Int) else if 70 ≤ n then 2 else 0)) := by
  refine gMi_of (cc := cX6_append) (maxL := 2) (ret := some .int) (by decide) rfl (Nat.le_of_ble_eq_true rfl) ?_
  intro p e s m below meth c ls hx hb hr hml hown hts hlocks hl hG
  have hown : s.vm.findClass RX6 = some m.cls := hown
  have hl : lv_has ls 2 [(0, .ref (gad G 169)), (1, .int (iZ a))] := hl
  have hinX6 : ∀ w ∈ u_ws RX6 TX6 13, w ∈ wsX6_append := by decide +kernel
  have f7 := hts (.fieldLink RX6 7 "DogTrialsModel" "text" "[I") (by decide +kernel)
  have f99 := hts (.fieldLink RX6 99 "DogTrialsModel" "textSize" "I") (by decide +kernel)
  refine lv_aload_n hx hb dX6_append_0 rfl (lv_at hl 0 rfl) ?_
  refine lv_iload_n hx hb dX6_append_1 rfl (lv_at hl 1 rfl) ?_
  refine z_i2l hx hb (by omega) dX6_append_2 ?_
  refine lv_lconst (v := lZ 0) hx hb dX6_append_3 rfl ?_
  refine lv_ldc2 (v := lZ 255) hx hb hown (by rw [show lZ 255 = (255 : Int64) from by decide]; exact hts (.constantLong RX6 97 255) (by decide +kernel)) dX6_append_4 ?_
  refine g_callS (As := [.long (lZ a), .long (lZ 0), .long (lZ 255)]) (rest := [.ref (gad G 169)]) ⟨hx, hb, hml, hown, hts⟩ (c_X6_in l G M a 0 255 (by omega) (by omega) (by omega)) (va_cwS 3 hts gX6_append_X6_in rfl rfl rfl (by decide +kernel) ⟨Nat.le_of_ble_eq_true rfl, Nat.le_of_ble_eq_true rfl⟩) hG rfl hl.1 rfl (Nat.le_of_ble_eq_true rfl) dX6_append_7 ⟨Nat.zero_le _, Nat.zero_le _⟩ (fun z1 M2 H locs hp_7 hG => ?_)
  obtain ⟨hz_7, hM_7⟩ := hp_7; replace hz_7 := hz_7.symm; subst hz_7; replace hM_7 := hM_7.symm; subst hM_7
  refine z_ifP_ne (tgt := 17) hx hb dX6_append_10 (by decide) (fun c_10 => ?_) (fun c_10 => ?_)
  · skip
    refine lv_aload_n hx hb dX6_append_17 rfl (lv_at hl 0 rfl) ?_
    refine g_geti (z := (n : Int)) hx hb hts hinX6 hown hG (o := 169) (hdm 169 (by decide)) rfl rfl 2 (by decide) f99 (fun _ h => h) rfl h1 dX6_append_18 ?_
    refine lv_bipush (v := iZ (70)) hx hb dX6_append_21 (by decide) ?_
    refine z_icmp_ne (tgt := 30) hx hb (by omega) (by decide) dX6_append_23 (by decide) (fun c_23 => ?_) (fun c_23 => ?_)
    · skip
      refine lv_iconst (v := iZ 0) hx hb dX6_append_30 rfl ?_
      refine g_callV (b := 169) (As := [.int (iZ 0)]) (rest := []) ⟨hx, hb, hml, hown, hts⟩ (c_X6_refused l G M hdm 0 (by omega)) (cwV 1 hts gX6_append_X6_refused rfl rfl rfl (by decide +kernel) ⟨Nat.le_of_ble_eq_true rfl, Nat.le_of_ble_eq_true rfl⟩) hG (g_recv hG (b := 169) (hdm 169 (by decide)) rfl rfl) rfl hl.1 rfl (Nat.le_of_ble_eq_true rfl) dX6_append_31 ⟨Nat.zero_le _, Nat.zero_le _⟩ (fun z3 M4 H locs hp_31 hG => ?_)
      obtain ⟨hz_31, hM4⟩ := hp_31; rw [if_neg (by decide)] at hz_31; replace hz_31 := hz_31.symm; subst hz_31
      have hcd9 : (if ¬ (0 ≤ a ∧ a ≤ 255) then (1 : Int) else if 70 ≤ n then 2 else 0) = (0 : Int) := by (repeat' split) <;> first | rfl | omega | (exfalso; omega) | contradiction
      refine z_if_eq (tgt := 39) hx hb (by decide) dX6_append_34 (by decide) (fun c_34 => ?_) (fun c_34 => ?_)
      · skip
        refine lv_aload_n hx hb dX6_append_39 rfl (lv_at hl 0 rfl) ?_
        refine g_get hx hb hts hinX6 hown hG (o := 169) (hdm 169 (by decide)) rfl rfl 1 (by decide) f7 (fun _ h => h) rfl dX6_append_40 ?_
        refine lv_aload_n hx hb dX6_append_43 rfl (lv_at hl 0 rfl) ?_
        refine g_geti (z := (n : Int)) hx hb hts hinX6 hown hG (o := 169) (hdm 169 (by decide)) rfl rfl 2 (by decide) f99 (fun _ h => h) rfl (by rw [hM4, wr_ne _ _ _ (by decide)]; exact h1) dX6_append_44 ?_
        refine lv_iload_n hx hb dX6_append_47 rfl (lv_at hl 1 rfl) ?_
        refine g_iast (j := n) hx hb hG (o := 170) (hdm 170 (by decide)) (fun f => rfl) (by omega) (by omega) (by omega) dX6_append_48 (fun H locs hG => ?_)
        obtain ⟨M5, hM5⟩ : ∃ X, X = (q_wr M4 170 n a) := ⟨_, rfl⟩
        rw [← hM5] at hG
        refine lv_aload_n hx hb dX6_append_49 rfl (lv_at hl 0 rfl) ?_
        refine lv_dup hx hb dX6_append_50 rfl ?_
        refine g_geti (z := (n : Int)) hx hb hts hinX6 hown hG (o := 169) (hdm 169 (by decide)) rfl rfl 2 (by decide) f99 (fun _ h => h) rfl (by rw [hM5, wr_off _ _ _ (by decide), hM4, wr_ne _ _ _ (by decide)]; exact h1) dX6_append_51 ?_
        refine lv_iconst (v := iZ 1) hx hb dX6_append_54 rfl ?_
        refine z_iadd (z := ((n : Int) + 1)) hx hb (by omega) dX6_append_55 ?_
        refine g_put (F := (oR G)) hx hb hts hinX6 tyX6 tyX6_ok nmX6 hown hG (o := 169) (hdm 169 (by decide)) (fun f => rfl) rfl 2 (by decide) f99 (fun _ h => h) rfl rfl (fun _ => Nat.lt_of_lt_of_le (by decide) (Nat.le_refl 13)) (fun _ => rfl) dX6_append_56 (fun H locs hG => ?_)
        obtain ⟨M6, hM6⟩ : ∃ X, X = (q_wr M5 169 2 ((n : Int) + 1)) := ⟨_, rfl⟩
        rw [← hM6] at hG
        refine lv_aload_n hx hb dX6_append_59 rfl (lv_at hl 0 rfl) ?_
        refine g_geti (z := ((n : Int) + 1)) hx hb hts hinX6 hown hG (o := 169) (hdm 169 (by decide)) rfl rfl 2 (by decide) f99 (fun _ h => h) rfl (by rw [hM6, wr_eq]) dX6_append_60 ?_
        exact g_iret (post := fun z M1 => ((if ¬ (0 ≤ a ∧ a ≤ 255) then (1 : Int) else if 70 ≤ n then 2 else 0) = 0 → z = (n : Int) + 1 ∧ M1 = q_wr (q_wr (q_wr M 169 0 0) 170 n a) 169 2 ((n : Int) + 1)) ∧ ((if ¬ (0 ≤ a ∧ a ≤ 255) then (1 : Int) else if 70 ≤ n then 2 else 0) ≠ 0 → q_ms M M1) ∧ M1 169 0 = (if ¬ (0 ≤ a ∧ a ≤ 255) then (1 : Int) else if 70 ≤ n then 2 else 0)) (z := ((n : Int) + 1)) hx hb hr hG hlocks (⟨fun _ => ⟨by omega, by rw [hM6, hM5, hM4]⟩, fun h9 => absurd hcd9 h9, by rw [hcd9]; rw [hM6, wr_ne _ _ _ (by decide), hM5, wr_off _ _ _ (by decide), hM4]; exact wr_eq _ _ _ _⟩) dX6_append_63
      · exfalso; omega
    · skip
      refine lv_iconst (v := iZ 2) hx hb dX6_append_26 rfl ?_
      refine lv_goto (tgt := 31) hx hb dX6_append_27 (by decide) ?_
      refine g_callV (b := 169) (As := [.int (iZ 2)]) (rest := []) ⟨hx, hb, hml, hown, hts⟩ (c_X6_refused l G M hdm 2 (by omega)) (cwV 1 hts gX6_append_X6_refused rfl rfl rfl (by decide +kernel) ⟨Nat.le_of_ble_eq_true rfl, Nat.le_of_ble_eq_true rfl⟩) hG (g_recv hG (b := 169) (hdm 169 (by decide)) rfl rfl) rfl hl.1 rfl (Nat.le_of_ble_eq_true rfl) dX6_append_31 ⟨Nat.zero_le _, Nat.zero_le _⟩ (fun z7 M8 H locs hp_31 hG => ?_)
      obtain ⟨hz_31, hM8⟩ := hp_31; rw [if_pos (by decide)] at hz_31; replace hz_31 := hz_31.symm; subst hz_31
      have hcd9 : (if ¬ (0 ≤ a ∧ a ≤ 255) then (1 : Int) else if 70 ≤ n then 2 else 0) = (2 : Int) := by (repeat' split) <;> first | rfl | omega | (exfalso; omega) | contradiction
      refine z_if_eq (tgt := 39) hx hb (by decide) dX6_append_34 (by decide) (fun c_34 => ?_) (fun c_34 => ?_)
      · exfalso; omega
      · skip
        refine lv_iconst (v := iZ 0) hx hb dX6_append_37 rfl ?_
        exact g_iret (post := fun z M1 => ((if ¬ (0 ≤ a ∧ a ≤ 255) then (1 : Int) else if 70 ≤ n then 2 else 0) = 0 → z = (n : Int) + 1 ∧ M1 = q_wr (q_wr (q_wr M 169 0 0) 170 n a) 169 2 ((n : Int) + 1)) ∧ ((if ¬ (0 ≤ a ∧ a ≤ 255) then (1 : Int) else if 70 ≤ n then 2 else 0) ≠ 0 → q_ms M M1) ∧ M1 169 0 = (if ¬ (0 ≤ a ∧ a ≤ 255) then (1 : Int) else if 70 ≤ n then 2 else 0)) (z := 0) hx hb hr hG hlocks (⟨fun h9 => absurd h9 (by rw [hcd9]; decide), fun _ => (q_mq.rf hM8).2, by rw [hcd9]; exact (q_mq.rf hM8).1⟩) dX6_append_38
  · skip
    refine lv_iconst (v := iZ 1) hx hb dX6_append_13 rfl ?_
    refine lv_goto (tgt := 31) hx hb dX6_append_14 (by decide) ?_
    refine g_callV (b := 169) (As := [.int (iZ 1)]) (rest := []) ⟨hx, hb, hml, hown, hts⟩ (c_X6_refused l G M hdm 1 (by omega)) (cwV 1 hts gX6_append_X6_refused rfl rfl rfl (by decide +kernel) ⟨Nat.le_of_ble_eq_true rfl, Nat.le_of_ble_eq_true rfl⟩) hG (g_recv hG (b := 169) (hdm 169 (by decide)) rfl rfl) rfl hl.1 rfl (Nat.le_of_ble_eq_true rfl) dX6_append_31 ⟨Nat.zero_le _, Nat.zero_le _⟩ (fun z9 M10 H locs hp_31 hG => ?_)
    obtain ⟨hz_31, hM10⟩ := hp_31; rw [if_pos (by decide)] at hz_31; replace hz_31 := hz_31.symm; subst hz_31
    have hcd9 : (if ¬ (0 ≤ a ∧ a ≤ 255) then (1 : Int) else if 70 ≤ n then 2 else 0) = (1 : Int) := by (repeat' split) <;> first | rfl | omega | (exfalso; omega) | contradiction
    refine z_if_eq (tgt := 39) hx hb (by decide) dX6_append_34 (by decide) (fun c_34 => ?_) (fun c_34 => ?_)
    · exfalso; omega
    · skip
      refine lv_iconst (v := iZ 0) hx hb dX6_append_37 rfl ?_
      exact g_iret (post := fun z M1 => ((if ¬ (0 ≤ a ∧ a ≤ 255) then (1 : Int) else if 70 ≤ n then 2 else 0) = 0 → z = (n : Int) + 1 ∧ M1 = q_wr (q_wr (q_wr M 169 0 0) 170 n a) 169 2 ((n : Int) + 1)) ∧ ((if ¬ (0 ≤ a ∧ a ≤ 255) then (1 : Int) else if 70 ≤ n then 2 else 0) ≠ 0 → q_ms M M1) ∧ M1 169 0 = (if ¬ (0 ≤ a ∧ a ≤ 255) then (1 : Int) else if 70 ≤ n then 2 else 0)) (z := 0) hx hb hr hG hlocks (⟨fun h9 => absurd h9 (by rw [hcd9]; decide), fun _ => (q_mq.rf hM10).2, by rw [hcd9]; exact (q_mq.rf hM10).1⟩) dX6_append_38
set_option maxHeartbeats 4000000 in
set_option maxRecDepth 100000 in
theorem c_X6_clearText (l : Launch) (G : gG) (M : Nat → Nat → Int) (hdm : ∀ k, k < 179 → gdm G k) (n : Nat) (hn : n ≤ 70) (h1 : M 169 2 = (n : Int)) : gMi l yX6_clearText wsX6_clearText ({ frames := 0, cells := 0, slots := 0, locals := 0 } : Room) G M [.ref (gad G 169)] (fun z M1 => z = (n : Int) ∧ M1 = q_wr (q_wr M 169 0 0) 169 2 0) := by
  refine gMi_of (cc := cX6_clearText) (maxL := 2) (ret := some .int) (by decide) rfl (Nat.le_of_ble_eq_true rfl) ?_
  intro p e s m below meth c ls hx hb hr hml hown hts hlocks hl hG
  have hown : s.vm.findClass RX6 = some m.cls := hown
  have hl : lv_has ls 2 [(0, .ref (gad G 169))] := hl
  have hinX6 : ∀ w ∈ u_ws RX6 TX6 13, w ∈ wsX6_clearText := by decide +kernel
  have f39 := hts (.fieldLink RX6 39 "DogTrialsModel" "refusal" "I") (by decide +kernel)
  have f99 := hts (.fieldLink RX6 99 "DogTrialsModel" "textSize" "I") (by decide +kernel)
  refine lv_aload_n hx hb dX6_clearText_0 rfl (lv_at hl 0 rfl) ?_
  refine lv_iconst (v := iZ 0) hx hb dX6_clearText_1 rfl ?_
  refine g_put (F := (oR G)) hx hb hts hinX6 tyX6 tyX6_ok nmX6 hown hG (o := 169) (hdm 169 (by decide)) (fun f => rfl) rfl 0 (by decide) f39 (fun _ h => h) rfl rfl (fun _ => Nat.lt_of_lt_of_le (by decide) (Nat.le_refl 13)) (fun _ => rfl) dX6_clearText_2 (fun H locs hG => ?_)
  obtain ⟨M1, hM1⟩ : ∃ X, X = (q_wr M 169 0 0) := ⟨_, rfl⟩
  rw [← hM1] at hG
  refine lv_aload_n hx hb dX6_clearText_5 rfl (lv_at hl 0 rfl) ?_
  refine g_geti (z := (n : Int)) hx hb hts hinX6 hown hG (o := 169) (hdm 169 (by decide)) rfl rfl 2 (by decide) f99 (fun _ h => h) rfl (by rw [hM1, wr_ne _ _ _ (by decide)]; exact h1) dX6_clearText_6 ?_
  refine lv_istore_n (lv' := [(1, .int (iZ (n : Int))), (0, .ref (gad G 169))]) hx hb dX6_clearText_9 rfl hl (by decide) rfl (fun ls hl => ?_)
  refine lv_aload_n hx hb dX6_clearText_10 rfl (lv_at hl 1 rfl) ?_
  refine lv_iconst (v := iZ 0) hx hb dX6_clearText_11 rfl ?_
  refine g_put (F := (oR G)) hx hb hts hinX6 tyX6 tyX6_ok nmX6 hown hG (o := 169) (hdm 169 (by decide)) (fun f => rfl) rfl 2 (by decide) f99 (fun _ h => h) rfl rfl (fun _ => Nat.lt_of_lt_of_le (by decide) (Nat.le_refl 13)) (fun _ => rfl) dX6_clearText_12 (fun H locs hG => ?_)
  obtain ⟨M2, hM2⟩ : ∃ X, X = (q_wr M1 169 2 0) := ⟨_, rfl⟩
  rw [← hM2] at hG
  refine lv_iload_n hx hb dX6_clearText_15 rfl (lv_at hl 0 rfl) ?_
  exact g_iret (post := fun z M1 => z = (n : Int) ∧ M1 = q_wr (q_wr M 169 0 0) 169 2 0) (z := (n : Int)) hx hb hr hG hlocks (⟨rfl, by rw [hM2, hM1]⟩) dX6_clearText_16
set_option maxHeartbeats 4000000 in
set_option maxRecDepth 100000 in
theorem c_X6_errorPosition (l : Launch) (G : gG) (M : Nat → Nat → Int) (hdm : ∀ k, k < 179 → gdm G k) (T : Nat → Int) (n : Nat) (hn : n ≤ 70) (hTx : M 170 = T) (h1 : M 169 2 = (n : Int)) (hch : ∀ j, j < n → 0 ≤ T j ∧ T j ≤ 255) : gMi l yX6_errorPosition wsX6_errorPosition ({ frames := 6, cells := 0, slots := 0, locals := 131 } : Room) G M [.ref (gad G 169)] (fun z M1 => z = q_err T n ∧ q_mq 0 M M1) := by
  refine gMi_of (cc := cX6_errorPosition) (maxL := 1) (ret := some .int) (by decide) rfl (Nat.le_of_ble_eq_true rfl) ?_
  intro p e s m below meth c ls hx hb hr hml hown hts hlocks hl hG
  have hown : s.vm.findClass RX6 = some m.cls := hown
  have hl : lv_has ls 1 [(0, .ref (gad G 169))] := hl
  have hinX6 : ∀ w ∈ u_ws RX6 TX6 13, w ∈ wsX6_errorPosition := by decide +kernel
  have f39 := hts (.fieldLink RX6 39 "DogTrialsModel" "refusal" "I") (by decide +kernel)
  have f105 := hts (.fieldLink RX6 105 "DogTrialsModel" "spot" "I") (by decide +kernel)
  have hsz9 := q_rdt_in T n
  refine lv_aload_n hx hb dX6_errorPosition_0 rfl (lv_at hl 0 rfl) ?_
  refine lv_iconst (v := iZ 0) hx hb dX6_errorPosition_1 rfl ?_
  refine g_put (F := (oR G)) hx hb hts hinX6 tyX6 tyX6_ok nmX6 hown hG (o := 169) (hdm 169 (by decide)) (fun f => rfl) rfl 0 (by decide) f39 (fun _ h => h) rfl rfl (fun _ => Nat.lt_of_lt_of_le (by decide) (Nat.le_refl 13)) (fun _ => rfl) dX6_errorPosition_2 (fun H locs hG => ?_)
  obtain ⟨M1, hM1⟩ : ∃ X, X = (q_wr M 169 0 0) := ⟨_, rfl⟩
  rw [← hM1] at hG
  refine lv_aload_n hx hb dX6_errorPosition_5 rfl (lv_at hl 0 rfl) ?_
  refine g_callV (b := 169) (As := []) (rest := []) ⟨hx, hb, hml, hown, hts⟩ (c_X6_readAll l G M1 hdm T n hn (by rw [hM1, wr_off _ _ _ (by decide)]; exact hTx) (by rw [hM1, wr_ne _ _ _ (by decide)]; exact h1) hch) (cwV 0 hts gX6_errorPosition_X6_readAll rfl rfl rfl (by decide +kernel) ⟨Nat.le_of_ble_eq_true rfl, Nat.le_of_ble_eq_true rfl⟩) hG (g_recv hG (b := 169) (hdm 169 (by decide)) rfl rfl) rfl hl.1 rfl (Nat.le_of_ble_eq_true rfl) dX6_errorPosition_6 ⟨Nat.zero_le _, Nat.zero_le _⟩ (fun z2 M3 H locs hp_6 hG => ?_)
  obtain ⟨hz_6, h2_M3, hfm_M3, hpg_M3⟩ := hp_6; replace hz_6 := hz_6.symm; subst hz_6
  refine z_ifP_eq (tgt := 17) hx hb dX6_errorPosition_9 (by decide) (fun c_9 => ?_) (fun c_9 => ?_)
  · skip
    refine lv_aload_n hx hb dX6_errorPosition_17 rfl (lv_at hl 0 rfl) ?_
    refine g_geti (z := ((q_rdt T n).2.1 : Int)) hx hb hts hinX6 hown hG (o := 169) (hdm 169 (by decide)) rfl rfl 3 (by decide) f105 (fun _ h => h) rfl h2_M3 dX6_errorPosition_18 ?_
    exact g_iret (post := fun z M1 => z = q_err T n ∧ q_mq 0 M M1) (z := ((q_rdt T n).2.1 : Int)) hx hb hr hG hlocks (⟨by unfold q_err; first | (rw [if_pos (by assumption)]; done) | (rw [if_neg (by assumption)]; done), (q_mq.rd (q_mq.rf hM1) hfm_M3)⟩) dX6_errorPosition_21
  · skip
    refine lv_bipush (v := iZ (-9)) hx hb dX6_errorPosition_12 (by decide) ?_
    refine lv_goto (tgt := 21) hx hb dX6_errorPosition_14 (by decide) ?_
    exact g_iret (post := fun z M1 => z = q_err T n ∧ q_mq 0 M M1) (z := (-9)) hx hb hr hG hlocks (⟨by unfold q_err; first | (rw [if_pos (by assumption)]; done) | (rw [if_neg (by assumption)]; done), (q_mq.rd (q_mq.rf hM1) hfm_M3)⟩) dX6_errorPosition_21
set_option maxHeartbeats 4000000 in
set_option maxRecDepth 100000 in
theorem c_X6_about (l : Launch) (G : gG) (M : Nat → Nat → Int) (hdm : ∀ k, k < 179 → gdm G k) (R : Nat → Int) (hRM : M 172 = R) (hI : q_inv R) (a : Int) (ha9 : -2147483648 ≤ a ∧ a < 2147483648) : gMi l yX6_about wsX6_about ({ frames := 4, cells := 0, slots := 0, locals := 84 } : Room) G M [.ref (gad G 169), .int (iZ a)] (fun z M1 => ((if 0 ≤ a ∧ a ≤ 16 then (0 : Int) else 1) = 0 → z = q_abt R a) ∧ q_mq (if 0 ≤ a ∧ a ≤ 16 then (0 : Int) else 1) M M1) := by
  refine gMi_of (cc := cX6_about) (maxL := 2) (ret := some .int) (by decide) rfl (Nat.le_of_ble_eq_true rfl) ?_
  intro p e s m below meth c ls hx hb hr hml hown hts hlocks hl hG
  have hown : s.vm.findClass RX6 = some m.cls := hown
  have hl : lv_has ls 2 [(0, .ref (gad G 169)), (1, .int (iZ a))] := hl
  have hinX6 : ∀ w ∈ u_ws RX6 TX6 13, w ∈ wsX6_about := by decide +kernel
  have f16 := hts (.fieldLink RX6 16 "DogTrialsModel" "now" "[I") (by decide +kernel)
  have hnd := hI.1
  refine lv_aload_n hx hb dX6_about_0 rfl (lv_at hl 0 rfl) ?_
  refine lv_iload_n hx hb dX6_about_1 rfl (lv_at hl 1 rfl) ?_
  refine z_i2l hx hb (by omega) dX6_about_2 ?_
  refine lv_lconst (v := lZ 0) hx hb dX6_about_3 rfl ?_
  refine lv_ldc2 (v := lZ 16) hx hb hown (by rw [show lZ 16 = (16 : Int64) from by decide]; exact hts (.constantLong RX6 152 16) (by decide +kernel)) dX6_about_4 ?_
  refine g_callS (As := [.long (lZ a), .long (lZ 0), .long (lZ 16)]) (rest := [.ref (gad G 169)]) ⟨hx, hb, hml, hown, hts⟩ (c_X6_in l G M a 0 16 (by omega) (by omega) (by omega)) (va_cwS 3 hts gX6_about_X6_in rfl rfl rfl (by decide +kernel) ⟨Nat.le_of_ble_eq_true rfl, Nat.le_of_ble_eq_true rfl⟩) hG rfl hl.1 rfl (Nat.le_of_ble_eq_true rfl) dX6_about_7 ⟨Nat.zero_le _, Nat.zero_le _⟩ (fun z1 M2 H locs hp_7 hG => ?_)
  obtain ⟨hz_7, hM_7⟩ := hp_7; replace hz_7 := hz_7.symm; subst hz_7; replace hM_7 := hM_7.symm; subst hM_7
  refine z_ifP_eq (tgt := 17) hx hb dX6_about_10 (by decide) (fun c_10 => ?_) (fun c_10 => ?_)
  · skip
    refine lv_iconst (v := iZ 1) hx hb dX6_about_17 rfl ?_
    refine g_callV (b := 169) (As := [.int (iZ 1)]) (rest := []) ⟨hx, hb, hml, hown, hts⟩ (c_X6_refused l G M hdm 1 (by omega)) (cwV 1 hts gX6_about_X6_refused rfl rfl rfl (by decide +kernel) ⟨Nat.le_of_ble_eq_true rfl, Nat.le_of_ble_eq_true rfl⟩) hG (g_recv hG (b := 169) (hdm 169 (by decide)) rfl rfl) rfl hl.1 rfl (Nat.le_of_ble_eq_true rfl) dX6_about_18 ⟨Nat.zero_le _, Nat.zero_le _⟩ (fun z3 M4 H locs hp_18 hG => ?_)
    obtain ⟨hz_18, hM4⟩ := hp_18; rw [if_pos (by decide)] at hz_18; replace hz_18 := hz_18.symm; subst hz_18
    have hpv_M4_172 : M4 172 = R := Eq.trans (by rw [hM4]; exact wr_off _ _ _ (by decide)) hRM
    have hcd9 : (if 0 ≤ a ∧ a ≤ 16 then (0 : Int) else 1) = (1 : Int) := by (repeat' split) <;> first | rfl | omega | (exfalso; omega) | contradiction
    refine z_if_eq (tgt := 26) hx hb (by decide) dX6_about_21 (by decide) (fun c_21 => ?_) (fun c_21 => ?_)
    · exfalso; omega
    · skip
      refine lv_iconst (v := iZ 0) hx hb dX6_about_24 rfl ?_
      exact g_iret (post := fun z M1 => ((if 0 ≤ a ∧ a ≤ 16 then (0 : Int) else 1) = 0 → z = q_abt R a) ∧ q_mq (if 0 ≤ a ∧ a ≤ 16 then (0 : Int) else 1) M M1) (z := 0) hx hb hr hG hlocks (⟨fun h9 => absurd h9 (by rw [hcd9]; decide), by rw [hcd9]; exact (q_mq.rf hM4)⟩) dX6_about_25
  · skip
    refine lv_iconst (v := iZ 0) hx hb dX6_about_13 rfl ?_
    refine lv_goto (tgt := 18) hx hb dX6_about_14 (by decide) ?_
    refine g_callV (b := 169) (As := [.int (iZ 0)]) (rest := []) ⟨hx, hb, hml, hown, hts⟩ (c_X6_refused l G M hdm 0 (by omega)) (cwV 1 hts gX6_about_X6_refused rfl rfl rfl (by decide +kernel) ⟨Nat.le_of_ble_eq_true rfl, Nat.le_of_ble_eq_true rfl⟩) hG (g_recv hG (b := 169) (hdm 169 (by decide)) rfl rfl) rfl hl.1 rfl (Nat.le_of_ble_eq_true rfl) dX6_about_18 ⟨Nat.zero_le _, Nat.zero_le _⟩ (fun z5 M6 H locs hp_18 hG => ?_)
    obtain ⟨hz_18, hM6⟩ := hp_18; rw [if_neg (by decide)] at hz_18; replace hz_18 := hz_18.symm; subst hz_18
    have hpv_M6_172 : M6 172 = R := Eq.trans (by rw [hM6]; exact wr_off _ _ _ (by decide)) hRM
    have hcd9 : (if 0 ≤ a ∧ a ≤ 16 then (0 : Int) else 1) = (0 : Int) := by (repeat' split) <;> first | rfl | omega | (exfalso; omega) | contradiction
    refine z_if_eq (tgt := 26) hx hb (by decide) dX6_about_21 (by decide) (fun c_21 => ?_) (fun c_21 => ?_)
    · skip
      refine lv_iload_n hx hb dX6_about_26 rfl (lv_at hl 1 rfl) ?_
      have hsw_27 : (iZ a).toInt = a := iZ_int (by omega)
      by_cases c_27 : a < 0 ∨ 10 < a
      · refine lv_tableOut (tgt := 122) hx hb dX6_about_27 (by rw [hsw_27]; exact c_27) (by decide) ?_
        refine lv_aload_n hx hb dX6_about_122 rfl (lv_at hl 0 rfl) ?_
        refine g_get hx hb hts hinX6 hown hG (o := 169) (hdm 169 (by decide)) rfl rfl 5 (by decide) f16 (fun _ h => h) rfl dX6_about_123 ?_
        refine lv_bipush (v := iZ (8)) hx hb dX6_about_126 (by decide) ?_
        refine lv_iload_n hx hb dX6_about_128 rfl (lv_at hl 1 rfl) ?_
        refine z_iadd (z := (a + 8)) hx hb (by omega) dX6_about_129 ?_
        refine lv_bipush (v := iZ (11)) hx hb dX6_about_130 (by decide) ?_
        refine z_isub (z := (a - 3)) hx hb (by omega) dX6_about_132 ?_
        refine g_iald (z := (R (a - 3).toNat)) (j := (a - 3).toNat) hx hb hG (o := 172) (hdm 172 (by decide)) rfl (by omega) (by omega) (by omega) (by rw [hpv_M6_172]) dX6_about_133 ?_
        exact g_iret (post := fun z M1 => ((if 0 ≤ a ∧ a ≤ 16 then (0 : Int) else 1) = 0 → z = q_abt R a) ∧ q_mq (if 0 ≤ a ∧ a ≤ 16 then (0 : Int) else 1) M M1) (z := (R (a - 3).toNat)) hx hb hr hG hlocks (⟨fun _ => by unfold q_abt; rw [if_neg (by omega), if_neg (by omega), if_neg (by omega), if_neg (by omega), if_neg (by omega)], by rw [hcd9]; exact (q_mq.rf hM6)⟩) dX6_about_134
      · rcases (show a = 0 ∨ 0 < a by omega) with e_27 | e_27
        · skip
          refine lv_tableIn (off := 57) (tgt := 84) hx hb dX6_about_27 (by rw [hsw_27]; omega) (by rw [hsw_27]; omega) (by rw [hsw_27, e_27]; rfl) (by decide) ?_
          refine lv_aload_n hx hb dX6_about_84 rfl (lv_at hl 0 rfl) ?_
          refine g_get hx hb hts hinX6 hown hG (o := 169) (hdm 169 (by decide)) rfl rfl 5 (by decide) f16 (fun _ h => h) rfl dX6_about_85 ?_
          refine lv_bipush (v := iZ (7)) hx hb dX6_about_88 (by decide) ?_
          refine g_iald (z := (q_nd R)) (j := 7) hx hb hG (o := 172) (hdm 172 (by decide)) rfl (by omega) (by omega) (by omega) (by rw [hpv_M6_172] <;> rfl) dX6_about_90 ?_
          exact g_iret (post := fun z M1 => ((if 0 ≤ a ∧ a ≤ 16 then (0 : Int) else 1) = 0 → z = q_abt R a) ∧ q_mq (if 0 ≤ a ∧ a ≤ 16 then (0 : Int) else 1) M M1) (z := (q_nd R)) hx hb hr hG hlocks (⟨fun _ => by unfold q_abt; rw [e_27]; rfl, by rw [hcd9]; exact (q_mq.rf hM6)⟩) dX6_about_91
        · rcases (show a = 1 ∨ 1 < a by omega) with e_27 | e_27
          · skip
            refine lv_tableIn (off := 65) (tgt := 92) hx hb dX6_about_27 (by rw [hsw_27]; omega) (by rw [hsw_27]; omega) (by rw [hsw_27, e_27]; rfl) (by decide) ?_
            refine lv_aload_n hx hb dX6_about_92 rfl (lv_at hl 0 rfl) ?_
            refine g_get hx hb hts hinX6 hown hG (o := 169) (hdm 169 (by decide)) rfl rfl 5 (by decide) f16 (fun _ h => h) rfl dX6_about_93 ?_
            refine g_callS (As := [.ref (gad G 172)]) (rest := []) ⟨hx, hb, hml, hown, hts⟩ (c_X6_waiting l G M6 hdm 172 (Or.inr (Or.inl rfl)) (by rw [hpv_M6_172]; exact hI)) (va_cwS 1 hts gX6_about_X6_waiting rfl rfl rfl (by decide +kernel) ⟨Nat.le_of_ble_eq_true rfl, Nat.le_of_ble_eq_true rfl⟩) hG rfl hl.1 rfl (Nat.le_of_ble_eq_true rfl) dX6_about_96 ⟨Nat.zero_le _, Nat.zero_le _⟩ (fun z7 M8 H locs hp_96 hG => ?_)
            rw [hpv_M6_172] at hp_96
            obtain ⟨hz_96, hM_96⟩ := hp_96; replace hz_96 := hz_96.symm; subst hz_96; replace hM_96 := hM_96.symm; subst hM_96
            exact g_iret (post := fun z M1 => ((if 0 ≤ a ∧ a ≤ 16 then (0 : Int) else 1) = 0 → z = q_abt R a) ∧ q_mq (if 0 ≤ a ∧ a ≤ 16 then (0 : Int) else 1) M M1) (z := (q_nwait R)) hx hb hr hG hlocks (⟨fun _ => by unfold q_abt; rw [e_27]; rfl, by rw [hcd9]; exact (q_mq.rf hM6)⟩) dX6_about_99
          · rcases (show a = 2 ∨ 2 < a by omega) with e_27 | e_27
            · skip
              refine lv_tableIn (off := 73) (tgt := 100) hx hb dX6_about_27 (by rw [hsw_27]; omega) (by rw [hsw_27]; omega) (by rw [hsw_27, e_27]; rfl) (by decide) ?_
              refine lv_aload_n hx hb dX6_about_100 rfl (lv_at hl 0 rfl) ?_
              refine g_get hx hb hts hinX6 hown hG (o := 169) (hdm 169 (by decide)) rfl rfl 5 (by decide) f16 (fun _ h => h) rfl dX6_about_101 ?_
              refine g_callS (As := [.ref (gad G 172)]) (rest := []) ⟨hx, hb, hml, hown, hts⟩ (c_X6_runners l G M6 hdm 172 (Or.inr (Or.inl rfl)) (by rw [hpv_M6_172]; exact hI)) (va_cwS 1 hts gX6_about_X6_runners rfl rfl rfl (by decide +kernel) ⟨Nat.le_of_ble_eq_true rfl, Nat.le_of_ble_eq_true rfl⟩) hG rfl hl.1 rfl (Nat.le_of_ble_eq_true rfl) dX6_about_104 ⟨Nat.zero_le _, Nat.zero_le _⟩ (fun z9 M10 H locs hp_104 hG => ?_)
              rw [hpv_M6_172] at hp_104
              obtain ⟨hz_104, hM_104⟩ := hp_104; replace hz_104 := hz_104.symm; subst hz_104; replace hM_104 := hM_104.symm; subst hM_104
              exact g_iret (post := fun z M1 => ((if 0 ≤ a ∧ a ≤ 16 then (0 : Int) else 1) = 0 → z = q_abt R a) ∧ q_mq (if 0 ≤ a ∧ a ≤ 16 then (0 : Int) else 1) M M1) (z := (q_nrun R)) hx hb hr hG hlocks (⟨fun _ => by unfold q_abt; rw [e_27]; rfl, by rw [hcd9]; exact (q_mq.rf hM6)⟩) dX6_about_107
            · rcases (show a = 3 ∨ 3 < a by omega) with e_27 | e_27
              · skip
                refine lv_tableIn (off := 81) (tgt := 108) hx hb dX6_about_27 (by rw [hsw_27]; omega) (by rw [hsw_27]; omega) (by rw [hsw_27, e_27]; rfl) (by decide) ?_
                refine lv_aload_n hx hb dX6_about_108 rfl (lv_at hl 0 rfl) ?_
                refine g_callV (b := 169) (As := []) (rest := []) ⟨hx, hb, hml, hown, hts⟩ (c_X6_gone l G M6 hdm (by rw [hpv_M6_172]; exact hI)) (cwV 0 hts gX6_about_X6_gone rfl rfl rfl (by decide +kernel) ⟨Nat.le_of_ble_eq_true rfl, Nat.le_of_ble_eq_true rfl⟩) hG (g_recv hG (b := 169) (hdm 169 (by decide)) rfl rfl) rfl hl.1 rfl (Nat.le_of_ble_eq_true rfl) dX6_about_109 ⟨Nat.zero_le _, Nat.zero_le _⟩ (fun z11 M12 H locs hp_109 hG => ?_)
                obtain ⟨hz_109, hM_109⟩ := hp_109; replace hz_109 := hz_109.symm; subst hz_109; replace hM_109 := hM_109.symm; subst hM_109
                rw [hpv_M6_172]
                exact g_iret (post := fun z M1 => ((if 0 ≤ a ∧ a ≤ 16 then (0 : Int) else 1) = 0 → z = q_abt R a) ∧ q_mq (if 0 ≤ a ∧ a ≤ 16 then (0 : Int) else 1) M M1) (z := (q_ngone R)) hx hb hr hG hlocks (⟨fun _ => by unfold q_abt; rw [e_27]; rfl, by rw [hcd9]; exact (q_mq.rf hM6)⟩) dX6_about_112
              · rcases (show a = 4 ∨ 4 < a by omega) with e_27 | e_27
                · skip
                  refine lv_tableIn (off := 86) (tgt := 113) hx hb dX6_about_27 (by rw [hsw_27]; omega) (by rw [hsw_27]; omega) (by rw [hsw_27, e_27]; rfl) (by decide) ?_
                  refine lv_aload_n hx hb dX6_about_113 rfl (lv_at hl 0 rfl) ?_
                  refine g_get hx hb hts hinX6 hown hG (o := 169) (hdm 169 (by decide)) rfl rfl 5 (by decide) f16 (fun _ h => h) rfl dX6_about_114 ?_
                  refine lv_iload_n hx hb dX6_about_117 rfl (lv_at hl 1 rfl) ?_
                  refine lv_iconst (v := iZ 4) hx hb dX6_about_118 rfl ?_
                  refine z_isub (z := (a - 4)) hx hb (by omega) dX6_about_119 ?_
                  refine g_iald (z := (R (a - 4).toNat)) (j := (a - 4).toNat) hx hb hG (o := 172) (hdm 172 (by decide)) rfl (by omega) (by omega) (by omega) (by rw [hpv_M6_172]) dX6_about_120 ?_
                  exact g_iret (post := fun z M1 => ((if 0 ≤ a ∧ a ≤ 16 then (0 : Int) else 1) = 0 → z = q_abt R a) ∧ q_mq (if 0 ≤ a ∧ a ≤ 16 then (0 : Int) else 1) M M1) (z := (R (a - 4).toNat)) hx hb hr hG hlocks (⟨fun _ => by unfold q_abt; rw [if_neg (by omega), if_neg (by omega), if_neg (by omega), if_neg (by omega), if_pos (by omega)], by rw [hcd9]; exact (q_mq.rf hM6)⟩) dX6_about_121
                · rcases (show a = 5 ∨ 5 < a by omega) with e_27 | e_27
                  · skip
                    refine lv_tableIn (off := 86) (tgt := 113) hx hb dX6_about_27 (by rw [hsw_27]; omega) (by rw [hsw_27]; omega) (by rw [hsw_27, e_27]; rfl) (by decide) ?_
                    refine lv_aload_n hx hb dX6_about_113 rfl (lv_at hl 0 rfl) ?_
                    refine g_get hx hb hts hinX6 hown hG (o := 169) (hdm 169 (by decide)) rfl rfl 5 (by decide) f16 (fun _ h => h) rfl dX6_about_114 ?_
                    refine lv_iload_n hx hb dX6_about_117 rfl (lv_at hl 1 rfl) ?_
                    refine lv_iconst (v := iZ 4) hx hb dX6_about_118 rfl ?_
                    refine z_isub (z := (a - 4)) hx hb (by omega) dX6_about_119 ?_
                    refine g_iald (z := (R (a - 4).toNat)) (j := (a - 4).toNat) hx hb hG (o := 172) (hdm 172 (by decide)) rfl (by omega) (by omega) (by omega) (by rw [hpv_M6_172]) dX6_about_120 ?_
                    exact g_iret (post := fun z M1 => ((if 0 ≤ a ∧ a ≤ 16 then (0 : Int) else 1) = 0 → z = q_abt R a) ∧ q_mq (if 0 ≤ a ∧ a ≤ 16 then (0 : Int) else 1) M M1) (z := (R (a - 4).toNat)) hx hb hr hG hlocks (⟨fun _ => by unfold q_abt; rw [if_neg (by omega), if_neg (by omega), if_neg (by omega), if_neg (by omega), if_pos (by omega)], by rw [hcd9]; exact (q_mq.rf hM6)⟩) dX6_about_121
                  · rcases (show a = 6 ∨ 6 < a by omega) with e_27 | e_27
                    · skip
                      refine lv_tableIn (off := 86) (tgt := 113) hx hb dX6_about_27 (by rw [hsw_27]; omega) (by rw [hsw_27]; omega) (by rw [hsw_27, e_27]; rfl) (by decide) ?_
                      refine lv_aload_n hx hb dX6_about_113 rfl (lv_at hl 0 rfl) ?_
                      refine g_get hx hb hts hinX6 hown hG (o := 169) (hdm 169 (by decide)) rfl rfl 5 (by decide) f16 (fun _ h => h) rfl dX6_about_114 ?_
                      refine lv_iload_n hx hb dX6_about_117 rfl (lv_at hl 1 rfl) ?_
                      refine lv_iconst (v := iZ 4) hx hb dX6_about_118 rfl ?_
                      refine z_isub (z := (a - 4)) hx hb (by omega) dX6_about_119 ?_
                      refine g_iald (z := (R (a - 4).toNat)) (j := (a - 4).toNat) hx hb hG (o := 172) (hdm 172 (by decide)) rfl (by omega) (by omega) (by omega) (by rw [hpv_M6_172]) dX6_about_120 ?_
                      exact g_iret (post := fun z M1 => ((if 0 ≤ a ∧ a ≤ 16 then (0 : Int) else 1) = 0 → z = q_abt R a) ∧ q_mq (if 0 ≤ a ∧ a ≤ 16 then (0 : Int) else 1) M M1) (z := (R (a - 4).toNat)) hx hb hr hG hlocks (⟨fun _ => by unfold q_abt; rw [if_neg (by omega), if_neg (by omega), if_neg (by omega), if_neg (by omega), if_pos (by omega)], by rw [hcd9]; exact (q_mq.rf hM6)⟩) dX6_about_121
                    · rcases (show a = 7 ∨ 7 < a by omega) with e_27 | e_27
                      · skip
                        refine lv_tableIn (off := 86) (tgt := 113) hx hb dX6_about_27 (by rw [hsw_27]; omega) (by rw [hsw_27]; omega) (by rw [hsw_27, e_27]; rfl) (by decide) ?_
                        refine lv_aload_n hx hb dX6_about_113 rfl (lv_at hl 0 rfl) ?_
                        refine g_get hx hb hts hinX6 hown hG (o := 169) (hdm 169 (by decide)) rfl rfl 5 (by decide) f16 (fun _ h => h) rfl dX6_about_114 ?_
                        refine lv_iload_n hx hb dX6_about_117 rfl (lv_at hl 1 rfl) ?_
                        refine lv_iconst (v := iZ 4) hx hb dX6_about_118 rfl ?_
                        refine z_isub (z := (a - 4)) hx hb (by omega) dX6_about_119 ?_
                        refine g_iald (z := (R (a - 4).toNat)) (j := (a - 4).toNat) hx hb hG (o := 172) (hdm 172 (by decide)) rfl (by omega) (by omega) (by omega) (by rw [hpv_M6_172]) dX6_about_120 ?_
                        exact g_iret (post := fun z M1 => ((if 0 ≤ a ∧ a ≤ 16 then (0 : Int) else 1) = 0 → z = q_abt R a) ∧ q_mq (if 0 ≤ a ∧ a ≤ 16 then (0 : Int) else 1) M M1) (z := (R (a - 4).toNat)) hx hb hr hG hlocks (⟨fun _ => by unfold q_abt; rw [if_neg (by omega), if_neg (by omega), if_neg (by omega), if_neg (by omega), if_pos (by omega)], by rw [hcd9]; exact (q_mq.rf hM6)⟩) dX6_about_121
                      · rcases (show a = 8 ∨ 8 < a by omega) with e_27 | e_27
                        · skip
                          refine lv_tableIn (off := 86) (tgt := 113) hx hb dX6_about_27 (by rw [hsw_27]; omega) (by rw [hsw_27]; omega) (by rw [hsw_27, e_27]; rfl) (by decide) ?_
                          refine lv_aload_n hx hb dX6_about_113 rfl (lv_at hl 0 rfl) ?_
                          refine g_get hx hb hts hinX6 hown hG (o := 169) (hdm 169 (by decide)) rfl rfl 5 (by decide) f16 (fun _ h => h) rfl dX6_about_114 ?_
                          refine lv_iload_n hx hb dX6_about_117 rfl (lv_at hl 1 rfl) ?_
                          refine lv_iconst (v := iZ 4) hx hb dX6_about_118 rfl ?_
                          refine z_isub (z := (a - 4)) hx hb (by omega) dX6_about_119 ?_
                          refine g_iald (z := (R (a - 4).toNat)) (j := (a - 4).toNat) hx hb hG (o := 172) (hdm 172 (by decide)) rfl (by omega) (by omega) (by omega) (by rw [hpv_M6_172]) dX6_about_120 ?_
                          exact g_iret (post := fun z M1 => ((if 0 ≤ a ∧ a ≤ 16 then (0 : Int) else 1) = 0 → z = q_abt R a) ∧ q_mq (if 0 ≤ a ∧ a ≤ 16 then (0 : Int) else 1) M M1) (z := (R (a - 4).toNat)) hx hb hr hG hlocks (⟨fun _ => by unfold q_abt; rw [if_neg (by omega), if_neg (by omega), if_neg (by omega), if_neg (by omega), if_pos (by omega)], by rw [hcd9]; exact (q_mq.rf hM6)⟩) dX6_about_121
                        · rcases (show a = 9 ∨ 9 < a by omega) with e_27 | e_27
                          · skip
                            refine lv_tableIn (off := 86) (tgt := 113) hx hb dX6_about_27 (by rw [hsw_27]; omega) (by rw [hsw_27]; omega) (by rw [hsw_27, e_27]; rfl) (by decide) ?_
                            refine lv_aload_n hx hb dX6_about_113 rfl (lv_at hl 0 rfl) ?_
                            refine g_get hx hb hts hinX6 hown hG (o := 169) (hdm 169 (by decide)) rfl rfl 5 (by decide) f16 (fun _ h => h) rfl dX6_about_114 ?_
                            refine lv_iload_n hx hb dX6_about_117 rfl (lv_at hl 1 rfl) ?_
                            refine lv_iconst (v := iZ 4) hx hb dX6_about_118 rfl ?_
                            refine z_isub (z := (a - 4)) hx hb (by omega) dX6_about_119 ?_
                            refine g_iald (z := (R (a - 4).toNat)) (j := (a - 4).toNat) hx hb hG (o := 172) (hdm 172 (by decide)) rfl (by omega) (by omega) (by omega) (by rw [hpv_M6_172]) dX6_about_120 ?_
                            exact g_iret (post := fun z M1 => ((if 0 ≤ a ∧ a ≤ 16 then (0 : Int) else 1) = 0 → z = q_abt R a) ∧ q_mq (if 0 ≤ a ∧ a ≤ 16 then (0 : Int) else 1) M M1) (z := (R (a - 4).toNat)) hx hb hr hG hlocks (⟨fun _ => by unfold q_abt; rw [if_neg (by omega), if_neg (by omega), if_neg (by omega), if_neg (by omega), if_pos (by omega)], by rw [hcd9]; exact (q_mq.rf hM6)⟩) dX6_about_121
                          · have e_27 : a = 10 := by omega
                            refine lv_tableIn (off := 86) (tgt := 113) hx hb dX6_about_27 (by rw [hsw_27]; omega) (by rw [hsw_27]; omega) (by rw [hsw_27, e_27]; rfl) (by decide) ?_
                            refine lv_aload_n hx hb dX6_about_113 rfl (lv_at hl 0 rfl) ?_
                            refine g_get hx hb hts hinX6 hown hG (o := 169) (hdm 169 (by decide)) rfl rfl 5 (by decide) f16 (fun _ h => h) rfl dX6_about_114 ?_
                            refine lv_iload_n hx hb dX6_about_117 rfl (lv_at hl 1 rfl) ?_
                            refine lv_iconst (v := iZ 4) hx hb dX6_about_118 rfl ?_
                            refine z_isub (z := (a - 4)) hx hb (by omega) dX6_about_119 ?_
                            refine g_iald (z := (R (a - 4).toNat)) (j := (a - 4).toNat) hx hb hG (o := 172) (hdm 172 (by decide)) rfl (by omega) (by omega) (by omega) (by rw [hpv_M6_172]) dX6_about_120 ?_
                            exact g_iret (post := fun z M1 => ((if 0 ≤ a ∧ a ≤ 16 then (0 : Int) else 1) = 0 → z = q_abt R a) ∧ q_mq (if 0 ≤ a ∧ a ≤ 16 then (0 : Int) else 1) M M1) (z := (R (a - 4).toNat)) hx hb hr hG hlocks (⟨fun _ => by unfold q_abt; rw [if_neg (by omega), if_neg (by omega), if_neg (by omega), if_neg (by omega), if_pos (by omega)], by rw [hcd9]; exact (q_mq.rf hM6)⟩) dX6_about_121
    · exfalso; omega
set_option maxHeartbeats 4000000 in
set_option maxRecDepth 100000 in
theorem c_X6_dog (l : Launch) (G : gG) (M : Nat → Nat → Int) (hdm : ∀ k, k < 179 → gdm G k) (R : Nat → Int) (hRM : M 172 = R) (hI : q_inv R) (a : Int) (ha9 : -2147483648 ≤ a ∧ a < 2147483648) (b : Int) (hb9 : -2147483648 ≤ b ∧ b < 2147483648) : gMi l yX6_dog wsX6_dog ({ frames := 5, cells := 0, slots := 0, locals := 114 } : Room) G M [.ref (gad G 169), .int (iZ a), .int (iZ b)] (fun z M1 => ((if ¬ (0 ≤ a ∧ a < q_nd R) then (1 : Int) else if ¬ (0 ≤ b ∧ b ≤ 7) then 2 else 0) = 0 → z = q_dga R a.toNat b) ∧ q_mq (if ¬ (0 ≤ a ∧ a < q_nd R) then (1 : Int) else if ¬ (0 ≤ b ∧ b ≤ 7) then 2 else 0) M M1) := by
  refine gMi_of (cc := cX6_dog) (maxL := 3) (ret := some .int) (by decide) rfl (Nat.le_of_ble_eq_true rfl) ?_
  intro p e s m below meth c ls hx hb hr hml hown hts hlocks hl hG
  have hown : s.vm.findClass RX6 = some m.cls := hown
  have hl : lv_has ls 3 [(0, .ref (gad G 169)), (1, .int (iZ a)), (2, .int (iZ b))] := hl
  have hinX6 : ∀ w ∈ u_ws RX6 TX6 13, w ∈ wsX6_dog := by decide +kernel
  have f16 := hts (.fieldLink RX6 16 "DogTrialsModel" "now" "[I") (by decide +kernel)
  have hnd := hI.1
  refine lv_aload_n hx hb dX6_dog_0 rfl (lv_at hl 0 rfl) ?_
  refine lv_aload_n hx hb dX6_dog_1 rfl (lv_at hl 0 rfl) ?_
  refine g_get hx hb hts hinX6 hown hG (o := 169) (hdm 169 (by decide)) rfl rfl 5 (by decide) f16 (fun _ h => h) rfl dX6_dog_2 ?_
  refine lv_iload_n hx hb dX6_dog_5 rfl (lv_at hl 1 rfl) ?_
  refine g_callS (As := [.ref (gad G 172), .int (iZ a)]) (rest := [.ref (gad G 169)]) ⟨hx, hb, hml, hown, hts⟩ (c_X6_isDog l G M hdm 172 (Or.inr (Or.inl rfl)) (by rw [hRM]; exact hI) a (by omega)) (va_cwS 2 hts gX6_dog_X6_isDog rfl rfl rfl (by decide +kernel) ⟨Nat.le_of_ble_eq_true rfl, Nat.le_of_ble_eq_true rfl⟩) hG rfl hl.1 rfl (Nat.le_of_ble_eq_true rfl) dX6_dog_6 ⟨Nat.zero_le _, Nat.zero_le _⟩ (fun z1 M2 H locs hp_6 hG => ?_)
  rw [hRM] at hp_6
  obtain ⟨hz_6, hM_6⟩ := hp_6; replace hz_6 := hz_6.symm; subst hz_6; replace hM_6 := hM_6.symm; subst hM_6
  refine z_ifP_ne (tgt := 16) hx hb dX6_dog_9 (by decide) (fun c_9 => ?_) (fun c_9 => ?_)
  · skip
    refine lv_iload_n hx hb dX6_dog_16 rfl (lv_at hl 2 rfl) ?_
    refine z_i2l hx hb (by omega) dX6_dog_17 ?_
    refine lv_lconst (v := lZ 0) hx hb dX6_dog_18 rfl ?_
    refine lv_ldc2 (v := lZ 7) hx hb hown (by rw [show lZ 7 = (7 : Int64) from by decide]; exact hts (.constantLong RX6 164 7) (by decide +kernel)) dX6_dog_19 ?_
    refine g_callS (As := [.long (lZ b), .long (lZ 0), .long (lZ 7)]) (rest := [.ref (gad G 169)]) ⟨hx, hb, hml, hown, hts⟩ (c_X6_in l G M b 0 7 (by omega) (by omega) (by omega)) (va_cwS 3 hts gX6_dog_X6_in rfl rfl rfl (by decide +kernel) ⟨Nat.le_of_ble_eq_true rfl, Nat.le_of_ble_eq_true rfl⟩) hG rfl hl.1 rfl (Nat.le_of_ble_eq_true rfl) dX6_dog_22 ⟨Nat.zero_le _, Nat.zero_le _⟩ (fun z3 M4 H locs hp_22 hG => ?_)
    obtain ⟨hz_22, hM_22⟩ := hp_22; replace hz_22 := hz_22.symm; subst hz_22; replace hM_22 := hM_22.symm; subst hM_22
    refine z_ifP_ne (tgt := 32) hx hb dX6_dog_25 (by decide) (fun c_25 => ?_) (fun c_25 => ?_)
    · skip
      refine lv_iconst (v := iZ 0) hx hb dX6_dog_32 rfl ?_
      refine g_callV (b := 169) (As := [.int (iZ 0)]) (rest := []) ⟨hx, hb, hml, hown, hts⟩ (c_X6_refused l G M hdm 0 (by omega)) (cwV 1 hts gX6_dog_X6_refused rfl rfl rfl (by decide +kernel) ⟨Nat.le_of_ble_eq_true rfl, Nat.le_of_ble_eq_true rfl⟩) hG (g_recv hG (b := 169) (hdm 169 (by decide)) rfl rfl) rfl hl.1 rfl (Nat.le_of_ble_eq_true rfl) dX6_dog_33 ⟨Nat.zero_le _, Nat.zero_le _⟩ (fun z5 M6 H locs hp_33 hG => ?_)
      obtain ⟨hz_33, hM6⟩ := hp_33; rw [if_neg (by decide)] at hz_33; replace hz_33 := hz_33.symm; subst hz_33
      have hpv_M6_172 : M6 172 = R := Eq.trans (by rw [hM6]; exact wr_off _ _ _ (by decide)) hRM
      have hcd9 : (if ¬ (0 ≤ a ∧ a < q_nd R) then (1 : Int) else if ¬ (0 ≤ b ∧ b ≤ 7) then 2 else 0) = (0 : Int) := by (repeat' split) <;> first | rfl | omega | (exfalso; omega) | contradiction
      refine z_if_eq (tgt := 41) hx hb (by decide) dX6_dog_36 (by decide) (fun c_36 => ?_) (fun c_36 => ?_)
      · skip
        have hna : a = ((a.toNat : Nat) : Int) := by omega
        have hdo := dok5 hI a.toNat (by omega)
        refine lv_iload_n hx hb dX6_dog_41 rfl (lv_at hl 2 rfl) ?_
        have hsw_42 : (iZ b).toInt = b := iZ_int (by omega)
        by_cases c_42 : b < 4 ∨ 7 < b
        · refine lv_tableOut (tgt := 108) hx hb dX6_dog_42 (by rw [hsw_42]; exact c_42) (by decide) ?_
          refine lv_aload_n hx hb dX6_dog_108 rfl (lv_at hl 0 rfl) ?_
          refine g_get hx hb hts hinX6 hown hG (o := 169) (hdm 169 (by decide)) rfl rfl 5 (by decide) f16 (fun _ h => h) rfl dX6_dog_109 ?_
          refine lv_iload_n hx hb dX6_dog_112 rfl (lv_at hl 1 rfl) ?_
          refine g_callS (As := [.int (iZ ((a.toNat) : Int))]) (rest := [.ref (gad G 172)]) ⟨hx, hb, hml, hown, hts⟩ (c_X6_dogAt l G M6 ((a.toNat) : Int)) (va_cwS 1 hts gX6_dog_X6_dogAt rfl rfl rfl (by decide +kernel) ⟨Nat.le_of_ble_eq_true rfl, Nat.le_of_ble_eq_true rfl⟩) hG rfl hl.1 (by rw [← hna]; rfl) (Nat.le_of_ble_eq_true rfl) dX6_dog_113 ⟨Nat.zero_le _, Nat.zero_le _⟩ (fun z7 M8 H locs hp_113 hG => ?_)
          obtain ⟨hz_113, hM_113⟩ := hp_113; replace hz_113 := hz_113.symm; subst hz_113; replace hM_113 := hM_113.symm; subst hM_113
          rw [show (14 + 11 * ((a.toNat) : Int) : Int) = (11 * ((a.toNat) : Int) + 14) from by omega]
          refine lv_iload_n hx hb dX6_dog_116 rfl (lv_at hl 2 rfl) ?_
          refine z_iadd (z := (11 * ((a.toNat) : Int) + b + 14)) hx hb (by omega) dX6_dog_117 ?_
          refine g_iald (z := (R (14 + 11 * a.toNat + b.toNat))) (j := (14 + 11 * a.toNat + b.toNat)) hx hb hG (o := 172) (hdm 172 (by decide)) rfl (by omega) (by omega) (by omega) (by rw [hpv_M6_172]) dX6_dog_118 ?_
          exact g_iret (post := fun z M1 => ((if ¬ (0 ≤ a ∧ a < q_nd R) then (1 : Int) else if ¬ (0 ≤ b ∧ b ≤ 7) then 2 else 0) = 0 → z = q_dga R a.toNat b) ∧ q_mq (if ¬ (0 ≤ a ∧ a < q_nd R) then (1 : Int) else if ¬ (0 ≤ b ∧ b ≤ 7) then 2 else 0) M M1) (z := (R (14 + 11 * a.toNat + b.toNat))) hx hb hr hG hlocks (⟨fun _ => by unfold q_dga; rw [if_neg (by omega), if_neg (by omega), if_neg (by omega), if_neg (by omega)], by rw [hcd9]; exact (q_mq.rf hM6)⟩) dX6_dog_119
        · rcases (show b = 4 ∨ 4 < b by omega) with e_42 | e_42
          · skip
            refine lv_tableIn (off := 30) (tgt := 72) hx hb dX6_dog_42 (by rw [hsw_42]; omega) (by rw [hsw_42]; omega) (by rw [hsw_42, e_42]; rfl) (by decide) ?_
            refine lv_aload_n hx hb dX6_dog_72 rfl (lv_at hl 0 rfl) ?_
            refine g_get hx hb hts hinX6 hown hG (o := 169) (hdm 169 (by decide)) rfl rfl 5 (by decide) f16 (fun _ h => h) rfl dX6_dog_73 ?_
            refine lv_iload_n hx hb dX6_dog_76 rfl (lv_at hl 1 rfl) ?_
            refine g_callS (As := [.ref (gad G 172), .int (iZ ((a.toNat) : Int))]) (rest := []) ⟨hx, hb, hml, hown, hts⟩ (c_X6_score l G M6 hdm 172 (Or.inr (Or.inl rfl)) (by rw [hpv_M6_172]; exact hI) ((a.toNat)) (by first | omega | (rw [hpv_M6_172]; omega))) (va_cwS 2 hts gX6_dog_X6_score rfl rfl rfl (by decide +kernel) ⟨Nat.le_of_ble_eq_true rfl, Nat.le_of_ble_eq_true rfl⟩) hG rfl hl.1 (by rw [← hna]; rfl) (Nat.le_of_ble_eq_true rfl) dX6_dog_77 ⟨Nat.zero_le _, Nat.zero_le _⟩ (fun z9 M10 H locs hp_77 hG => ?_)
            rw [hpv_M6_172] at hp_77
            obtain ⟨hz_77, hM_77⟩ := hp_77; replace hz_77 := hz_77.symm; subst hz_77; replace hM_77 := hM_77.symm; subst hM_77
            exact g_iret (post := fun z M1 => ((if ¬ (0 ≤ a ∧ a < q_nd R) then (1 : Int) else if ¬ (0 ≤ b ∧ b ≤ 7) then 2 else 0) = 0 → z = q_dga R a.toNat b) ∧ q_mq (if ¬ (0 ≤ a ∧ a < q_nd R) then (1 : Int) else if ¬ (0 ≤ b ∧ b ≤ 7) then 2 else 0) M M1) (z := (q_sc R ((a.toNat)))) hx hb hr hG hlocks (⟨fun _ => by unfold q_dga; rw [e_42]; rfl, by rw [hcd9]; exact (q_mq.rf hM6)⟩) dX6_dog_80
          · rcases (show b = 5 ∨ 5 < b by omega) with e_42 | e_42
            · skip
              refine lv_tableIn (off := 39) (tgt := 81) hx hb dX6_dog_42 (by rw [hsw_42]; omega) (by rw [hsw_42]; omega) (by rw [hsw_42, e_42]; rfl) (by decide) ?_
              refine lv_aload_n hx hb dX6_dog_81 rfl (lv_at hl 0 rfl) ?_
              refine g_get hx hb hts hinX6 hown hG (o := 169) (hdm 169 (by decide)) rfl rfl 5 (by decide) f16 (fun _ h => h) rfl dX6_dog_82 ?_
              refine lv_iload_n hx hb dX6_dog_85 rfl (lv_at hl 1 rfl) ?_
              refine g_callS (As := [.int (iZ ((a.toNat) : Int))]) (rest := [.ref (gad G 172)]) ⟨hx, hb, hml, hown, hts⟩ (c_X6_dogAt l G M6 ((a.toNat) : Int)) (va_cwS 1 hts gX6_dog_X6_dogAt rfl rfl rfl (by decide +kernel) ⟨Nat.le_of_ble_eq_true rfl, Nat.le_of_ble_eq_true rfl⟩) hG rfl hl.1 (by rw [← hna]; rfl) (Nat.le_of_ble_eq_true rfl) dX6_dog_86 ⟨Nat.zero_le _, Nat.zero_le _⟩ (fun z11 M12 H locs hp_86 hG => ?_)
              obtain ⟨hz_86, hM_86⟩ := hp_86; replace hz_86 := hz_86.symm; subst hz_86; replace hM_86 := hM_86.symm; subst hM_86
              rw [show (14 + 11 * ((a.toNat) : Int) : Int) = (11 * ((a.toNat) : Int) + 14) from by omega]
              refine lv_iconst (v := iZ 4) hx hb dX6_dog_89 rfl ?_
              refine z_iadd (z := (11 * ((a.toNat) : Int) + 18)) hx hb (by omega) dX6_dog_90 ?_
              refine g_iald (z := (q_fr R ((a.toNat)))) (j := (14 + 11 * ((a.toNat)) + 4)) hx hb hG (o := 172) (hdm 172 (by decide)) rfl (by omega) (by omega) (by omega) (by rw [hpv_M6_172] <;> rfl) dX6_dog_91 ?_
              exact g_iret (post := fun z M1 => ((if ¬ (0 ≤ a ∧ a < q_nd R) then (1 : Int) else if ¬ (0 ≤ b ∧ b ≤ 7) then 2 else 0) = 0 → z = q_dga R a.toNat b) ∧ q_mq (if ¬ (0 ≤ a ∧ a < q_nd R) then (1 : Int) else if ¬ (0 ≤ b ∧ b ≤ 7) then 2 else 0) M M1) (z := (q_fr R ((a.toNat)))) hx hb hr hG hlocks (⟨fun _ => by unfold q_dga; rw [e_42]; rfl, by rw [hcd9]; exact (q_mq.rf hM6)⟩) dX6_dog_92
            · rcases (show b = 6 ∨ 6 < b by omega) with e_42 | e_42
              · skip
                refine lv_tableIn (off := 51) (tgt := 93) hx hb dX6_dog_42 (by rw [hsw_42]; omega) (by rw [hsw_42]; omega) (by rw [hsw_42, e_42]; rfl) (by decide) ?_
                refine lv_aload_n hx hb dX6_dog_93 rfl (lv_at hl 0 rfl) ?_
                refine g_get hx hb hts hinX6 hown hG (o := 169) (hdm 169 (by decide)) rfl rfl 5 (by decide) f16 (fun _ h => h) rfl dX6_dog_94 ?_
                refine lv_iload_n hx hb dX6_dog_97 rfl (lv_at hl 1 rfl) ?_
                refine g_callS (As := [.ref (gad G 172), .int (iZ ((a.toNat) : Int))]) (rest := []) ⟨hx, hb, hml, hown, hts⟩ (c_X6_placeOf l G M6 hdm 172 (Or.inr (Or.inl rfl)) (by rw [hpv_M6_172]; exact hI) ((a.toNat)) (by first | omega | (rw [hpv_M6_172]; omega))) (va_cwS 2 hts gX6_dog_X6_placeOf rfl rfl rfl (by decide +kernel) ⟨Nat.le_of_ble_eq_true rfl, Nat.le_of_ble_eq_true rfl⟩) hG rfl hl.1 (by rw [← hna]; rfl) (Nat.le_of_ble_eq_true rfl) dX6_dog_98 ⟨Nat.zero_le _, Nat.zero_le _⟩ (fun z13 M14 H locs hp_98 hG => ?_)
                rw [hpv_M6_172] at hp_98
                obtain ⟨hz_98, hM_98⟩ := hp_98; replace hz_98 := hz_98.symm; subst hz_98; replace hM_98 := hM_98.symm; subst hM_98
                exact g_iret (post := fun z M1 => ((if ¬ (0 ≤ a ∧ a < q_nd R) then (1 : Int) else if ¬ (0 ≤ b ∧ b ≤ 7) then 2 else 0) = 0 → z = q_dga R a.toNat b) ∧ q_mq (if ¬ (0 ≤ a ∧ a < q_nd R) then (1 : Int) else if ¬ (0 ≤ b ∧ b ≤ 7) then 2 else 0) M M1) (z := (q_pl R ((a.toNat)))) hx hb hr hG hlocks (⟨fun _ => by unfold q_dga; rw [e_42]; rfl, by rw [hcd9]; exact (q_mq.rf hM6)⟩) dX6_dog_101
              · have e_42 : b = 7 := by omega
                refine lv_tableIn (off := 60) (tgt := 102) hx hb dX6_dog_42 (by rw [hsw_42]; omega) (by rw [hsw_42]; omega) (by rw [hsw_42, e_42]; rfl) (by decide) ?_
                refine lv_aload_n hx hb dX6_dog_102 rfl (lv_at hl 0 rfl) ?_
                refine lv_iload_n hx hb dX6_dog_103 rfl (lv_at hl 1 rfl) ?_
                refine g_callV (b := 169) (As := [.int (iZ a)]) (rest := []) ⟨hx, hb, hml, hown, hts⟩ (c_X6_inOrder l G M6 hdm (by rw [hpv_M6_172]; exact hI) a (by omega)) (cwV 1 hts gX6_dog_X6_inOrder rfl rfl rfl (by decide +kernel) ⟨Nat.le_of_ble_eq_true rfl, Nat.le_of_ble_eq_true rfl⟩) hG (g_recv hG (b := 169) (hdm 169 (by decide)) rfl rfl) rfl hl.1 rfl (Nat.le_of_ble_eq_true rfl) dX6_dog_104 ⟨Nat.zero_le _, Nat.zero_le _⟩ (fun z15 M16 H locs hp_104 hG => ?_)
                rw [hpv_M6_172] at hp_104; obtain ⟨hz_104, hoa_M16, hob_M16⟩ := hp_104; replace hz_104 := hz_104.symm; subst hz_104
                have hpv_M16_172 : M16 172 = R := Eq.trans (hoa_M16 172 (by decide) (by decide)) hpv_M6_172
                exact g_iret (post := fun z M1 => ((if ¬ (0 ≤ a ∧ a < q_nd R) then (1 : Int) else if ¬ (0 ≤ b ∧ b ≤ 7) then 2 else 0) = 0 → z = q_dga R a.toNat b) ∧ q_mq (if ¬ (0 ≤ a ∧ a < q_nd R) then (1 : Int) else if ¬ (0 ≤ b ∧ b ≤ 7) then 2 else 0) M M1) (z := (q_pio R a)) hx hb hr hG hlocks (⟨fun _ => by unfold q_dga; rw [if_neg (by omega), if_neg (by omega), if_pos (by omega), ← hna], by rw [hcd9]; exact (q_mq.lay (q_mq.rf hM6) hoa_M16 hob_M16)⟩) dX6_dog_107
      · exfalso; omega
    · skip
      refine lv_iconst (v := iZ 2) hx hb dX6_dog_28 rfl ?_
      refine lv_goto (tgt := 33) hx hb dX6_dog_29 (by decide) ?_
      refine g_callV (b := 169) (As := [.int (iZ 2)]) (rest := []) ⟨hx, hb, hml, hown, hts⟩ (c_X6_refused l G M hdm 2 (by omega)) (cwV 1 hts gX6_dog_X6_refused rfl rfl rfl (by decide +kernel) ⟨Nat.le_of_ble_eq_true rfl, Nat.le_of_ble_eq_true rfl⟩) hG (g_recv hG (b := 169) (hdm 169 (by decide)) rfl rfl) rfl hl.1 rfl (Nat.le_of_ble_eq_true rfl) dX6_dog_33 ⟨Nat.zero_le _, Nat.zero_le _⟩ (fun z17 M18 H locs hp_33 hG => ?_)
      obtain ⟨hz_33, hM18⟩ := hp_33; rw [if_pos (by decide)] at hz_33; replace hz_33 := hz_33.symm; subst hz_33
      have hpv_M18_172 : M18 172 = R := Eq.trans (by rw [hM18]; exact wr_off _ _ _ (by decide)) hRM
      have hcd9 : (if ¬ (0 ≤ a ∧ a < q_nd R) then (1 : Int) else if ¬ (0 ≤ b ∧ b ≤ 7) then 2 else 0) = (2 : Int) := by (repeat' split) <;> first | rfl | omega | (exfalso; omega) | contradiction
      refine z_if_eq (tgt := 41) hx hb (by decide) dX6_dog_36 (by decide) (fun c_36 => ?_) (fun c_36 => ?_)
      · exfalso; omega
      · skip
        refine lv_iconst (v := iZ 0) hx hb dX6_dog_39 rfl ?_
        exact g_iret (post := fun z M1 => ((if ¬ (0 ≤ a ∧ a < q_nd R) then (1 : Int) else if ¬ (0 ≤ b ∧ b ≤ 7) then 2 else 0) = 0 → z = q_dga R a.toNat b) ∧ q_mq (if ¬ (0 ≤ a ∧ a < q_nd R) then (1 : Int) else if ¬ (0 ≤ b ∧ b ≤ 7) then 2 else 0) M M1) (z := 0) hx hb hr hG hlocks (⟨fun h9 => absurd h9 (by rw [hcd9]; decide), by rw [hcd9]; exact (q_mq.rf hM18)⟩) dX6_dog_40
  · skip
    refine lv_iconst (v := iZ 1) hx hb dX6_dog_12 rfl ?_
    refine lv_goto (tgt := 33) hx hb dX6_dog_13 (by decide) ?_
    refine g_callV (b := 169) (As := [.int (iZ 1)]) (rest := []) ⟨hx, hb, hml, hown, hts⟩ (c_X6_refused l G M hdm 1 (by omega)) (cwV 1 hts gX6_dog_X6_refused rfl rfl rfl (by decide +kernel) ⟨Nat.le_of_ble_eq_true rfl, Nat.le_of_ble_eq_true rfl⟩) hG (g_recv hG (b := 169) (hdm 169 (by decide)) rfl rfl) rfl hl.1 rfl (Nat.le_of_ble_eq_true rfl) dX6_dog_33 ⟨Nat.zero_le _, Nat.zero_le _⟩ (fun z19 M20 H locs hp_33 hG => ?_)
    obtain ⟨hz_33, hM20⟩ := hp_33; rw [if_pos (by decide)] at hz_33; replace hz_33 := hz_33.symm; subst hz_33
    have hpv_M20_172 : M20 172 = R := Eq.trans (by rw [hM20]; exact wr_off _ _ _ (by decide)) hRM
    have hcd9 : (if ¬ (0 ≤ a ∧ a < q_nd R) then (1 : Int) else if ¬ (0 ≤ b ∧ b ≤ 7) then 2 else 0) = (1 : Int) := by (repeat' split) <;> first | rfl | omega | (exfalso; omega) | contradiction
    refine z_if_eq (tgt := 41) hx hb (by decide) dX6_dog_36 (by decide) (fun c_36 => ?_) (fun c_36 => ?_)
    · exfalso; omega
    · skip
      refine lv_iconst (v := iZ 0) hx hb dX6_dog_39 rfl ?_
      exact g_iret (post := fun z M1 => ((if ¬ (0 ≤ a ∧ a < q_nd R) then (1 : Int) else if ¬ (0 ≤ b ∧ b ≤ 7) then 2 else 0) = 0 → z = q_dga R a.toNat b) ∧ q_mq (if ¬ (0 ≤ a ∧ a < q_nd R) then (1 : Int) else if ¬ (0 ≤ b ∧ b ≤ 7) then 2 else 0) M M1) (z := 0) hx hb hr hG hlocks (⟨fun h9 => absurd h9 (by rw [hcd9]; decide), by rw [hcd9]; exact (q_mq.rf hM20)⟩) dX6_dog_40
set_option maxHeartbeats 4000000 in
set_option maxRecDepth 100000 in
theorem c_X6_lost (l : Launch) (G : gG) (M : Nat → Nat → Int) (hdm : ∀ k, k < 179 → gdm G k) (R : Nat → Int) (hRM : M 172 = R) (hI : q_inv R) (a : Int) (ha9 : -2147483648 ≤ a ∧ a < 2147483648) (b : Int) (hb9 : -2147483648 ≤ b ∧ b < 2147483648) : gMi l yX6_lost wsX6_lost ({ frames := 2, cells := 0, slots := 0, locals := 46 } : Room) G M [.ref (gad G 169), .int (iZ a), .int (iZ b)] (fun z M1 => ((if 0 ≤ a ∧ a < q_nd R ∧ 0 ≤ b ∧ b ≤ 5 then (0 : Int) else 1) = 0 → z = (if q_hs R a.toNat = 1 then q_lo R a.toNat b.toNat else -9)) ∧ q_mq (if 0 ≤ a ∧ a < q_nd R ∧ 0 ≤ b ∧ b ≤ 5 then (0 : Int) else 1) M M1) := by
  refine gMi_of (cc := cX6_lost) (maxL := 3) (ret := some .int) (by decide) rfl (Nat.le_of_ble_eq_true rfl) ?_
  intro p e s m below meth c ls hx hb hr hml hown hts hlocks hl hG
  have hown : s.vm.findClass RX6 = some m.cls := hown
  have hl : lv_has ls 3 [(0, .ref (gad G 169)), (1, .int (iZ a)), (2, .int (iZ b))] := hl
  have hinX6 : ∀ w ∈ u_ws RX6 TX6 13, w ∈ wsX6_lost := by decide +kernel
  have f16 := hts (.fieldLink RX6 16 "DogTrialsModel" "now" "[I") (by decide +kernel)
  have hnd := hI.1
  refine lv_aload_n hx hb dX6_lost_0 rfl (lv_at hl 0 rfl) ?_
  refine lv_aload_n hx hb dX6_lost_1 rfl (lv_at hl 0 rfl) ?_
  refine g_get hx hb hts hinX6 hown hG (o := 169) (hdm 169 (by decide)) rfl rfl 5 (by decide) f16 (fun _ h => h) rfl dX6_lost_2 ?_
  refine lv_iload_n hx hb dX6_lost_5 rfl (lv_at hl 1 rfl) ?_
  refine g_callS (As := [.ref (gad G 172), .int (iZ a)]) (rest := [.ref (gad G 169)]) ⟨hx, hb, hml, hown, hts⟩ (c_X6_isDog l G M hdm 172 (Or.inr (Or.inl rfl)) (by rw [hRM]; exact hI) a (by omega)) (va_cwS 2 hts gX6_lost_X6_isDog rfl rfl rfl (by decide +kernel) ⟨Nat.le_of_ble_eq_true rfl, Nat.le_of_ble_eq_true rfl⟩) hG rfl hl.1 rfl (Nat.le_of_ble_eq_true rfl) dX6_lost_6 ⟨Nat.zero_le _, Nat.zero_le _⟩ (fun z1 M2 H locs hp_6 hG => ?_)
  rw [hRM] at hp_6
  obtain ⟨hz_6, hM_6⟩ := hp_6; replace hz_6 := hz_6.symm; subst hz_6; replace hM_6 := hM_6.symm; subst hM_6
  refine z_ifP_eq (tgt := 23) hx hb dX6_lost_9 (by decide) (fun c_9 => ?_) (fun c_9 => ?_)
  · skip
    refine lv_iconst (v := iZ 1) hx hb dX6_lost_23 rfl ?_
    refine g_callV (b := 169) (As := [.int (iZ 1)]) (rest := []) ⟨hx, hb, hml, hown, hts⟩ (c_X6_refused l G M hdm 1 (by omega)) (cwV 1 hts gX6_lost_X6_refused rfl rfl rfl (by decide +kernel) ⟨Nat.le_of_ble_eq_true rfl, Nat.le_of_ble_eq_true rfl⟩) hG (g_recv hG (b := 169) (hdm 169 (by decide)) rfl rfl) rfl hl.1 rfl (Nat.le_of_ble_eq_true rfl) dX6_lost_24 ⟨Nat.zero_le _, Nat.zero_le _⟩ (fun z3 M4 H locs hp_24 hG => ?_)
    obtain ⟨hz_24, hM4⟩ := hp_24; rw [if_pos (by decide)] at hz_24; replace hz_24 := hz_24.symm; subst hz_24
    have hpv_M4_172 : M4 172 = R := Eq.trans (by rw [hM4]; exact wr_off _ _ _ (by decide)) hRM
    have hcd9 : (if 0 ≤ a ∧ a < q_nd R ∧ 0 ≤ b ∧ b ≤ 5 then (0 : Int) else 1) = (1 : Int) := by (repeat' split) <;> first | rfl | omega | (exfalso; omega) | contradiction
    refine z_if_eq (tgt := 32) hx hb (by decide) dX6_lost_27 (by decide) (fun c_27 => ?_) (fun c_27 => ?_)
    · exfalso; omega
    · skip
      refine lv_iconst (v := iZ 0) hx hb dX6_lost_30 rfl ?_
      exact g_iret (post := fun z M1 => ((if 0 ≤ a ∧ a < q_nd R ∧ 0 ≤ b ∧ b ≤ 5 then (0 : Int) else 1) = 0 → z = (if q_hs R a.toNat = 1 then q_lo R a.toNat b.toNat else -9)) ∧ q_mq (if 0 ≤ a ∧ a < q_nd R ∧ 0 ≤ b ∧ b ≤ 5 then (0 : Int) else 1) M M1) (z := 0) hx hb hr hG hlocks (⟨fun h9 => absurd h9 (by rw [hcd9]; decide), by rw [hcd9]; exact (q_mq.rf hM4)⟩) dX6_lost_31
  · skip
    refine lv_iload_n hx hb dX6_lost_12 rfl (lv_at hl 2 rfl) ?_
    refine g_callS (As := [.int (iZ b)]) (rest := [.ref (gad G 169)]) ⟨hx, hb, hml, hown, hts⟩ (c_X6_isPhase l G M b (by omega)) (va_cwS 1 hts gX6_lost_X6_isPhase rfl rfl rfl (by decide +kernel) ⟨Nat.le_of_ble_eq_true rfl, Nat.le_of_ble_eq_true rfl⟩) hG rfl hl.1 rfl (Nat.le_of_ble_eq_true rfl) dX6_lost_13 ⟨Nat.zero_le _, Nat.zero_le _⟩ (fun z5 M6 H locs hp_13 hG => ?_)
    obtain ⟨hz_13, hM_13⟩ := hp_13; replace hz_13 := hz_13.symm; subst hz_13; replace hM_13 := hM_13.symm; subst hM_13
    refine z_ifP_eq (tgt := 23) hx hb dX6_lost_16 (by decide) (fun c_16 => ?_) (fun c_16 => ?_)
    · skip
      refine lv_iconst (v := iZ 1) hx hb dX6_lost_23 rfl ?_
      refine g_callV (b := 169) (As := [.int (iZ 1)]) (rest := []) ⟨hx, hb, hml, hown, hts⟩ (c_X6_refused l G M hdm 1 (by omega)) (cwV 1 hts gX6_lost_X6_refused rfl rfl rfl (by decide +kernel) ⟨Nat.le_of_ble_eq_true rfl, Nat.le_of_ble_eq_true rfl⟩) hG (g_recv hG (b := 169) (hdm 169 (by decide)) rfl rfl) rfl hl.1 rfl (Nat.le_of_ble_eq_true rfl) dX6_lost_24 ⟨Nat.zero_le _, Nat.zero_le _⟩ (fun z7 M8 H locs hp_24 hG => ?_)
      obtain ⟨hz_24, hM8⟩ := hp_24; rw [if_pos (by decide)] at hz_24; replace hz_24 := hz_24.symm; subst hz_24
      have hpv_M8_172 : M8 172 = R := Eq.trans (by rw [hM8]; exact wr_off _ _ _ (by decide)) hRM
      have hcd9 : (if 0 ≤ a ∧ a < q_nd R ∧ 0 ≤ b ∧ b ≤ 5 then (0 : Int) else 1) = (1 : Int) := by (repeat' split) <;> first | rfl | omega | (exfalso; omega) | contradiction
      refine z_if_eq (tgt := 32) hx hb (by decide) dX6_lost_27 (by decide) (fun c_27 => ?_) (fun c_27 => ?_)
      · exfalso; omega
      · skip
        refine lv_iconst (v := iZ 0) hx hb dX6_lost_30 rfl ?_
        exact g_iret (post := fun z M1 => ((if 0 ≤ a ∧ a < q_nd R ∧ 0 ≤ b ∧ b ≤ 5 then (0 : Int) else 1) = 0 → z = (if q_hs R a.toNat = 1 then q_lo R a.toNat b.toNat else -9)) ∧ q_mq (if 0 ≤ a ∧ a < q_nd R ∧ 0 ≤ b ∧ b ≤ 5 then (0 : Int) else 1) M M1) (z := 0) hx hb hr hG hlocks (⟨fun h9 => absurd h9 (by rw [hcd9]; decide), by rw [hcd9]; exact (q_mq.rf hM8)⟩) dX6_lost_31
    · skip
      refine lv_iconst (v := iZ 0) hx hb dX6_lost_19 rfl ?_
      refine lv_goto (tgt := 24) hx hb dX6_lost_20 (by decide) ?_
      refine g_callV (b := 169) (As := [.int (iZ 0)]) (rest := []) ⟨hx, hb, hml, hown, hts⟩ (c_X6_refused l G M hdm 0 (by omega)) (cwV 1 hts gX6_lost_X6_refused rfl rfl rfl (by decide +kernel) ⟨Nat.le_of_ble_eq_true rfl, Nat.le_of_ble_eq_true rfl⟩) hG (g_recv hG (b := 169) (hdm 169 (by decide)) rfl rfl) rfl hl.1 rfl (Nat.le_of_ble_eq_true rfl) dX6_lost_24 ⟨Nat.zero_le _, Nat.zero_le _⟩ (fun z9 M10 H locs hp_24 hG => ?_)
      obtain ⟨hz_24, hM10⟩ := hp_24; rw [if_neg (by decide)] at hz_24; replace hz_24 := hz_24.symm; subst hz_24
      have hpv_M10_172 : M10 172 = R := Eq.trans (by rw [hM10]; exact wr_off _ _ _ (by decide)) hRM
      have hcd9 : (if 0 ≤ a ∧ a < q_nd R ∧ 0 ≤ b ∧ b ≤ 5 then (0 : Int) else 1) = (0 : Int) := by (repeat' split) <;> first | rfl | omega | (exfalso; omega) | contradiction
      refine z_if_eq (tgt := 32) hx hb (by decide) dX6_lost_27 (by decide) (fun c_27 => ?_) (fun c_27 => ?_)
      · skip
        have hna : a = ((a.toNat : Nat) : Int) := by omega
        have hnb : b = ((b.toNat : Nat) : Int) := by omega
        refine lv_aload_n hx hb dX6_lost_32 rfl (lv_at hl 0 rfl) ?_
        refine g_get hx hb hts hinX6 hown hG (o := 169) (hdm 169 (by decide)) rfl rfl 5 (by decide) f16 (fun _ h => h) rfl dX6_lost_33 ?_
        refine lv_iload_n hx hb dX6_lost_36 rfl (lv_at hl 1 rfl) ?_
        refine g_callS (As := [.ref (gad G 172), .int (iZ ((a.toNat) : Int))]) (rest := []) ⟨hx, hb, hml, hown, hts⟩ (c_X6_hasRun l G M10 hdm 172 (Or.inr (Or.inl rfl)) (by rw [hpv_M10_172]; exact hI) ((a.toNat)) (by first | omega | (rw [hpv_M10_172]; omega))) (va_cwS 2 hts gX6_lost_X6_hasRun rfl rfl rfl (by decide +kernel) ⟨Nat.le_of_ble_eq_true rfl, Nat.le_of_ble_eq_true rfl⟩) hG rfl hl.1 (by rw [← hna]; rfl) (Nat.le_of_ble_eq_true rfl) dX6_lost_37 ⟨Nat.zero_le _, Nat.zero_le _⟩ (fun z11 M12 H locs hp_37 hG => ?_)
        rw [hpv_M10_172] at hp_37
        obtain ⟨hz_37, hM_37⟩ := hp_37; replace hz_37 := hz_37.symm; subst hz_37; replace hM_37 := hM_37.symm; subst hM_37
        refine z_ifP_eq (tgt := 55) hx hb dX6_lost_40 (by decide) (fun c_40 => ?_) (fun c_40 => ?_)
        · skip
          refine lv_bipush (v := iZ (-9)) hx hb dX6_lost_55 (by decide) ?_
          exact g_iret (post := fun z M1 => ((if 0 ≤ a ∧ a < q_nd R ∧ 0 ≤ b ∧ b ≤ 5 then (0 : Int) else 1) = 0 → z = (if q_hs R a.toNat = 1 then q_lo R a.toNat b.toNat else -9)) ∧ q_mq (if 0 ≤ a ∧ a < q_nd R ∧ 0 ≤ b ∧ b ≤ 5 then (0 : Int) else 1) M M1) (z := (-9)) hx hb hr hG hlocks (⟨fun _ => by first | (rw [if_pos (by assumption)]; done) | (rw [if_neg (by assumption)]; done), by rw [hcd9]; exact (q_mq.rf hM10)⟩) dX6_lost_57
        · skip
          refine lv_aload_n hx hb dX6_lost_43 rfl (lv_at hl 0 rfl) ?_
          refine g_get hx hb hts hinX6 hown hG (o := 169) (hdm 169 (by decide)) rfl rfl 5 (by decide) f16 (fun _ h => h) rfl dX6_lost_44 ?_
          refine lv_iload_n hx hb dX6_lost_47 rfl (lv_at hl 1 rfl) ?_
          refine lv_iload_n hx hb dX6_lost_48 rfl (lv_at hl 2 rfl) ?_
          refine g_callS (As := [.ref (gad G 172), .int (iZ ((a.toNat) : Int)), .int (iZ ((b.toNat) : Int))]) (rest := []) ⟨hx, hb, hml, hown, hts⟩ (c_X6_lostIn l G M10 hdm 172 (Or.inr (Or.inl rfl)) (by rw [hpv_M10_172]; exact hI) ((a.toNat)) (by first | omega | (rw [hpv_M10_172]; omega)) ((b.toNat)) (by first | omega | (rw [hpv_M10_172]; omega))) (va_cwS 3 hts gX6_lost_X6_lostIn rfl rfl rfl (by decide +kernel) ⟨Nat.le_of_ble_eq_true rfl, Nat.le_of_ble_eq_true rfl⟩) hG rfl hl.1 (by rw [← hna, ← hnb]; rfl) (Nat.le_of_ble_eq_true rfl) dX6_lost_49 ⟨Nat.zero_le _, Nat.zero_le _⟩ (fun z13 M14 H locs hp_49 hG => ?_)
          rw [hpv_M10_172] at hp_49
          obtain ⟨hz_49, hM_49⟩ := hp_49; replace hz_49 := hz_49.symm; subst hz_49; replace hM_49 := hM_49.symm; subst hM_49
          refine lv_goto (tgt := 57) hx hb dX6_lost_52 (by decide) ?_
          exact g_iret (post := fun z M1 => ((if 0 ≤ a ∧ a < q_nd R ∧ 0 ≤ b ∧ b ≤ 5 then (0 : Int) else 1) = 0 → z = (if q_hs R a.toNat = 1 then q_lo R a.toNat b.toNat else -9)) ∧ q_mq (if 0 ≤ a ∧ a < q_nd R ∧ 0 ≤ b ∧ b ≤ 5 then (0 : Int) else 1) M M1) (z := (q_lo R ((a.toNat)) ((b.toNat)))) hx hb hr hG hlocks (⟨fun _ => by first | (rw [if_pos (by assumption)]; done) | (rw [if_neg (by assumption)]; done), by rw [hcd9]; exact (q_mq.rf hM10)⟩) dX6_lost_57
      · exfalso; omega
set_option maxHeartbeats 4000000 in
set_option maxRecDepth 100000 in
theorem c_X6_order (l : Launch) (G : gG) (M : Nat → Nat → Int) (hdm : ∀ k, k < 179 → gdm G k) (R : Nat → Int) (hRM : M 172 = R) (hI : q_inv R) (a : Int) (ha9 : -2147483648 ≤ a ∧ a < 2147483648) : gMi l yX6_order wsX6_order ({ frames := 4, cells := 0, slots := 0, locals := 92 } : Room) G M [.ref (gad G 169), .int (iZ a)] (fun z M1 => ((if a < 0 then (1 : Int) else 0) = 0 → z = q_atk R a) ∧ q_mq (if a < 0 then (1 : Int) else 0) M M1) := by
  refine gMi_of (cc := cX6_order) (maxL := 2) (ret := some .int) (by decide) rfl (Nat.le_of_ble_eq_true rfl) ?_
  intro p e s m below meth c ls hx hb hr hml hown hts hlocks hl hG
  have hown : s.vm.findClass RX6 = some m.cls := hown
  have hl : lv_has ls 2 [(0, .ref (gad G 169)), (1, .int (iZ a))] := hl
  have hinX6 : ∀ w ∈ u_ws RX6 TX6 13, w ∈ wsX6_order := by decide +kernel
  have f16 := hts (.fieldLink RX6 16 "DogTrialsModel" "now" "[I") (by decide +kernel)
  have f32 := hts (.fieldLink RX6 32 "DogTrialsModel" "row" "[I") (by decide +kernel)
  have f78 := hts (.fieldLink RX6 78 "DogTrialsModel" "rowSize" "I") (by decide +kernel)
  have hnd := hI.1
  have hle := q_orn_le hI
  refine lv_aload_n hx hb dX6_order_0 rfl (lv_at hl 0 rfl) ?_
  refine lv_iload_n hx hb dX6_order_1 rfl (lv_at hl 1 rfl) ?_
  refine z_if_ge (tgt := 9) hx hb (by omega) dX6_order_2 (by decide) (fun c_2 => ?_) (fun c_2 => ?_)
  · skip
    refine lv_iconst (v := iZ 0) hx hb dX6_order_9 rfl ?_
    refine g_callV (b := 169) (As := [.int (iZ 0)]) (rest := []) ⟨hx, hb, hml, hown, hts⟩ (c_X6_refused l G M hdm 0 (by omega)) (cwV 1 hts gX6_order_X6_refused rfl rfl rfl (by decide +kernel) ⟨Nat.le_of_ble_eq_true rfl, Nat.le_of_ble_eq_true rfl⟩) hG (g_recv hG (b := 169) (hdm 169 (by decide)) rfl rfl) rfl hl.1 rfl (Nat.le_of_ble_eq_true rfl) dX6_order_10 ⟨Nat.zero_le _, Nat.zero_le _⟩ (fun z1 M2 H locs hp_10 hG => ?_)
    obtain ⟨hz_10, hM2⟩ := hp_10; rw [if_neg (by decide)] at hz_10; replace hz_10 := hz_10.symm; subst hz_10
    have hpv_M2_172 : M2 172 = R := Eq.trans (by rw [hM2]; exact wr_off _ _ _ (by decide)) hRM
    have hcd9 : (if a < 0 then (1 : Int) else 0) = (0 : Int) := by (repeat' split) <;> first | rfl | omega | (exfalso; omega) | contradiction
    refine z_if_eq (tgt := 18) hx hb (by decide) dX6_order_13 (by decide) (fun c_13 => ?_) (fun c_13 => ?_)
    · skip
      refine lv_aload_n hx hb dX6_order_18 rfl (lv_at hl 0 rfl) ?_
      refine lv_aload_n hx hb dX6_order_19 rfl (lv_at hl 0 rfl) ?_
      refine g_get hx hb hts hinX6 hown hG (o := 169) (hdm 169 (by decide)) rfl rfl 5 (by decide) f16 (fun _ h => h) rfl dX6_order_20 ?_
      refine g_vcallV (b := 169) (As := [.ref (gad G 172)]) (rest := []) ⟨hx, hb, hml, hown, hts⟩ (c_X6_layRow l G M2 hdm 172 (Or.inr (Or.inl rfl)) (by rw [hpv_M2_172]; exact hI)) (cwV 1 hts gX6_order_X6_layRow rfl rfl rfl (by decide +kernel) ⟨Nat.le_of_ble_eq_true rfl, Nat.le_of_ble_eq_true rfl⟩) hG (g_recv hG (b := 169) (hdm 169 (by decide)) rfl rfl) rfl hl.1 rfl (Nat.le_of_ble_eq_true rfl) dX6_order_23 ⟨Nat.zero_le _, Nat.zero_le _⟩ (fun M4 H locs hp_23 hG => ?_)
      rw [hpv_M2_172] at hp_23
      obtain ⟨hn_M4, hf_M4, hoa_M4, hob_M4⟩ := hp_23
      have hpv_M4_172 : M4 172 = R := Eq.trans (hoa_M4 172 (by omega) (by omega)) hpv_M2_172
      refine lv_iload_n hx hb dX6_order_26 rfl (lv_at hl 1 rfl) ?_
      refine lv_aload_n hx hb dX6_order_27 rfl (lv_at hl 0 rfl) ?_
      refine g_geti (z := ((q_orn R) : Int)) hx hb hts hinX6 hown hG (o := 169) (hdm 169 (by decide)) rfl rfl 12 (by decide) f78 (fun _ h => h) rfl hn_M4 dX6_order_28 ?_
      refine z_icmp_ge (tgt := 43) hx hb (by omega) (by omega) dX6_order_31 (by decide) (fun c_31 => ?_) (fun c_31 => ?_)
      · skip
        refine lv_bipush (v := iZ (-9)) hx hb dX6_order_43 (by decide) ?_
        exact g_iret (post := fun z M1 => ((if a < 0 then (1 : Int) else 0) = 0 → z = q_atk R a) ∧ q_mq (if a < 0 then (1 : Int) else 0) M M1) (z := (-9)) hx hb hr hG hlocks (⟨fun _ => by unfold q_atk; first | (rw [if_pos ⟨by omega, by omega⟩]; done) | (rw [if_neg (by omega)]; done), by rw [hcd9]; exact (q_mq.lay (q_mq.rf hM2) hoa_M4 hob_M4)⟩) dX6_order_45
      · skip
        refine lv_aload_n hx hb dX6_order_34 rfl (lv_at hl 0 rfl) ?_
        refine g_get hx hb hts hinX6 hown hG (o := 169) (hdm 169 (by decide)) rfl rfl 11 (by decide) f32 (fun _ h => h) rfl dX6_order_35 ?_
        refine lv_iload_n hx hb dX6_order_38 rfl (lv_at hl 1 rfl) ?_
        refine g_iald (z := (q_orf R a.toNat)) (j := ((a.toNat))) hx hb hG (o := 177) (hdm 177 (by decide)) rfl (by omega) (by omega) (by omega) (hf_M4 a.toNat (by omega)) dX6_order_39 ?_
        refine lv_goto (tgt := 45) hx hb dX6_order_40 (by decide) ?_
        exact g_iret (post := fun z M1 => ((if a < 0 then (1 : Int) else 0) = 0 → z = q_atk R a) ∧ q_mq (if a < 0 then (1 : Int) else 0) M M1) (z := (q_orf R a.toNat)) hx hb hr hG hlocks (⟨fun _ => by unfold q_atk; first | (rw [if_pos ⟨by omega, by omega⟩]; done) | (rw [if_neg (by omega)]; done), by rw [hcd9]; exact (q_mq.lay (q_mq.rf hM2) hoa_M4 hob_M4)⟩) dX6_order_45
    · exfalso; omega
  · skip
    refine lv_iconst (v := iZ 1) hx hb dX6_order_5 rfl ?_
    refine lv_goto (tgt := 10) hx hb dX6_order_6 (by decide) ?_
    refine g_callV (b := 169) (As := [.int (iZ 1)]) (rest := []) ⟨hx, hb, hml, hown, hts⟩ (c_X6_refused l G M hdm 1 (by omega)) (cwV 1 hts gX6_order_X6_refused rfl rfl rfl (by decide +kernel) ⟨Nat.le_of_ble_eq_true rfl, Nat.le_of_ble_eq_true rfl⟩) hG (g_recv hG (b := 169) (hdm 169 (by decide)) rfl rfl) rfl hl.1 rfl (Nat.le_of_ble_eq_true rfl) dX6_order_10 ⟨Nat.zero_le _, Nat.zero_le _⟩ (fun z5 M6 H locs hp_10 hG => ?_)
    obtain ⟨hz_10, hM6⟩ := hp_10; rw [if_pos (by decide)] at hz_10; replace hz_10 := hz_10.symm; subst hz_10
    have hpv_M6_172 : M6 172 = R := Eq.trans (by rw [hM6]; exact wr_off _ _ _ (by decide)) hRM
    have hcd9 : (if a < 0 then (1 : Int) else 0) = (1 : Int) := by (repeat' split) <;> first | rfl | omega | (exfalso; omega) | contradiction
    refine z_if_eq (tgt := 18) hx hb (by decide) dX6_order_13 (by decide) (fun c_13 => ?_) (fun c_13 => ?_)
    · exfalso; omega
    · skip
      refine lv_iconst (v := iZ 0) hx hb dX6_order_16 rfl ?_
      exact g_iret (post := fun z M1 => ((if a < 0 then (1 : Int) else 0) = 0 → z = q_atk R a) ∧ q_mq (if a < 0 then (1 : Int) else 0) M M1) (z := 0) hx hb hr hG hlocks (⟨fun h9 => absurd h9 (by rw [hcd9]; decide), by rw [hcd9]; exact (q_mq.rf hM6)⟩) dX6_order_17
set_option maxHeartbeats 4000000 in
set_option maxRecDepth 100000 in
theorem c_X6_standing (l : Launch) (G : gG) (M : Nat → Nat → Int) (hdm : ∀ k, k < 179 → gdm G k) (R : Nat → Int) (hRM : M 172 = R) (hI : q_inv R) (a : Int) (ha9 : -2147483648 ≤ a ∧ a < 2147483648) : gMi l yX6_standing wsX6_standing ({ frames := 5, cells := 0, slots := 0, locals := 115 } : Room) G M [.ref (gad G 169), .int (iZ a)] (fun z M1 => ((if a < 0 then (1 : Int) else 0) = 0 → z = q_std R a) ∧ q_mq (if a < 0 then (1 : Int) else 0) M M1) := by
  refine gMi_of (cc := cX6_standing) (maxL := 3) (ret := some .int) (by decide) rfl (Nat.le_of_ble_eq_true rfl) ?_
  intro p e s m below meth c ls hx hb hr hml hown hts hlocks hl hG
  have hown : s.vm.findClass RX6 = some m.cls := hown
  have hl : lv_has ls 3 [(0, .ref (gad G 169)), (1, .int (iZ a))] := hl
  have hinX6 : ∀ w ∈ u_ws RX6 TX6 13, w ∈ wsX6_standing := by decide +kernel
  have f16 := hts (.fieldLink RX6 16 "DogTrialsModel" "now" "[I") (by decide +kernel)
  have hnd := hI.1
  refine lv_aload_n hx hb dX6_standing_0 rfl (lv_at hl 0 rfl) ?_
  refine lv_iload_n hx hb dX6_standing_1 rfl (lv_at hl 1 rfl) ?_
  refine z_if_ge (tgt := 9) hx hb (by omega) dX6_standing_2 (by decide) (fun c_2 => ?_) (fun c_2 => ?_)
  · skip
    refine lv_iconst (v := iZ 0) hx hb dX6_standing_9 rfl ?_
    refine g_callV (b := 169) (As := [.int (iZ 0)]) (rest := []) ⟨hx, hb, hml, hown, hts⟩ (c_X6_refused l G M hdm 0 (by omega)) (cwV 1 hts gX6_standing_X6_refused rfl rfl rfl (by decide +kernel) ⟨Nat.le_of_ble_eq_true rfl, Nat.le_of_ble_eq_true rfl⟩) hG (g_recv hG (b := 169) (hdm 169 (by decide)) rfl rfl) rfl hl.1 rfl (Nat.le_of_ble_eq_true rfl) dX6_standing_10 ⟨Nat.zero_le _, Nat.zero_le _⟩ (fun z1 M2 H locs hp_10 hG => ?_)
    obtain ⟨hz_10, hM2⟩ := hp_10; rw [if_neg (by decide)] at hz_10; replace hz_10 := hz_10.symm; subst hz_10
    have hpv_M2_172 : M2 172 = R := Eq.trans (by rw [hM2]; exact wr_off _ _ _ (by decide)) hRM
    have hcd9 : (if a < 0 then (1 : Int) else 0) = (0 : Int) := by (repeat' split) <;> first | rfl | omega | (exfalso; omega) | contradiction
    refine z_if_eq (tgt := 18) hx hb (by decide) dX6_standing_13 (by decide) (fun c_13 => ?_) (fun c_13 => ?_)
    · skip
      refine lv_iconst (v := iZ 0) hx hb dX6_standing_18 rfl ?_
      refine lv_istore_n (lv' := [(2, .int (iZ 0)), (0, .ref (gad G 169)), (1, .int (iZ a))]) hx hb dX6_standing_19 rfl hl (by decide) rfl (fun ls hl => ?_)
      have L_20 : ∀ (n_20 : Nat) (k : Nat) (x_i : Int), (x_i = (k : Int)) → ((k : Int) ≤ q_nd R) → ((∀ j, j < k → ¬ decide (q_hs R j = 1 ∧ q_ahn R j = a) = true)) → 12 - k < n_20 → ∀ (H : Heap) (locs : List Loc) (ls : Array Slot), gH G M2 s H locs → lv_has ls 3 [(2, .int (iZ x_i)), (0, .ref (gad G 169)), (1, .int (iZ a))] → W p l e ({ frames := 5, cells := 0, slots := 0, locals := 115 } : Room) s m [.ref (gad G 169), .int (iZ a)].toArray below meth c H locs 0 0 (MQ below (va_Qi (fun r (u : Int × (Nat → Nat → Int)) => r = iZ u.1 ∧ (fun z M1 => ((if a < 0 then (1 : Int) else 0) = 0 → z = q_std R a) ∧ q_mq (if a < 0 then (1 : Int) else 0) M M1) u.1 u.2) (fun u U => gB G u.2 U) (gA G)) [.ref (gad G 169), .int (iZ a)].toArray s 0 0 (gA G)) (F0 m 20 ls []) := by
        intro n_20
        induction n_20 with
        | zero => intro k x_i he_x_i hk hno hm_20; exact absurd hm_20 (Nat.not_lt_zero _)
        | succ n_20 ih_20 =>
          intro k x_i he_x_i hk hno hm_20 H locs ls hG hl
          subst he_x_i
          refine lv_iload_n hx hb dX6_standing_20 rfl (lv_at hl 0 rfl) ?_
          refine lv_aload_n hx hb dX6_standing_21 rfl (lv_at hl 1 rfl) ?_
          refine g_get hx hb hts hinX6 hown hG (o := 169) (hdm 169 (by decide)) rfl rfl 5 (by decide) f16 (fun _ h => h) rfl dX6_standing_22 ?_
          refine lv_bipush (v := iZ (7)) hx hb dX6_standing_25 (by decide) ?_
          refine g_iald (z := (q_nd R)) (j := 7) hx hb hG (o := 172) (hdm 172 (by decide)) rfl (by omega) (by omega) (by omega) (by rw [hpv_M2_172] <;> rfl) dX6_standing_27 ?_
          refine z_icmp_ge (tgt := 59) hx hb (by omega) (by omega) dX6_standing_28 (by decide) (fun c_28 => ?_) (fun c_28 => ?_)
          · skip
            refine lv_bipush (v := iZ (-9)) hx hb dX6_standing_59 (by decide) ?_
            exact g_iret (post := fun z M1 => ((if a < 0 then (1 : Int) else 0) = 0 → z = q_std R a) ∧ q_mq (if a < 0 then (1 : Int) else 0) M M1) (z := (-9)) hx hb hr hG hlocks (⟨fun _ => (q_fst_no (P := (fun i => decide (q_hs R i = 1 ∧ q_ahn R i = a))) (fun j hj => hno j (by omega))).symm, by rw [hcd9]; exact (q_mq.rf hM2)⟩) dX6_standing_61
          · skip
            refine lv_aload_n hx hb dX6_standing_31 rfl (lv_at hl 1 rfl) ?_
            refine g_get hx hb hts hinX6 hown hG (o := 169) (hdm 169 (by decide)) rfl rfl 5 (by decide) f16 (fun _ h => h) rfl dX6_standing_32 ?_
            refine lv_iload_n hx hb dX6_standing_35 rfl (lv_at hl 0 rfl) ?_
            refine g_callS (As := [.ref (gad G 172), .int (iZ (k : Int))]) (rest := []) ⟨hx, hb, hml, hown, hts⟩ (c_X6_hasRun l G M2 hdm 172 (Or.inr (Or.inl rfl)) (by rw [hpv_M2_172]; exact hI) k (by first | omega | (rw [hpv_M2_172]; omega))) (va_cwS 2 hts gX6_standing_X6_hasRun rfl rfl rfl (by decide +kernel) ⟨Nat.le_of_ble_eq_true rfl, Nat.le_of_ble_eq_true rfl⟩) hG rfl hl.1 rfl (Nat.le_of_ble_eq_true rfl) dX6_standing_36 ⟨Nat.zero_le _, Nat.zero_le _⟩ (fun z3 M4 H locs hp_36 hG => ?_)
            rw [hpv_M2_172] at hp_36
            obtain ⟨hz_36, hM_36⟩ := hp_36; replace hz_36 := hz_36.symm; subst hz_36; replace hM_36 := hM_36.symm; subst hM_36
            refine z_ifP_eq (tgt := 53) hx hb dX6_standing_39 (by decide) (fun c_39 => ?_) (fun c_39 => ?_)
            · skip
              refine z_iinc (z := ((k : Int) + 1)) (lv' := [(2, .int (iZ ((k : Int) + 1))), (0, .ref (gad G 169)), (1, .int (iZ a))]) hx hb dX6_standing_53 hl (k := 0) rfl (by omega) (by decide) rfl (fun ls hl => ?_)
              refine lv_goto (tgt := 20) hx hb dX6_standing_56 (by decide) ?_
              exact ih_20 (k + 1) ((k : Int) + 1)  (by omega) (by omega) (fun j h => by rcases (show j < k ∨ j = k by omega) with h9 | h9; exact hno j h9; (subst h9; intro h8; have h7 := of_decide_eq_true h8; omega)) (by omega) _ _ _ hG (lv_sub hl [0, 1, 2] rfl)
            · skip
              refine lv_aload_n hx hb dX6_standing_42 rfl (lv_at hl 1 rfl) ?_
              refine lv_iload_n hx hb dX6_standing_43 rfl (lv_at hl 0 rfl) ?_
              refine g_callV (b := 169) (As := [.int (iZ (k : Int))]) (rest := []) ⟨hx, hb, hml, hown, hts⟩ (c_X6_ahead l G M2 hdm (by rw [hpv_M2_172]; exact hI) k (by rw [hpv_M2_172]; omega)) (cwV 1 hts gX6_standing_X6_ahead rfl rfl rfl (by decide +kernel) ⟨Nat.le_of_ble_eq_true rfl, Nat.le_of_ble_eq_true rfl⟩) hG (g_recv hG (b := 169) (hdm 169 (by decide)) rfl rfl) rfl hl.1 rfl (Nat.le_of_ble_eq_true rfl) dX6_standing_44 ⟨Nat.zero_le _, Nat.zero_le _⟩ (fun z5 M6 H locs hp_44 hG => ?_)
              obtain ⟨hz_44, hM_44⟩ := hp_44; replace hz_44 := hz_44.symm; subst hz_44; replace hM_44 := hM_44.symm; subst hM_44
              rw [hpv_M2_172]
              have hah : 0 ≤ q_ahn R k ∧ q_ahn R k ≤ (q_nd R).toNat := ct_in _ _
              refine lv_iload_n hx hb dX6_standing_47 rfl (lv_at hl 2 rfl) ?_
              refine z_icmp_ne (tgt := 53) hx hb (by omega) (by omega) dX6_standing_48 (by decide) (fun c_48 => ?_) (fun c_48 => ?_)
              · skip
                refine z_iinc (z := ((k : Int) + 1)) (lv' := [(2, .int (iZ ((k : Int) + 1))), (0, .ref (gad G 169)), (1, .int (iZ a))]) hx hb dX6_standing_53 hl (k := 0) rfl (by omega) (by decide) rfl (fun ls hl => ?_)
                refine lv_goto (tgt := 20) hx hb dX6_standing_56 (by decide) ?_
                exact ih_20 (k + 1) ((k : Int) + 1)  (by omega) (by omega) (fun j h => by rcases (show j < k ∨ j = k by omega) with h9 | h9; exact hno j h9; (subst h9; intro h8; have h7 := of_decide_eq_true h8; omega)) (by omega) _ _ _ hG (lv_sub hl [0, 1, 2] rfl)
              · skip
                refine lv_iload_n hx hb dX6_standing_51 rfl (lv_at hl 0 rfl) ?_
                exact g_iret (post := fun z M1 => ((if a < 0 then (1 : Int) else 0) = 0 → z = q_std R a) ∧ q_mq (if a < 0 then (1 : Int) else 0) M M1) (z := (k : Int)) hx hb hr hG hlocks (⟨fun _ => (q_fst_hit (P := (fun i => decide (q_hs R i = 1 ∧ q_ahn R i = a))) (decide_eq_true ⟨by omega, by omega⟩) hno (by omega)).symm, by rw [hcd9]; exact (q_mq.rf hM2)⟩) dX6_standing_52
      exact L_20 _ 0 0  rfl (by omega) (fun j h => absurd h (Nat.not_lt_zero _)) (Nat.lt_succ_self _) _ _ _ hG (lv_sub hl [0, 1, 2] rfl)
    · exfalso; omega
  · skip
    refine lv_iconst (v := iZ 1) hx hb dX6_standing_5 rfl ?_
    refine lv_goto (tgt := 10) hx hb dX6_standing_6 (by decide) ?_
    refine g_callV (b := 169) (As := [.int (iZ 1)]) (rest := []) ⟨hx, hb, hml, hown, hts⟩ (c_X6_refused l G M hdm 1 (by omega)) (cwV 1 hts gX6_standing_X6_refused rfl rfl rfl (by decide +kernel) ⟨Nat.le_of_ble_eq_true rfl, Nat.le_of_ble_eq_true rfl⟩) hG (g_recv hG (b := 169) (hdm 169 (by decide)) rfl rfl) rfl hl.1 rfl (Nat.le_of_ble_eq_true rfl) dX6_standing_10 ⟨Nat.zero_le _, Nat.zero_le _⟩ (fun z7 M8 H locs hp_10 hG => ?_)
    obtain ⟨hz_10, hM8⟩ := hp_10; rw [if_pos (by decide)] at hz_10; replace hz_10 := hz_10.symm; subst hz_10
    have hpv_M8_172 : M8 172 = R := Eq.trans (by rw [hM8]; exact wr_off _ _ _ (by decide)) hRM
    have hcd9 : (if a < 0 then (1 : Int) else 0) = (1 : Int) := by (repeat' split) <;> first | rfl | omega | (exfalso; omega) | contradiction
    refine z_if_eq (tgt := 18) hx hb (by decide) dX6_standing_13 (by decide) (fun c_13 => ?_) (fun c_13 => ?_)
    · exfalso; omega
    · skip
      refine lv_iconst (v := iZ 0) hx hb dX6_standing_16 rfl ?_
      exact g_iret (post := fun z M1 => ((if a < 0 then (1 : Int) else 0) = 0 → z = q_std R a) ∧ q_mq (if a < 0 then (1 : Int) else 0) M M1) (z := 0) hx hb hr hG hlocks (⟨fun h9 => absurd h9 (by rw [hcd9]; decide), by rw [hcd9]; exact (q_mq.rf hM8)⟩) dX6_standing_17
set_option maxHeartbeats 4000000 in
set_option maxRecDepth 100000 in
theorem c_X6_owner (l : Launch) (G : gG) (M : Nat → Nat → Int) (hdm : ∀ k, k < 179 → gdm G k) (R : Nat → Int) (hRM : M 172 = R) (hI : q_inv R) (a : Int) (ha9 : -2147483648 ≤ a ∧ a < 2147483648) : gMi l yX6_owner wsX6_owner ({ frames := 3, cells := 0, slots := 0, locals := 65 } : Room) G M [.ref (gad G 169), .int (iZ a)] (fun z M1 => ((if 0 ≤ a ∧ a ≤ 5 then (0 : Int) else 1) = 0 → z = q_os R a) ∧ q_mq (if 0 ≤ a ∧ a ≤ 5 then (0 : Int) else 1) M M1) := by
  refine gMi_of (cc := cX6_owner) (maxL := 6) (ret := some .int) (by decide) rfl (Nat.le_of_ble_eq_true rfl) ?_
  intro p e s m below meth c ls hx hb hr hml hown hts hlocks hl hG
  have hown : s.vm.findClass RX6 = some m.cls := hown
  have hl : lv_has ls 6 [(0, .ref (gad G 169)), (1, .int (iZ a))] := hl
  have hinX6 : ∀ w ∈ u_ws RX6 TX6 13, w ∈ wsX6_owner := by decide +kernel
  have f16 := hts (.fieldLink RX6 16 "DogTrialsModel" "now" "[I") (by decide +kernel)
  have hnd := hI.1
  refine lv_aload_n hx hb dX6_owner_0 rfl (lv_at hl 0 rfl) ?_
  refine lv_iload_n hx hb dX6_owner_1 rfl (lv_at hl 1 rfl) ?_
  refine z_i2l hx hb (by omega) dX6_owner_2 ?_
  refine lv_lconst (v := lZ 0) hx hb dX6_owner_3 rfl ?_
  refine lv_ldc2 (v := lZ 5) hx hb hown (by rw [show lZ 5 = (5 : Int64) from by decide]; exact hts (.constantLong RX6 55 5) (by decide +kernel)) dX6_owner_4 ?_
  refine g_callS (As := [.long (lZ a), .long (lZ 0), .long (lZ 5)]) (rest := [.ref (gad G 169)]) ⟨hx, hb, hml, hown, hts⟩ (c_X6_in l G M a 0 5 (by omega) (by omega) (by omega)) (va_cwS 3 hts gX6_owner_X6_in rfl rfl rfl (by decide +kernel) ⟨Nat.le_of_ble_eq_true rfl, Nat.le_of_ble_eq_true rfl⟩) hG rfl hl.1 rfl (Nat.le_of_ble_eq_true rfl) dX6_owner_7 ⟨Nat.zero_le _, Nat.zero_le _⟩ (fun z1 M2 H locs hp_7 hG => ?_)
  obtain ⟨hz_7, hM_7⟩ := hp_7; replace hz_7 := hz_7.symm; subst hz_7; replace hM_7 := hM_7.symm; subst hM_7
  refine z_ifP_eq (tgt := 17) hx hb dX6_owner_10 (by decide) (fun c_10 => ?_) (fun c_10 => ?_)
  · skip
    refine lv_iconst (v := iZ 1) hx hb dX6_owner_17 rfl ?_
    refine g_callV (b := 169) (As := [.int (iZ 1)]) (rest := []) ⟨hx, hb, hml, hown, hts⟩ (c_X6_refused l G M hdm 1 (by omega)) (cwV 1 hts gX6_owner_X6_refused rfl rfl rfl (by decide +kernel) ⟨Nat.le_of_ble_eq_true rfl, Nat.le_of_ble_eq_true rfl⟩) hG (g_recv hG (b := 169) (hdm 169 (by decide)) rfl rfl) rfl hl.1 rfl (Nat.le_of_ble_eq_true rfl) dX6_owner_18 ⟨Nat.zero_le _, Nat.zero_le _⟩ (fun z3 M4 H locs hp_18 hG => ?_)
    obtain ⟨hz_18, hM4⟩ := hp_18; rw [if_pos (by decide)] at hz_18; replace hz_18 := hz_18.symm; subst hz_18
    have hpv_M4_172 : M4 172 = R := Eq.trans (by rw [hM4]; exact wr_off _ _ _ (by decide)) hRM
    have hcd9 : (if 0 ≤ a ∧ a ≤ 5 then (0 : Int) else 1) = (1 : Int) := by (repeat' split) <;> first | rfl | omega | (exfalso; omega) | contradiction
    refine z_if_eq (tgt := 26) hx hb (by decide) dX6_owner_21 (by decide) (fun c_21 => ?_) (fun c_21 => ?_)
    · exfalso; omega
    · skip
      refine lv_iconst (v := iZ 0) hx hb dX6_owner_24 rfl ?_
      exact g_iret (post := fun z M1 => ((if 0 ≤ a ∧ a ≤ 5 then (0 : Int) else 1) = 0 → z = q_os R a) ∧ q_mq (if 0 ≤ a ∧ a ≤ 5 then (0 : Int) else 1) M M1) (z := 0) hx hb hr hG hlocks (⟨fun h9 => absurd h9 (by rw [hcd9]; decide), by rw [hcd9]; exact (q_mq.rf hM4)⟩) dX6_owner_25
  · skip
    refine lv_iconst (v := iZ 0) hx hb dX6_owner_13 rfl ?_
    refine lv_goto (tgt := 18) hx hb dX6_owner_14 (by decide) ?_
    refine g_callV (b := 169) (As := [.int (iZ 0)]) (rest := []) ⟨hx, hb, hml, hown, hts⟩ (c_X6_refused l G M hdm 0 (by omega)) (cwV 1 hts gX6_owner_X6_refused rfl rfl rfl (by decide +kernel) ⟨Nat.le_of_ble_eq_true rfl, Nat.le_of_ble_eq_true rfl⟩) hG (g_recv hG (b := 169) (hdm 169 (by decide)) rfl rfl) rfl hl.1 rfl (Nat.le_of_ble_eq_true rfl) dX6_owner_18 ⟨Nat.zero_le _, Nat.zero_le _⟩ (fun z5 M6 H locs hp_18 hG => ?_)
    obtain ⟨hz_18, hM6⟩ := hp_18; rw [if_neg (by decide)] at hz_18; replace hz_18 := hz_18.symm; subst hz_18
    have hpv_M6_172 : M6 172 = R := Eq.trans (by rw [hM6]; exact wr_off _ _ _ (by decide)) hRM
    have hcd9 : (if 0 ≤ a ∧ a ≤ 5 then (0 : Int) else 1) = (0 : Int) := by (repeat' split) <;> first | rfl | omega | (exfalso; omega) | contradiction
    refine z_if_eq (tgt := 26) hx hb (by decide) dX6_owner_21 (by decide) (fun c_21 => ?_) (fun c_21 => ?_)
    · skip
      refine lv_iconst (v := iZ 0) hx hb dX6_owner_26 rfl ?_
      refine lv_istore_n (lv' := [(2, .int (iZ 0)), (0, .ref (gad G 169)), (1, .int (iZ a))]) hx hb dX6_owner_27 rfl hl (by decide) rfl (fun ls hl => ?_)
      refine lv_iconst (v := iZ 0) hx hb dX6_owner_28 rfl ?_
      refine lv_istore_n (lv' := [(3, .int (iZ 0)), (2, .int (iZ 0)), (0, .ref (gad G 169)), (1, .int (iZ a))]) hx hb dX6_owner_29 rfl hl (by decide) rfl (fun ls hl => ?_)
      refine lv_iconst (v := iZ 0) hx hb dX6_owner_30 rfl ?_
      refine lv_istore (lv' := [(4, .int (iZ 0)), (3, .int (iZ 0)), (2, .int (iZ 0)), (0, .ref (gad G 169)), (1, .int (iZ a))]) hx hb dX6_owner_31 hl (by decide) rfl (fun ls hl => ?_)
      have L_33 : ∀ (n_33 : Nat) (k : Nat) (x_i : Int) (x_s : Int) (x_b : Int), (x_i = (k : Int)) → (x_s = (q_b2 R a k).2) → (x_b = (q_b2 R a k).1) → ((k : Int) ≤ q_nd R) → 12 - k < n_33 → ∀ (H : Heap) (locs : List Loc) (ls : Array Slot), gH G M6 s H locs → lv_has ls 6 [(4, .int (iZ x_i)), (3, .int (iZ x_s)), (2, .int (iZ x_b)), (0, .ref (gad G 169)), (1, .int (iZ a))] → W p l e ({ frames := 3, cells := 0, slots := 0, locals := 65 } : Room) s m [.ref (gad G 169), .int (iZ a)].toArray below meth c H locs 0 0 (MQ below (va_Qi (fun r (u : Int × (Nat → Nat → Int)) => r = iZ u.1 ∧ (fun z M1 => ((if 0 ≤ a ∧ a ≤ 5 then (0 : Int) else 1) = 0 → z = q_os R a) ∧ q_mq (if 0 ≤ a ∧ a ≤ 5 then (0 : Int) else 1) M M1) u.1 u.2) (fun u U => gB G u.2 U) (gA G)) [.ref (gad G 169), .int (iZ a)].toArray s 0 0 (gA G)) (F0 m 33 ls []) := by
        intro n_33
        induction n_33 with
        | zero => intro k x_i x_s x_b he_x_i he_x_s he_x_b hk hm_33; exact absurd hm_33 (Nat.not_lt_zero _)
        | succ n_33 ih_33 =>
          intro k x_i x_s x_b he_x_i he_x_s he_x_b hk hm_33 H locs ls hG hl
          subst he_x_i
          subst he_x_s
          subst he_x_b
          have hb2 := q_b2_in hI a hk
          refine lv_iload hx hb dX6_owner_33 (lv_at hl 0 rfl) ?_
          refine lv_aload_n hx hb dX6_owner_35 rfl (lv_at hl 3 rfl) ?_
          refine g_get hx hb hts hinX6 hown hG (o := 169) (hdm 169 (by decide)) rfl rfl 5 (by decide) f16 (fun _ h => h) rfl dX6_owner_36 ?_
          refine lv_bipush (v := iZ (7)) hx hb dX6_owner_39 (by decide) ?_
          refine g_iald (z := (q_nd R)) (j := 7) hx hb hG (o := 172) (hdm 172 (by decide)) rfl (by omega) (by omega) (by omega) (by rw [hpv_M6_172] <;> rfl) dX6_owner_41 ?_
          refine z_icmp_ge (tgt := 112) hx hb (by omega) (by omega) dX6_owner_42 (by decide) (fun c_42 => ?_) (fun c_42 => ?_)
          · skip
            refine lv_iload_n hx hb dX6_owner_112 rfl (lv_at hl 2 rfl) ?_
            refine lv_iload_n hx hb dX6_owner_113 rfl (lv_at hl 1 rfl) ?_
            refine z_iadd (z := ((q_b2 R a k).1 + (q_b2 R a k).2)) hx hb (by omega) dX6_owner_114 ?_
            exact g_iret (post := fun z M1 => ((if 0 ≤ a ∧ a ≤ 5 then (0 : Int) else 1) = 0 → z = q_os R a) ∧ q_mq (if 0 ≤ a ∧ a ≤ 5 then (0 : Int) else 1) M M1) (z := ((q_b2 R a k).1 + (q_b2 R a k).2)) hx hb hr hG hlocks (⟨fun _ => by unfold q_os; rw [show (q_nd R).toNat = k by omega], by rw [hcd9]; exact (q_mq.rf hM6)⟩) dX6_owner_115
          · skip
            have hdo := dok5 hI k (by omega)
            have hsk := sc_in (hI.2.1 k (by omega))
            refine lv_aload_n hx hb dX6_owner_45 rfl (lv_at hl 3 rfl) ?_
            refine g_get hx hb hts hinX6 hown hG (o := 169) (hdm 169 (by decide)) rfl rfl 5 (by decide) f16 (fun _ h => h) rfl dX6_owner_46 ?_
            refine lv_iload hx hb dX6_owner_49 (lv_at hl 0 rfl) ?_
            refine g_callS (As := [.int (iZ (k : Int))]) (rest := [.ref (gad G 172)]) ⟨hx, hb, hml, hown, hts⟩ (c_X6_dogAt l G M6 (k : Int)) (va_cwS 1 hts gX6_owner_X6_dogAt rfl rfl rfl (by decide +kernel) ⟨Nat.le_of_ble_eq_true rfl, Nat.le_of_ble_eq_true rfl⟩) hG rfl hl.1 rfl (Nat.le_of_ble_eq_true rfl) dX6_owner_51 ⟨Nat.zero_le _, Nat.zero_le _⟩ (fun z7 M8 H locs hp_51 hG => ?_)
            obtain ⟨hz_51, hM_51⟩ := hp_51; replace hz_51 := hz_51.symm; subst hz_51; replace hM_51 := hM_51.symm; subst hM_51
            rw [show (14 + 11 * (k : Int) : Int) = (11 * (k : Int) + 14) from by omega]
            refine g_iald (z := (q_ow R k)) (j := (14 + 11 * k)) hx hb hG (o := 172) (hdm 172 (by decide)) rfl (by omega) (by omega) (by omega) (by rw [hpv_M6_172] <;> rfl) dX6_owner_54 ?_
            refine lv_iload_n hx hb dX6_owner_55 rfl (lv_at hl 4 rfl) ?_
            refine z_icmp_ne (tgt := 106) hx hb (by omega) (by omega) dX6_owner_56 (by decide) (fun c_56 => ?_) (fun c_56 => ?_)
            · skip
              refine z_iinc (z := ((k : Int) + 1)) (lv' := [(4, .int (iZ ((k : Int) + 1))), (3, .int (iZ (q_b2 R a k).2)), (2, .int (iZ (q_b2 R a k).1)), (0, .ref (gad G 169)), (1, .int (iZ a))]) hx hb dX6_owner_106 hl (k := 0) rfl (by omega) (by decide) rfl (fun ls hl => ?_)
              refine lv_goto (tgt := 33) hx hb dX6_owner_109 (by decide) ?_
              exact ih_33 (k + 1) ((k : Int) + 1) ((q_b2 R a k).2) ((q_b2 R a k).1)  (by omega) (by rw [q_b2]; first | (rw [if_pos (by omega)]; dsimp only; omega) | (rw [if_neg (by omega)]; done)) (by rw [q_b2]; first | (rw [if_pos (by omega)]; dsimp only; omega) | (rw [if_neg (by omega)]; done)) (by omega) (by omega) _ _ _ hG (lv_sub hl [0, 1, 2, 3, 4] rfl)
            · skip
              refine lv_aload_n hx hb dX6_owner_59 rfl (lv_at hl 3 rfl) ?_
              refine g_get hx hb hts hinX6 hown hG (o := 169) (hdm 169 (by decide)) rfl rfl 5 (by decide) f16 (fun _ h => h) rfl dX6_owner_60 ?_
              refine lv_iload hx hb dX6_owner_63 (lv_at hl 0 rfl) ?_
              refine g_callS (As := [.ref (gad G 172), .int (iZ (k : Int))]) (rest := []) ⟨hx, hb, hml, hown, hts⟩ (c_X6_score l G M6 hdm 172 (Or.inr (Or.inl rfl)) (by rw [hpv_M6_172]; exact hI) k (by first | omega | (rw [hpv_M6_172]; omega))) (va_cwS 2 hts gX6_owner_X6_score rfl rfl rfl (by decide +kernel) ⟨Nat.le_of_ble_eq_true rfl, Nat.le_of_ble_eq_true rfl⟩) hG rfl hl.1 rfl (Nat.le_of_ble_eq_true rfl) dX6_owner_65 ⟨Nat.zero_le _, Nat.zero_le _⟩ (fun z9 M10 H locs hp_65 hG => ?_)
              rw [hpv_M6_172] at hp_65
              obtain ⟨hz_65, hM_65⟩ := hp_65; replace hz_65 := hz_65.symm; subst hz_65; replace hM_65 := hM_65.symm; subst hM_65
              refine lv_istore (lv' := [(5, .int (iZ (q_sc R k))), (4, .int (iZ (k : Int))), (3, .int (iZ (q_b2 R a k).2)), (2, .int (iZ (q_b2 R a k).1)), (0, .ref (gad G 169)), (1, .int (iZ a))]) hx hb dX6_owner_68 hl (by decide) rfl (fun ls hl => ?_)
              refine lv_iload hx hb dX6_owner_70 (lv_at hl 0 rfl) ?_
              refine lv_iload_n hx hb dX6_owner_72 rfl (lv_at hl 3 rfl) ?_
              refine z_icmp_le (tgt := 80) hx hb (by omega) (by omega) dX6_owner_73 (by decide) (fun c_73 => ?_) (fun c_73 => ?_)
              · skip
                refine lv_iload hx hb dX6_owner_80 (lv_at hl 0 rfl) ?_
                refine lv_iload_n hx hb dX6_owner_82 rfl (lv_at hl 2 rfl) ?_
                refine z_icmp_le (tgt := 91) hx hb (by omega) (by omega) dX6_owner_83 (by decide) (fun c_83 => ?_) (fun c_83 => ?_)
                · skip
                  refine lv_iload_n hx hb dX6_owner_91 rfl (lv_at hl 2 rfl) ?_
                  refine lv_istore_n (lv' := [(3, .int (iZ (q_b2 R a k).2)), (5, .int (iZ (q_sc R k))), (4, .int (iZ (k : Int))), (2, .int (iZ (q_b2 R a k).1)), (0, .ref (gad G 169)), (1, .int (iZ a))]) hx hb dX6_owner_92 rfl hl (by decide) rfl (fun ls hl => ?_)
                  refine lv_iload hx hb dX6_owner_93 (lv_at hl 1 rfl) ?_
                  refine lv_iload_n hx hb dX6_owner_95 rfl (lv_at hl 3 rfl) ?_
                  refine z_icmp_le (tgt := 104) hx hb (by omega) (by omega) dX6_owner_96 (by decide) (fun c_96 => ?_) (fun c_96 => ?_)
                  · skip
                    refine lv_iload_n hx hb dX6_owner_104 rfl (lv_at hl 3 rfl) ?_
                    refine lv_istore_n (lv' := [(2, .int (iZ (q_b2 R a k).1)), (3, .int (iZ (q_b2 R a k).2)), (5, .int (iZ (q_sc R k))), (4, .int (iZ (k : Int))), (0, .ref (gad G 169)), (1, .int (iZ a))]) hx hb dX6_owner_105 rfl hl (by decide) rfl (fun ls hl => ?_)
                    refine z_iinc (z := ((k : Int) + 1)) (lv' := [(4, .int (iZ ((k : Int) + 1))), (2, .int (iZ (q_b2 R a k).1)), (3, .int (iZ (q_b2 R a k).2)), (5, .int (iZ (q_sc R k))), (0, .ref (gad G 169)), (1, .int (iZ a))]) hx hb dX6_owner_106 hl (k := 3) rfl (by omega) (by decide) rfl (fun ls hl => ?_)
                    refine lv_goto (tgt := 33) hx hb dX6_owner_109 (by decide) ?_
                    exact ih_33 (k + 1) ((k : Int) + 1) ((q_b2 R a k).2) ((q_b2 R a k).1)  (by omega) (by rw [q_b2]; first | (rw [if_pos (by omega)]; dsimp only; omega) | (rw [if_neg (by omega)]; done)) (by rw [q_b2]; first | (rw [if_pos (by omega)]; dsimp only; omega) | (rw [if_neg (by omega)]; done)) (by omega) (by omega) _ _ _ hG (lv_sub hl [0, 2, 1, 4, 5] rfl)
                  · skip
                    refine lv_iload hx hb dX6_owner_99 (lv_at hl 1 rfl) ?_
                    refine lv_goto (tgt := 105) hx hb dX6_owner_101 (by decide) ?_
                    refine lv_istore_n (lv' := [(2, .int (iZ (q_sc R k))), (3, .int (iZ (q_b2 R a k).2)), (5, .int (iZ (q_sc R k))), (4, .int (iZ (k : Int))), (0, .ref (gad G 169)), (1, .int (iZ a))]) hx hb dX6_owner_105 rfl hl (by decide) rfl (fun ls hl => ?_)
                    refine z_iinc (z := ((k : Int) + 1)) (lv' := [(4, .int (iZ ((k : Int) + 1))), (2, .int (iZ (q_sc R k))), (3, .int (iZ (q_b2 R a k).2)), (5, .int (iZ (q_sc R k))), (0, .ref (gad G 169)), (1, .int (iZ a))]) hx hb dX6_owner_106 hl (k := 3) rfl (by omega) (by decide) rfl (fun ls hl => ?_)
                    refine lv_goto (tgt := 33) hx hb dX6_owner_109 (by decide) ?_
                    exact ih_33 (k + 1) ((k : Int) + 1) ((q_b2 R a k).2) (q_sc R k)  (by omega) (by rw [q_b2]; first | (rw [if_pos (by omega)]; dsimp only; omega) | (rw [if_neg (by omega)]; done)) (by rw [q_b2]; first | (rw [if_pos (by omega)]; dsimp only; omega) | (rw [if_neg (by omega)]; done)) (by omega) (by omega) _ _ _ hG (lv_sub hl [0, 2, 1, 4, 5] rfl)
                · skip
                  refine lv_iload hx hb dX6_owner_86 (lv_at hl 0 rfl) ?_
                  refine lv_goto (tgt := 92) hx hb dX6_owner_88 (by decide) ?_
                  refine lv_istore_n (lv' := [(3, .int (iZ (q_sc R k))), (5, .int (iZ (q_sc R k))), (4, .int (iZ (k : Int))), (2, .int (iZ (q_b2 R a k).1)), (0, .ref (gad G 169)), (1, .int (iZ a))]) hx hb dX6_owner_92 rfl hl (by decide) rfl (fun ls hl => ?_)
                  refine lv_iload hx hb dX6_owner_93 (lv_at hl 1 rfl) ?_
                  refine lv_iload_n hx hb dX6_owner_95 rfl (lv_at hl 3 rfl) ?_
                  refine z_icmp_le (tgt := 104) hx hb (by omega) (by omega) dX6_owner_96 (by decide) (fun c_96 => ?_) (fun c_96 => ?_)
                  · skip
                    refine lv_iload_n hx hb dX6_owner_104 rfl (lv_at hl 3 rfl) ?_
                    refine lv_istore_n (lv' := [(2, .int (iZ (q_b2 R a k).1)), (3, .int (iZ (q_sc R k))), (5, .int (iZ (q_sc R k))), (4, .int (iZ (k : Int))), (0, .ref (gad G 169)), (1, .int (iZ a))]) hx hb dX6_owner_105 rfl hl (by decide) rfl (fun ls hl => ?_)
                    refine z_iinc (z := ((k : Int) + 1)) (lv' := [(4, .int (iZ ((k : Int) + 1))), (2, .int (iZ (q_b2 R a k).1)), (3, .int (iZ (q_sc R k))), (5, .int (iZ (q_sc R k))), (0, .ref (gad G 169)), (1, .int (iZ a))]) hx hb dX6_owner_106 hl (k := 3) rfl (by omega) (by decide) rfl (fun ls hl => ?_)
                    refine lv_goto (tgt := 33) hx hb dX6_owner_109 (by decide) ?_
                    exact ih_33 (k + 1) ((k : Int) + 1) (q_sc R k) ((q_b2 R a k).1)  (by omega) (by rw [q_b2]; first | (rw [if_pos (by omega)]; dsimp only; omega) | (rw [if_neg (by omega)]; done)) (by rw [q_b2]; first | (rw [if_pos (by omega)]; dsimp only; omega) | (rw [if_neg (by omega)]; done)) (by omega) (by omega) _ _ _ hG (lv_sub hl [0, 2, 1, 4, 5] rfl)
                  · skip
                    refine lv_iload hx hb dX6_owner_99 (lv_at hl 1 rfl) ?_
                    refine lv_goto (tgt := 105) hx hb dX6_owner_101 (by decide) ?_
                    refine lv_istore_n (lv' := [(2, .int (iZ (q_sc R k))), (3, .int (iZ (q_sc R k))), (5, .int (iZ (q_sc R k))), (4, .int (iZ (k : Int))), (0, .ref (gad G 169)), (1, .int (iZ a))]) hx hb dX6_owner_105 rfl hl (by decide) rfl (fun ls hl => ?_)
                    refine z_iinc (z := ((k : Int) + 1)) (lv' := [(4, .int (iZ ((k : Int) + 1))), (2, .int (iZ (q_sc R k))), (3, .int (iZ (q_sc R k))), (5, .int (iZ (q_sc R k))), (0, .ref (gad G 169)), (1, .int (iZ a))]) hx hb dX6_owner_106 hl (k := 3) rfl (by omega) (by decide) rfl (fun ls hl => ?_)
                    refine lv_goto (tgt := 33) hx hb dX6_owner_109 (by decide) ?_
                    exact ih_33 (k + 1) ((k : Int) + 1) (q_sc R k) (q_sc R k)  (by omega) (by rw [q_b2]; first | (rw [if_pos (by omega)]; dsimp only; omega) | (rw [if_neg (by omega)]; done)) (by rw [q_b2]; first | (rw [if_pos (by omega)]; dsimp only; omega) | (rw [if_neg (by omega)]; done)) (by omega) (by omega) _ _ _ hG (lv_sub hl [0, 2, 1, 4, 5] rfl)
              · skip
                refine lv_iload_n hx hb dX6_owner_76 rfl (lv_at hl 3 rfl) ?_
                refine lv_goto (tgt := 92) hx hb dX6_owner_77 (by decide) ?_
                refine lv_istore_n (lv' := [(3, .int (iZ (q_b2 R a k).1)), (5, .int (iZ (q_sc R k))), (4, .int (iZ (k : Int))), (2, .int (iZ (q_b2 R a k).1)), (0, .ref (gad G 169)), (1, .int (iZ a))]) hx hb dX6_owner_92 rfl hl (by decide) rfl (fun ls hl => ?_)
                refine lv_iload hx hb dX6_owner_93 (lv_at hl 1 rfl) ?_
                refine lv_iload_n hx hb dX6_owner_95 rfl (lv_at hl 3 rfl) ?_
                refine z_icmp_le (tgt := 104) hx hb (by omega) (by omega) dX6_owner_96 (by decide) (fun c_96 => ?_) (fun c_96 => ?_)
                · skip
                  refine lv_iload_n hx hb dX6_owner_104 rfl (lv_at hl 3 rfl) ?_
                  refine lv_istore_n (lv' := [(2, .int (iZ (q_b2 R a k).1)), (3, .int (iZ (q_b2 R a k).1)), (5, .int (iZ (q_sc R k))), (4, .int (iZ (k : Int))), (0, .ref (gad G 169)), (1, .int (iZ a))]) hx hb dX6_owner_105 rfl hl (by decide) rfl (fun ls hl => ?_)
                  refine z_iinc (z := ((k : Int) + 1)) (lv' := [(4, .int (iZ ((k : Int) + 1))), (2, .int (iZ (q_b2 R a k).1)), (3, .int (iZ (q_b2 R a k).1)), (5, .int (iZ (q_sc R k))), (0, .ref (gad G 169)), (1, .int (iZ a))]) hx hb dX6_owner_106 hl (k := 3) rfl (by omega) (by decide) rfl (fun ls hl => ?_)
                  refine lv_goto (tgt := 33) hx hb dX6_owner_109 (by decide) ?_
                  exact ih_33 (k + 1) ((k : Int) + 1) ((q_b2 R a k).1) ((q_b2 R a k).1)  (by omega) (by rw [q_b2]; first | (rw [if_pos (by omega)]; dsimp only; omega) | (rw [if_neg (by omega)]; done)) (by rw [q_b2]; first | (rw [if_pos (by omega)]; dsimp only; omega) | (rw [if_neg (by omega)]; done)) (by omega) (by omega) _ _ _ hG (lv_sub hl [0, 2, 1, 4, 5] rfl)
                · skip
                  refine lv_iload hx hb dX6_owner_99 (lv_at hl 1 rfl) ?_
                  refine lv_goto (tgt := 105) hx hb dX6_owner_101 (by decide) ?_
                  refine lv_istore_n (lv' := [(2, .int (iZ (q_sc R k))), (3, .int (iZ (q_b2 R a k).1)), (5, .int (iZ (q_sc R k))), (4, .int (iZ (k : Int))), (0, .ref (gad G 169)), (1, .int (iZ a))]) hx hb dX6_owner_105 rfl hl (by decide) rfl (fun ls hl => ?_)
                  refine z_iinc (z := ((k : Int) + 1)) (lv' := [(4, .int (iZ ((k : Int) + 1))), (2, .int (iZ (q_sc R k))), (3, .int (iZ (q_b2 R a k).1)), (5, .int (iZ (q_sc R k))), (0, .ref (gad G 169)), (1, .int (iZ a))]) hx hb dX6_owner_106 hl (k := 3) rfl (by omega) (by decide) rfl (fun ls hl => ?_)
                  refine lv_goto (tgt := 33) hx hb dX6_owner_109 (by decide) ?_
                  exact ih_33 (k + 1) ((k : Int) + 1) ((q_b2 R a k).1) (q_sc R k)  (by omega) (by rw [q_b2]; first | (rw [if_pos (by omega)]; dsimp only; omega) | (rw [if_neg (by omega)]; done)) (by rw [q_b2]; first | (rw [if_pos (by omega)]; dsimp only; omega) | (rw [if_neg (by omega)]; done)) (by omega) (by omega) _ _ _ hG (lv_sub hl [0, 2, 1, 4, 5] rfl)
      exact L_33 _ 0 0 0 0  rfl rfl rfl (by omega) (Nat.lt_succ_self _) _ _ _ hG (lv_sub hl [0, 1, 2, 3, 4] rfl)
    · exfalso; omega
set_option maxHeartbeats 4000000 in
set_option maxRecDepth 100000 in
theorem c_X6_whyNot (l : Launch) (G : gG) (M : Nat → Nat → Int) (hdm : ∀ k, k < 179 → gdm G k) (R : Nat → Int) (hRM : M 172 = R) (hI : q_inv R) : gMi l yX6_whyNot wsX6_whyNot ({ frames := 5, cells := 0, slots := 0, locals := 104 } : Room) G M [.ref (gad G 169)] (fun z M1 => z = q_ob R ∧ q_mq 0 M M1) := by
  refine gMi_of (cc := cX6_whyNot) (maxL := 1) (ret := some .int) (by decide) rfl (Nat.le_of_ble_eq_true rfl) ?_
  intro p e s m below meth c ls hx hb hr hml hown hts hlocks hl hG
  have hown : s.vm.findClass RX6 = some m.cls := hown
  have hl : lv_has ls 1 [(0, .ref (gad G 169))] := hl
  have hinX6 : ∀ w ∈ u_ws RX6 TX6 13, w ∈ wsX6_whyNot := by decide +kernel
  have f16 := hts (.fieldLink RX6 16 "DogTrialsModel" "now" "[I") (by decide +kernel)
  have f39 := hts (.fieldLink RX6 39 "DogTrialsModel" "refusal" "I") (by decide +kernel)
  have hnd := hI.1
  refine lv_aload_n hx hb dX6_whyNot_0 rfl (lv_at hl 0 rfl) ?_
  refine lv_iconst (v := iZ 0) hx hb dX6_whyNot_1 rfl ?_
  refine g_put (F := (oR G)) hx hb hts hinX6 tyX6 tyX6_ok nmX6 hown hG (o := 169) (hdm 169 (by decide)) (fun f => rfl) rfl 0 (by decide) f39 (fun _ h => h) rfl rfl (fun _ => Nat.lt_of_lt_of_le (by decide) (Nat.le_refl 13)) (fun _ => rfl) dX6_whyNot_2 (fun H locs hG => ?_)
  obtain ⟨M1, hM1⟩ : ∃ X, X = (q_wr M 169 0 0) := ⟨_, rfl⟩
  rw [← hM1] at hG
  have hpv_M1_172 : M1 172 = R := Eq.trans (by rw [hM1, wr_off _ _ _ (by omega)]) hRM
  refine lv_aload_n hx hb dX6_whyNot_5 rfl (lv_at hl 0 rfl) ?_
  refine g_get hx hb hts hinX6 hown hG (o := 169) (hdm 169 (by decide)) rfl rfl 5 (by decide) f16 (fun _ h => h) rfl dX6_whyNot_6 ?_
  refine g_callS (As := [.ref (gad G 172)]) (rest := []) ⟨hx, hb, hml, hown, hts⟩ (c_X6_why l G M1 hdm 172 (Or.inr (Or.inl rfl)) (by rw [hpv_M1_172]; exact hI)) (va_cwS 1 hts gX6_whyNot_X6_why rfl rfl rfl (by decide +kernel) ⟨Nat.le_of_ble_eq_true rfl, Nat.le_of_ble_eq_true rfl⟩) hG rfl hl.1 rfl (Nat.le_of_ble_eq_true rfl) dX6_whyNot_9 ⟨Nat.zero_le _, Nat.zero_le _⟩ (fun z2 M3 H locs hp_9 hG => ?_)
  rw [hpv_M1_172] at hp_9
  obtain ⟨hz_9, hM_9⟩ := hp_9; replace hz_9 := hz_9.symm; subst hz_9; replace hM_9 := hM_9.symm; subst hM_9
  exact g_iret (post := fun z M1 => z = q_ob R ∧ q_mq 0 M M1) (z := (q_ob R)) hx hb hr hG hlocks (⟨rfl, (q_mq.rf hM1)⟩) dX6_whyNot_12
set_option maxHeartbeats 4000000 in
set_option maxRecDepth 100000 in
theorem c_X6_runsLeft (l : Launch) (G : gG) (M : Nat → Nat → Int) (hdm : ∀ k, k < 179 → gdm G k) (R : Nat → Int) (hRM : M 172 = R) (hI : q_inv R) (a : Int) (ha9 : -2147483648 ≤ a ∧ a < 2147483648) : gMi l yX6_runsLeft wsX6_runsLeft ({ frames := 4, cells := 0, slots := 0, locals := 84 } : Room) G M [.ref (gad G 169), .int (iZ a)] (fun z M1 => ((if 1 ≤ a ∧ a ≤ 30 then (0 : Int) else 1) = 0 → z = min (q_nwait R) ((R 2 - R 1) / a)) ∧ q_mq (if 1 ≤ a ∧ a ≤ 30 then (0 : Int) else 1) M M1) := by
  refine gMi_of (cc := cX6_runsLeft) (maxL := 4) (ret := some .int) (by decide) rfl (Nat.le_of_ble_eq_true rfl) ?_
  intro p e s m below meth c ls hx hb hr hml hown hts hlocks hl hG
  have hown : s.vm.findClass RX6 = some m.cls := hown
  have hl : lv_has ls 4 [(0, .ref (gad G 169)), (1, .int (iZ a))] := hl
  have hinX6 : ∀ w ∈ u_ws RX6 TX6 13, w ∈ wsX6_runsLeft := by decide +kernel
  have f16 := hts (.fieldLink RX6 16 "DogTrialsModel" "now" "[I") (by decide +kernel)
  have hnd := hI.1
  have hms := hI.2.2.2.1
  have hs6 := hI.2.2.2.2.1
  have hwt : 0 ≤ q_nwait R ∧ q_nwait R ≤ (q_nd R).toNat := ct_in _ _
  refine lv_aload_n hx hb dX6_runsLeft_0 rfl (lv_at hl 0 rfl) ?_
  refine lv_iload_n hx hb dX6_runsLeft_1 rfl (lv_at hl 1 rfl) ?_
  refine z_i2l hx hb (by omega) dX6_runsLeft_2 ?_
  refine lv_lconst (v := lZ 1) hx hb dX6_runsLeft_3 rfl ?_
  refine lv_ldc2 (v := lZ 30) hx hb hown (by rw [show lZ 30 = (30 : Int64) from by decide]; exact hts (.constantLong RX6 187 30) (by decide +kernel)) dX6_runsLeft_4 ?_
  refine g_callS (As := [.long (lZ a), .long (lZ 1), .long (lZ 30)]) (rest := [.ref (gad G 169)]) ⟨hx, hb, hml, hown, hts⟩ (c_X6_in l G M a 1 30 (by omega) (by omega) (by omega)) (va_cwS 3 hts gX6_runsLeft_X6_in rfl rfl rfl (by decide +kernel) ⟨Nat.le_of_ble_eq_true rfl, Nat.le_of_ble_eq_true rfl⟩) hG rfl hl.1 rfl (Nat.le_of_ble_eq_true rfl) dX6_runsLeft_7 ⟨Nat.zero_le _, Nat.zero_le _⟩ (fun z1 M2 H locs hp_7 hG => ?_)
  obtain ⟨hz_7, hM_7⟩ := hp_7; replace hz_7 := hz_7.symm; subst hz_7; replace hM_7 := hM_7.symm; subst hM_7
  refine z_ifP_eq (tgt := 17) hx hb dX6_runsLeft_10 (by decide) (fun c_10 => ?_) (fun c_10 => ?_)
  · skip
    refine lv_iconst (v := iZ 1) hx hb dX6_runsLeft_17 rfl ?_
    refine g_callV (b := 169) (As := [.int (iZ 1)]) (rest := []) ⟨hx, hb, hml, hown, hts⟩ (c_X6_refused l G M hdm 1 (by omega)) (cwV 1 hts gX6_runsLeft_X6_refused rfl rfl rfl (by decide +kernel) ⟨Nat.le_of_ble_eq_true rfl, Nat.le_of_ble_eq_true rfl⟩) hG (g_recv hG (b := 169) (hdm 169 (by decide)) rfl rfl) rfl hl.1 rfl (Nat.le_of_ble_eq_true rfl) dX6_runsLeft_18 ⟨Nat.zero_le _, Nat.zero_le _⟩ (fun z3 M4 H locs hp_18 hG => ?_)
    obtain ⟨hz_18, hM4⟩ := hp_18; rw [if_pos (by decide)] at hz_18; replace hz_18 := hz_18.symm; subst hz_18
    have hpv_M4_172 : M4 172 = R := Eq.trans (by rw [hM4]; exact wr_off _ _ _ (by decide)) hRM
    have hcd9 : (if 1 ≤ a ∧ a ≤ 30 then (0 : Int) else 1) = (1 : Int) := by (repeat' split) <;> first | rfl | omega | (exfalso; omega) | contradiction
    refine z_if_eq (tgt := 26) hx hb (by decide) dX6_runsLeft_21 (by decide) (fun c_21 => ?_) (fun c_21 => ?_)
    · exfalso; omega
    · skip
      refine lv_iconst (v := iZ 0) hx hb dX6_runsLeft_24 rfl ?_
      exact g_iret (post := fun z M1 => ((if 1 ≤ a ∧ a ≤ 30 then (0 : Int) else 1) = 0 → z = min (q_nwait R) ((R 2 - R 1) / a)) ∧ q_mq (if 1 ≤ a ∧ a ≤ 30 then (0 : Int) else 1) M M1) (z := 0) hx hb hr hG hlocks (⟨fun h9 => absurd h9 (by rw [hcd9]; decide), by rw [hcd9]; exact (q_mq.rf hM4)⟩) dX6_runsLeft_25
  · skip
    refine lv_iconst (v := iZ 0) hx hb dX6_runsLeft_13 rfl ?_
    refine lv_goto (tgt := 18) hx hb dX6_runsLeft_14 (by decide) ?_
    refine g_callV (b := 169) (As := [.int (iZ 0)]) (rest := []) ⟨hx, hb, hml, hown, hts⟩ (c_X6_refused l G M hdm 0 (by omega)) (cwV 1 hts gX6_runsLeft_X6_refused rfl rfl rfl (by decide +kernel) ⟨Nat.le_of_ble_eq_true rfl, Nat.le_of_ble_eq_true rfl⟩) hG (g_recv hG (b := 169) (hdm 169 (by decide)) rfl rfl) rfl hl.1 rfl (Nat.le_of_ble_eq_true rfl) dX6_runsLeft_18 ⟨Nat.zero_le _, Nat.zero_le _⟩ (fun z5 M6 H locs hp_18 hG => ?_)
    obtain ⟨hz_18, hM6⟩ := hp_18; rw [if_neg (by decide)] at hz_18; replace hz_18 := hz_18.symm; subst hz_18
    have hpv_M6_172 : M6 172 = R := Eq.trans (by rw [hM6]; exact wr_off _ _ _ (by decide)) hRM
    have hcd9 : (if 1 ≤ a ∧ a ≤ 30 then (0 : Int) else 1) = (0 : Int) := by (repeat' split) <;> first | rfl | omega | (exfalso; omega) | contradiction
    refine z_if_eq (tgt := 26) hx hb (by decide) dX6_runsLeft_21 (by decide) (fun c_21 => ?_) (fun c_21 => ?_)
    · skip
      have hdv : 0 ≤ (R 2 - R 1) / a ∧ (R 2 - R 1) / a ≤ R 2 - R 1 := ⟨Int.ediv_nonneg (by omega) (by omega), Int.ediv_le_self _ (by omega)⟩
      refine lv_aload_n hx hb dX6_runsLeft_26 rfl (lv_at hl 0 rfl) ?_
      refine g_get hx hb hts hinX6 hown hG (o := 169) (hdm 169 (by decide)) rfl rfl 5 (by decide) f16 (fun _ h => h) rfl dX6_runsLeft_27 ?_
      refine lv_iconst (v := iZ 2) hx hb dX6_runsLeft_30 rfl ?_
      refine g_iald (z := (R 2)) (j := 2) hx hb hG (o := 172) (hdm 172 (by decide)) rfl (by omega) (by omega) (by omega) (by rw [hpv_M6_172] <;> rfl) dX6_runsLeft_31 ?_
      refine lv_aload_n hx hb dX6_runsLeft_32 rfl (lv_at hl 0 rfl) ?_
      refine g_get hx hb hts hinX6 hown hG (o := 169) (hdm 169 (by decide)) rfl rfl 5 (by decide) f16 (fun _ h => h) rfl dX6_runsLeft_33 ?_
      refine lv_iconst (v := iZ 1) hx hb dX6_runsLeft_36 rfl ?_
      refine g_iald (z := (R 1)) (j := 1) hx hb hG (o := 172) (hdm 172 (by decide)) rfl (by omega) (by omega) (by omega) (by rw [hpv_M6_172] <;> rfl) dX6_runsLeft_37 ?_
      refine z_isub (z := ((R 2) - (R 1))) hx hb (by omega) dX6_runsLeft_38 ?_
      refine lv_iload_n hx hb dX6_runsLeft_39 rfl (lv_at hl 1 rfl) ?_
      refine z_idiv (z := (((R 2) - (R 1)) / a)) hx hb (by omega) (by omega) rfl dX6_runsLeft_40 ?_
      refine lv_istore_n (lv' := [(2, .int (iZ (((R 2) - (R 1)) / a))), (0, .ref (gad G 169)), (1, .int (iZ a))]) hx hb dX6_runsLeft_41 rfl hl (by decide) rfl (fun ls hl => ?_)
      refine lv_aload_n hx hb dX6_runsLeft_42 rfl (lv_at hl 1 rfl) ?_
      refine g_get hx hb hts hinX6 hown hG (o := 169) (hdm 169 (by decide)) rfl rfl 5 (by decide) f16 (fun _ h => h) rfl dX6_runsLeft_43 ?_
      refine g_callS (As := [.ref (gad G 172)]) (rest := []) ⟨hx, hb, hml, hown, hts⟩ (c_X6_waiting l G M6 hdm 172 (Or.inr (Or.inl rfl)) (by rw [hpv_M6_172]; exact hI)) (va_cwS 1 hts gX6_runsLeft_X6_waiting rfl rfl rfl (by decide +kernel) ⟨Nat.le_of_ble_eq_true rfl, Nat.le_of_ble_eq_true rfl⟩) hG rfl hl.1 rfl (Nat.le_of_ble_eq_true rfl) dX6_runsLeft_46 ⟨Nat.zero_le _, Nat.zero_le _⟩ (fun z7 M8 H locs hp_46 hG => ?_)
      rw [hpv_M6_172] at hp_46
      obtain ⟨hz_46, hM_46⟩ := hp_46; replace hz_46 := hz_46.symm; subst hz_46; replace hM_46 := hM_46.symm; subst hM_46
      refine lv_istore_n (lv' := [(3, .int (iZ (q_nwait R))), (2, .int (iZ (((R 2) - (R 1)) / a))), (0, .ref (gad G 169)), (1, .int (iZ a))]) hx hb dX6_runsLeft_49 rfl hl (by decide) rfl (fun ls hl => ?_)
      refine lv_iload_n hx hb dX6_runsLeft_50 rfl (lv_at hl 0 rfl) ?_
      refine lv_iload_n hx hb dX6_runsLeft_51 rfl (lv_at hl 1 rfl) ?_
      refine z_icmp_ge (tgt := 59) hx hb (by omega) (by omega) dX6_runsLeft_52 (by decide) (fun c_52 => ?_) (fun c_52 => ?_)
      · skip
        refine lv_iload_n hx hb dX6_runsLeft_59 rfl (lv_at hl 1 rfl) ?_
        exact g_iret (post := fun z M1 => ((if 1 ≤ a ∧ a ≤ 30 then (0 : Int) else 1) = 0 → z = min (q_nwait R) ((R 2 - R 1) / a)) ∧ q_mq (if 1 ≤ a ∧ a ≤ 30 then (0 : Int) else 1) M M1) (z := (((R 2) - (R 1)) / a)) hx hb hr hG hlocks (⟨fun _ => by omega, by rw [hcd9]; exact (q_mq.rf hM6)⟩) dX6_runsLeft_60
      · skip
        refine lv_iload_n hx hb dX6_runsLeft_55 rfl (lv_at hl 0 rfl) ?_
        refine lv_goto (tgt := 60) hx hb dX6_runsLeft_56 (by decide) ?_
        exact g_iret (post := fun z M1 => ((if 1 ≤ a ∧ a ≤ 30 then (0 : Int) else 1) = 0 → z = min (q_nwait R) ((R 2 - R 1) / a)) ∧ q_mq (if 1 ≤ a ∧ a ≤ 30 then (0 : Int) else 1) M M1) (z := (q_nwait R)) hx hb hr hG hlocks (⟨fun _ => by omega, by rw [hcd9]; exact (q_mq.rf hM6)⟩) dX6_runsLeft_60
    · exfalso; omega
set_option maxHeartbeats 4000000 in
set_option maxRecDepth 100000 in
theorem c_X6_bestPlace (l : Launch) (G : gG) (M : Nat → Nat → Int) (hdm : ∀ k, k < 179 → gdm G k) (R : Nat → Int) (hRM : M 172 = R) (hI : q_inv R) (a : Int) (ha9 : -2147483648 ≤ a ∧ a < 2147483648) : gMi l yX6_bestPlace wsX6_bestPlace ({ frames := 6, cells := 0, slots := 0, locals := 137 } : Room) G M [.ref (gad G 169), .int (iZ a)] (fun z M1 => ((if 0 ≤ a ∧ a < q_nd R then (0 : Int) else 1) = 0 → z = q_bp R a.toNat) ∧ q_mq (if 0 ≤ a ∧ a < q_nd R then (0 : Int) else 1) M M1) := by
  refine gMi_of (cc := cX6_bestPlace) (maxL := 2) (ret := some .int) (by decide) rfl (Nat.le_of_ble_eq_true rfl) ?_
  intro p e s m below meth c ls hx hb hr hml hown hts hlocks hl hG
  have hown : s.vm.findClass RX6 = some m.cls := hown
  have hl : lv_has ls 2 [(0, .ref (gad G 169)), (1, .int (iZ a))] := hl
  have hinX6 : ∀ w ∈ u_ws RX6 TX6 13, w ∈ wsX6_bestPlace := by decide +kernel
  have f16 := hts (.fieldLink RX6 16 "DogTrialsModel" "now" "[I") (by decide +kernel)
  have hnd := hI.1
  refine lv_aload_n hx hb dX6_bestPlace_0 rfl (lv_at hl 0 rfl) ?_
  refine lv_aload_n hx hb dX6_bestPlace_1 rfl (lv_at hl 0 rfl) ?_
  refine g_get hx hb hts hinX6 hown hG (o := 169) (hdm 169 (by decide)) rfl rfl 5 (by decide) f16 (fun _ h => h) rfl dX6_bestPlace_2 ?_
  refine lv_iload_n hx hb dX6_bestPlace_5 rfl (lv_at hl 1 rfl) ?_
  refine g_callS (As := [.ref (gad G 172), .int (iZ a)]) (rest := [.ref (gad G 169)]) ⟨hx, hb, hml, hown, hts⟩ (c_X6_isDog l G M hdm 172 (Or.inr (Or.inl rfl)) (by rw [hRM]; exact hI) a (by omega)) (va_cwS 2 hts gX6_bestPlace_X6_isDog rfl rfl rfl (by decide +kernel) ⟨Nat.le_of_ble_eq_true rfl, Nat.le_of_ble_eq_true rfl⟩) hG rfl hl.1 rfl (Nat.le_of_ble_eq_true rfl) dX6_bestPlace_6 ⟨Nat.zero_le _, Nat.zero_le _⟩ (fun z1 M2 H locs hp_6 hG => ?_)
  rw [hRM] at hp_6
  obtain ⟨hz_6, hM_6⟩ := hp_6; replace hz_6 := hz_6.symm; subst hz_6; replace hM_6 := hM_6.symm; subst hM_6
  refine z_ifP_eq (tgt := 16) hx hb dX6_bestPlace_9 (by decide) (fun c_9 => ?_) (fun c_9 => ?_)
  · skip
    refine lv_iconst (v := iZ 1) hx hb dX6_bestPlace_16 rfl ?_
    refine g_callV (b := 169) (As := [.int (iZ 1)]) (rest := []) ⟨hx, hb, hml, hown, hts⟩ (c_X6_refused l G M hdm 1 (by omega)) (cwV 1 hts gX6_bestPlace_X6_refused rfl rfl rfl (by decide +kernel) ⟨Nat.le_of_ble_eq_true rfl, Nat.le_of_ble_eq_true rfl⟩) hG (g_recv hG (b := 169) (hdm 169 (by decide)) rfl rfl) rfl hl.1 rfl (Nat.le_of_ble_eq_true rfl) dX6_bestPlace_17 ⟨Nat.zero_le _, Nat.zero_le _⟩ (fun z3 M4 H locs hp_17 hG => ?_)
    obtain ⟨hz_17, hM4⟩ := hp_17; rw [if_pos (by decide)] at hz_17; replace hz_17 := hz_17.symm; subst hz_17
    have hpv_M4_172 : M4 172 = R := Eq.trans (by rw [hM4]; exact wr_off _ _ _ (by decide)) hRM
    have hcd9 : (if 0 ≤ a ∧ a < q_nd R then (0 : Int) else 1) = (1 : Int) := by (repeat' split) <;> first | rfl | omega | (exfalso; omega) | contradiction
    refine z_if_eq (tgt := 27) hx hb (by decide) dX6_bestPlace_20 (by decide) (fun c_20 => ?_) (fun c_20 => ?_)
    · exfalso; omega
    · skip
      refine lv_iconst (v := iZ 0) hx hb dX6_bestPlace_23 rfl ?_
      refine lv_goto (tgt := 32) hx hb dX6_bestPlace_24 (by decide) ?_
      exact g_iret (post := fun z M1 => ((if 0 ≤ a ∧ a < q_nd R then (0 : Int) else 1) = 0 → z = q_bp R a.toNat) ∧ q_mq (if 0 ≤ a ∧ a < q_nd R then (0 : Int) else 1) M M1) (z := 0) hx hb hr hG hlocks (⟨fun h9 => absurd h9 (by rw [hcd9]; decide), by rw [hcd9]; exact (q_mq.rf hM4)⟩) dX6_bestPlace_32
  · skip
    refine lv_iconst (v := iZ 0) hx hb dX6_bestPlace_12 rfl ?_
    refine lv_goto (tgt := 17) hx hb dX6_bestPlace_13 (by decide) ?_
    refine g_callV (b := 169) (As := [.int (iZ 0)]) (rest := []) ⟨hx, hb, hml, hown, hts⟩ (c_X6_refused l G M hdm 0 (by omega)) (cwV 1 hts gX6_bestPlace_X6_refused rfl rfl rfl (by decide +kernel) ⟨Nat.le_of_ble_eq_true rfl, Nat.le_of_ble_eq_true rfl⟩) hG (g_recv hG (b := 169) (hdm 169 (by decide)) rfl rfl) rfl hl.1 rfl (Nat.le_of_ble_eq_true rfl) dX6_bestPlace_17 ⟨Nat.zero_le _, Nat.zero_le _⟩ (fun z5 M6 H locs hp_17 hG => ?_)
    obtain ⟨hz_17, hM6⟩ := hp_17; rw [if_neg (by decide)] at hz_17; replace hz_17 := hz_17.symm; subst hz_17
    have hpv_M6_172 : M6 172 = R := Eq.trans (by rw [hM6]; exact wr_off _ _ _ (by decide)) hRM
    have hcd9 : (if 0 ≤ a ∧ a < q_nd R then (0 : Int) else 1) = (0 : Int) := by (repeat' split) <;> first | rfl | omega | (exfalso; omega) | contradiction
    refine z_if_eq (tgt := 27) hx hb (by decide) dX6_bestPlace_20 (by decide) (fun c_20 => ?_) (fun c_20 => ?_)
    · skip
      have hna : a = ((a.toNat : Nat) : Int) := by omega
      refine lv_aload_n hx hb dX6_bestPlace_27 rfl (lv_at hl 0 rfl) ?_
      refine lv_iload_n hx hb dX6_bestPlace_28 rfl (lv_at hl 1 rfl) ?_
      refine g_callV (b := 169) (As := [.int (iZ ((a.toNat) : Int))]) (rest := []) ⟨hx, hb, hml, hown, hts⟩ (c_X6_bestOf l G M6 hdm (by rw [hpv_M6_172]; exact hI) ((a.toNat)) (by rw [hpv_M6_172]; omega)) (cwV 1 hts gX6_bestPlace_X6_bestOf rfl rfl rfl (by decide +kernel) ⟨Nat.le_of_ble_eq_true rfl, Nat.le_of_ble_eq_true rfl⟩) hG (g_recv hG (b := 169) (hdm 169 (by decide)) rfl rfl) rfl hl.1 (by rw [← hna]; rfl) (Nat.le_of_ble_eq_true rfl) dX6_bestPlace_29 ⟨Nat.zero_le _, Nat.zero_le _⟩ (fun z7 M8 H locs hp_29 hG => ?_)
      rw [hpv_M6_172] at hp_29
      obtain ⟨hz_29, ho_M8⟩ := hp_29; replace hz_29 := hz_29.symm; subst hz_29
      have hpv_M8_172 : M8 172 = R := Eq.trans (ho_M8 172 (by decide)) hpv_M6_172
      exact g_iret (post := fun z M1 => ((if 0 ≤ a ∧ a < q_nd R then (0 : Int) else 1) = 0 → z = q_bp R a.toNat) ∧ q_mq (if 0 ≤ a ∧ a < q_nd R then (0 : Int) else 1) M M1) (z := (q_bp R ((a.toNat)))) hx hb hr hG hlocks (⟨fun _ => rfl, by rw [hcd9]; exact (q_mq.best (q_mq.rf hM6) ho_M8)⟩) dX6_bestPlace_32
    · exfalso; omega
set_option maxHeartbeats 4000000 in
set_option maxRecDepth 100000 in
theorem c_X6_contenders (l : Launch) (G : gG) (M : Nat → Nat → Int) (hdm : ∀ k, k < 179 → gdm G k) (R : Nat → Int) (hRM : M 172 = R) (hI : q_inv R) : gMi l yX6_contenders wsX6_contenders ({ frames := 6, cells := 0, slots := 0, locals := 137 } : Room) G M [.ref (gad G 169)] (fun z M1 => z = q_ct (fun i => decide (q_bp R i = 1)) (q_nd R).toNat ∧ q_mq 0 M M1) := by
  refine gMi_of (cc := cX6_contenders) (maxL := 3) (ret := some .int) (by decide) rfl (Nat.le_of_ble_eq_true rfl) ?_
  intro p e s m below meth c ls hx hb hr hml hown hts hlocks hl hG
  have hown : s.vm.findClass RX6 = some m.cls := hown
  have hl : lv_has ls 3 [(0, .ref (gad G 169))] := hl
  have hinX6 : ∀ w ∈ u_ws RX6 TX6 13, w ∈ wsX6_contenders := by decide +kernel
  have f16 := hts (.fieldLink RX6 16 "DogTrialsModel" "now" "[I") (by decide +kernel)
  have f39 := hts (.fieldLink RX6 39 "DogTrialsModel" "refusal" "I") (by decide +kernel)
  have hnd := hI.1
  refine lv_aload_n hx hb dX6_contenders_0 rfl (lv_at hl 0 rfl) ?_
  refine lv_iconst (v := iZ 0) hx hb dX6_contenders_1 rfl ?_
  refine g_put (F := (oR G)) hx hb hts hinX6 tyX6 tyX6_ok nmX6 hown hG (o := 169) (hdm 169 (by decide)) (fun f => rfl) rfl 0 (by decide) f39 (fun _ h => h) rfl rfl (fun _ => Nat.lt_of_lt_of_le (by decide) (Nat.le_refl 13)) (fun _ => rfl) dX6_contenders_2 (fun H locs hG => ?_)
  obtain ⟨M1, hM1⟩ : ∃ X, X = (q_wr M 169 0 0) := ⟨_, rfl⟩
  rw [← hM1] at hG
  have hpv_M1_172 : M1 172 = R := Eq.trans (by rw [hM1, wr_off _ _ _ (by omega)]) hRM
  refine lv_iconst (v := iZ 0) hx hb dX6_contenders_5 rfl ?_
  refine lv_istore_n (lv' := [(1, .int (iZ 0)), (0, .ref (gad G 169))]) hx hb dX6_contenders_6 rfl hl (by decide) rfl (fun ls hl => ?_)
  refine lv_iconst (v := iZ 0) hx hb dX6_contenders_7 rfl ?_
  refine lv_istore_n (lv' := [(2, .int (iZ 0)), (1, .int (iZ 0)), (0, .ref (gad G 169))]) hx hb dX6_contenders_8 rfl hl (by decide) rfl (fun ls hl => ?_)
  have L_9 : ∀ (n_9 : Nat) (k : Nat) (x_i : Int) (x_c : Int) (Mk : Nat → Nat → Int), (x_i = (k : Int)) → (x_c = (q_ct (fun i => decide (q_bp R i = 1)) k)) → ((k : Int) ≤ q_nd R) → (q_mq 0 M Mk) → 12 - k < n_9 → ∀ (H : Heap) (locs : List Loc) (ls : Array Slot), gH G Mk s H locs → lv_has ls 3 [(2, .int (iZ x_i)), (1, .int (iZ x_c)), (0, .ref (gad G 169))] → W p l e ({ frames := 6, cells := 0, slots := 0, locals := 137 } : Room) s m [.ref (gad G 169)].toArray below meth c H locs 0 0 (MQ below (va_Qi (fun r (u : Int × (Nat → Nat → Int)) => r = iZ u.1 ∧ (fun z M1 => z = q_ct (fun i => decide (q_bp R i = 1)) (q_nd R).toNat ∧ q_mq 0 M M1) u.1 u.2) (fun u U => gB G u.2 U) (gA G)) [.ref (gad G 169)].toArray s 0 0 (gA G)) (F0 m 9 ls []) := by
    intro n_9
    induction n_9 with
    | zero => intro k x_i x_c Mk he_x_i he_x_c hk hmqk hm_9; exact absurd hm_9 (Nat.not_lt_zero _)
    | succ n_9 ih_9 =>
      intro k x_i x_c Mk he_x_i he_x_c hk hmqk hm_9 H locs ls hG hl
      subst he_x_i
      subst he_x_c
      have hck := ct_in (fun i => decide (q_bp R i = 1)) k
      have hRk : Mk 172 = R := (q_mq.r172 hmqk).trans hRM
      refine lv_iload_n hx hb dX6_contenders_9 rfl (lv_at hl 0 rfl) ?_
      refine lv_aload_n hx hb dX6_contenders_10 rfl (lv_at hl 2 rfl) ?_
      refine g_get hx hb hts hinX6 hown hG (o := 169) (hdm 169 (by decide)) rfl rfl 5 (by decide) f16 (fun _ h => h) rfl dX6_contenders_11 ?_
      refine lv_bipush (v := iZ (7)) hx hb dX6_contenders_14 (by decide) ?_
      refine g_iald (z := (q_nd R)) (j := 7) hx hb hG (o := 172) (hdm 172 (by decide)) rfl (by omega) (by omega) (by omega) (by rw [hRk] <;> rfl) dX6_contenders_16 ?_
      refine z_icmp_ge (tgt := 43) hx hb (by omega) (by omega) dX6_contenders_17 (by decide) (fun c_17 => ?_) (fun c_17 => ?_)
      · skip
        refine lv_iload_n hx hb dX6_contenders_43 rfl (lv_at hl 1 rfl) ?_
        exact g_iret (post := fun z M1 => z = q_ct (fun i => decide (q_bp R i = 1)) (q_nd R).toNat ∧ q_mq 0 M M1) (z := (q_ct (fun i => decide (q_bp R i = 1)) k)) hx hb hr hG hlocks (⟨by rw [show (q_nd R).toNat = k by omega], hmqk⟩) dX6_contenders_44
      · skip
        refine lv_iload_n hx hb dX6_contenders_20 rfl (lv_at hl 1 rfl) ?_
        refine lv_aload_n hx hb dX6_contenders_21 rfl (lv_at hl 2 rfl) ?_
        refine lv_iload_n hx hb dX6_contenders_22 rfl (lv_at hl 0 rfl) ?_
        refine g_callV (b := 169) (As := [.int (iZ (k : Int))]) (rest := [.int (iZ (q_ct (fun i => decide (q_bp R i = 1)) k))]) ⟨hx, hb, hml, hown, hts⟩ (c_X6_bestOf l G Mk hdm (by rw [hRk]; exact hI) k (by rw [hRk]; omega)) (cwV 1 hts gX6_contenders_X6_bestOf rfl rfl rfl (by decide +kernel) ⟨Nat.le_of_ble_eq_true rfl, Nat.le_of_ble_eq_true rfl⟩) hG (g_recv hG (b := 169) (hdm 169 (by decide)) rfl rfl) rfl hl.1 rfl (Nat.le_of_ble_eq_true rfl) dX6_contenders_23 ⟨Nat.zero_le _, Nat.zero_le _⟩ (fun z2 M3 H locs hp_23 hG => ?_)
        rw [hRk] at hp_23
        obtain ⟨hz_23, ho_M3⟩ := hp_23; replace hz_23 := hz_23.symm; subst hz_23
        have hpv_M3_172 : M3 172 = R := Eq.trans (ho_M3 172 (by decide)) hRk
        have hbp9 : -9 ≤ q_bp R k ∧ q_bp R k ≤ 13 := q_bp_in hI (by omega)
        refine lv_iconst (v := iZ 1) hx hb dX6_contenders_26 rfl ?_
        refine z_icmp_ne (tgt := 34) hx hb (by omega) (by decide) dX6_contenders_27 (by decide) (fun c_27 => ?_) (fun c_27 => ?_)
        · skip
          refine lv_iconst (v := iZ 0) hx hb dX6_contenders_34 rfl ?_
          refine z_iadd (z := (q_ct (fun i => decide (q_bp R i = 1)) k)) hx hb (by omega) dX6_contenders_35 ?_
          refine lv_istore_n (lv' := [(1, .int (iZ (q_ct (fun i => decide (q_bp R i = 1)) k))), (2, .int (iZ (k : Int))), (0, .ref (gad G 169))]) hx hb dX6_contenders_36 rfl hl (by decide) rfl (fun ls hl => ?_)
          refine z_iinc (z := ((k : Int) + 1)) (lv' := [(2, .int (iZ ((k : Int) + 1))), (1, .int (iZ (q_ct (fun i => decide (q_bp R i = 1)) k))), (0, .ref (gad G 169))]) hx hb dX6_contenders_37 hl (k := 1) rfl (by omega) (by decide) rfl (fun ls hl => ?_)
          refine lv_goto (tgt := 9) hx hb dX6_contenders_40 (by decide) ?_
          exact ih_9 (k + 1) ((k : Int) + 1) (q_ct (fun i => decide (q_bp R i = 1)) k) M3 (by omega) (by rw [q_ct]; first | (rw [if_pos (by first | assumption | exact decide_eq_true (by omega) | (simp_all; done))] <;> omega) | (rw [if_neg (by first | assumption | (intro h9; have h8 := of_decide_eq_true h9; omega) | (simp_all; done))] <;> omega)) (by omega) (q_mq.best hmqk ho_M3) (by omega) _ _ _ hG (lv_sub hl [0, 1, 2] rfl)
        · skip
          refine lv_iconst (v := iZ 1) hx hb dX6_contenders_30 rfl ?_
          refine lv_goto (tgt := 35) hx hb dX6_contenders_31 (by decide) ?_
          refine z_iadd (z := ((q_ct (fun i => decide (q_bp R i = 1)) k) + 1)) hx hb (by omega) dX6_contenders_35 ?_
          refine lv_istore_n (lv' := [(1, .int (iZ ((q_ct (fun i => decide (q_bp R i = 1)) k) + 1))), (2, .int (iZ (k : Int))), (0, .ref (gad G 169))]) hx hb dX6_contenders_36 rfl hl (by decide) rfl (fun ls hl => ?_)
          refine z_iinc (z := ((k : Int) + 1)) (lv' := [(2, .int (iZ ((k : Int) + 1))), (1, .int (iZ ((q_ct (fun i => decide (q_bp R i = 1)) k) + 1))), (0, .ref (gad G 169))]) hx hb dX6_contenders_37 hl (k := 1) rfl (by omega) (by decide) rfl (fun ls hl => ?_)
          refine lv_goto (tgt := 9) hx hb dX6_contenders_40 (by decide) ?_
          exact ih_9 (k + 1) ((k : Int) + 1) ((q_ct (fun i => decide (q_bp R i = 1)) k) + 1) M3 (by omega) (by rw [q_ct]; first | (rw [if_pos (by first | assumption | exact decide_eq_true (by omega) | (simp_all; done))] <;> omega) | (rw [if_neg (by first | assumption | (intro h9; have h8 := of_decide_eq_true h9; omega) | (simp_all; done))] <;> omega)) (by omega) (q_mq.best hmqk ho_M3) (by omega) _ _ _ hG (lv_sub hl [0, 1, 2] rfl)
  exact L_9 _ 0 0 0 M1 rfl rfl (by omega) (q_mq.rf hM1) (Nat.lt_succ_self _) _ _ _ hG (lv_sub hl [0, 1, 2] rfl)
set_option maxHeartbeats 4000000 in
set_option maxRecDepth 100000 in
theorem c_X6_thrown (l : Launch) (G : gG) (M : Nat → Nat → Int) (hdm : ∀ k, k < 179 → gdm G k) : gMi l yX6_thrown wsX6_thrown ({ frames := 0, cells := 0, slots := 0, locals := 0 } : Room) G M [.ref (gad G 169)] (fun z M1 => z = M 169 0 ∧ M1 = M) := by
  refine gMi_of (cc := cX6_thrown) (maxL := 1) (ret := some .int) (by decide) rfl (Nat.le_of_ble_eq_true rfl) ?_
  intro p e s m below meth c ls hx hb hr hml hown hts hlocks hl hG
  have hown : s.vm.findClass RX6 = some m.cls := hown
  have hl : lv_has ls 1 [(0, .ref (gad G 169))] := hl
  have hinX6 : ∀ w ∈ u_ws RX6 TX6 13, w ∈ wsX6_thrown := by decide +kernel
  have f39 := hts (.fieldLink RX6 39 "DogTrialsModel" "refusal" "I") (by decide +kernel)
  refine lv_aload_n hx hb dX6_thrown_0 rfl (lv_at hl 0 rfl) ?_
  refine g_geti (z := (M 169 0)) hx hb hts hinX6 hown hG (o := 169) (hdm 169 (by decide)) rfl rfl 0 (by decide) f39 (fun _ h => h) rfl rfl dX6_thrown_1 ?_
  exact g_iret (post := fun z M1 => z = M 169 0 ∧ M1 = M) (z := (M 169 0)) hx hb hr hG hlocks (⟨by first | rfl | omega, rfl⟩) dX6_thrown_4
