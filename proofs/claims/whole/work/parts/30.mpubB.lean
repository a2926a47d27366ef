set_option maxHeartbeats 4000000 in
set_option maxRecDepth 100000 in
theorem c_X6_load (l : Launch) (G : gG) (M : Nat → Nat → Int) (hdm : ∀ k, k < 179 → gdm G k) (T : Nat → Int) (n : Nat) (hn : n ≤ 70) (hTx : M 170 = T) (h1 : M 169 2 = (n : Int)) (hch : ∀ j, j < n → 0 ≤ T j ∧ T j ≤ 255) : gMi l yX6_load wsX6_load ({ frames := 6, cells := 0, slots := 0, locals := 131 } : Room) G M [.ref (gad G 169)] (fun z M1 => ((if q_err T n = -9 then (0 : Int) else 1) = 0 → z = q_nd (q_rdt T n).2.2 ∧ q_mld M M1 ∧ M1 172 = (q_rdt T n).2.2) ∧ ((if q_err T n = -9 then (0 : Int) else 1) ≠ 0 → q_ms M M1) ∧ M1 169 0 = (if q_err T n = -9 then (0 : Int) else 1)) := by
  refine gMi_of (cc := cX6_load) (maxL := 1) (ret := some .int) (by decide) rfl (Nat.le_of_ble_eq_true rfl) ?_
  intro p e s m below meth c ls hx hb hr hml hown hts hlocks hl hG
  have hown : s.vm.findClass RX6 = some m.cls := hown
  have hl : lv_has ls 1 [(0, .ref (gad G 169))] := hl
  have hinX6 : ∀ w ∈ u_ws RX6 TX6 13, w ∈ wsX6_load := by decide +kernel
  have f13 := hts (.fieldLink RX6 13 "DogTrialsModel" "read" "[I") (by decide +kernel)
  have f16 := hts (.fieldLink RX6 16 "DogTrialsModel" "now" "[I") (by decide +kernel)
  have f28 := hts (.fieldLink RX6 28 "DogTrialsModel" "isKept" "[Z") (by decide +kernel)
  have f149 := hts (.fieldLink RX6 149 "DogTrialsModel" "acts" "I") (by decide +kernel)
  have hsz9 := q_rdt_in T n
  refine lv_aload_n hx hb dX6_load_0 rfl (lv_at hl 0 rfl) ?_
  refine lv_aload_n hx hb dX6_load_1 rfl (lv_at hl 0 rfl) ?_
  refine g_callV (b := 169) (As := []) (rest := [.ref (gad G 169)]) ⟨hx, hb, hml, hown, hts⟩ (c_X6_readAll l G M hdm T n hn hTx h1 hch) (cwV 0 hts gX6_load_X6_readAll rfl rfl rfl (by decide +kernel) ⟨Nat.le_of_ble_eq_true rfl, Nat.le_of_ble_eq_true rfl⟩) hG (g_recv hG (b := 169) (hdm 169 (by decide)) rfl rfl) rfl hl.1 rfl (Nat.le_of_ble_eq_true rfl) dX6_load_2 ⟨Nat.zero_le _, Nat.zero_le _⟩ (fun z1 M2 H locs hp_2 hG => ?_)
  obtain ⟨hz_2, h2_M2, hfm_M2, hpg_M2⟩ := hp_2; replace hz_2 := hz_2.symm; subst hz_2
  refine z_ifP_eq (tgt := 12) hx hb dX6_load_5 (by decide) (fun c_5 => ?_) (fun c_5 => ?_)
  · skip
    refine lv_iconst (v := iZ 1) hx hb dX6_load_12 rfl ?_
    refine g_callV (b := 169) (As := [.int (iZ 1)]) (rest := []) ⟨hx, hb, hml, hown, hts⟩ (c_X6_refused l G M2 hdm 1 (by omega)) (cwV 1 hts gX6_load_X6_refused rfl rfl rfl (by decide +kernel) ⟨Nat.le_of_ble_eq_true rfl, Nat.le_of_ble_eq_true rfl⟩) hG (g_recv hG (b := 169) (hdm 169 (by decide)) rfl rfl) rfl hl.1 rfl (Nat.le_of_ble_eq_true rfl) dX6_load_13 ⟨Nat.zero_le _, Nat.zero_le _⟩ (fun z3 M4 H locs hp_13 hG => ?_)
    obtain ⟨hz_13, hM4⟩ := hp_13; rw [if_pos (by decide)] at hz_13; replace hz_13 := hz_13.symm; subst hz_13
    have hcd9 : (if q_err T n = -9 then (0 : Int) else 1) = (1 : Int) := if_neg (by unfold q_err; rw [if_neg (by assumption)]; omega)
    refine z_if_eq (tgt := 21) hx hb (by decide) dX6_load_16 (by decide) (fun c_16 => ?_) (fun c_16 => ?_)
    · exfalso; omega
    · skip
      refine lv_iconst (v := iZ 0) hx hb dX6_load_19 rfl ?_
      exact g_iret (post := fun z M1 => ((if q_err T n = -9 then (0 : Int) else 1) = 0 → z = q_nd (q_rdt T n).2.2 ∧ q_mld M M1 ∧ M1 172 = (q_rdt T n).2.2) ∧ ((if q_err T n = -9 then (0 : Int) else 1) ≠ 0 → q_ms M M1) ∧ M1 169 0 = (if q_err T n = -9 then (0 : Int) else 1)) (z := 0) hx hb hr hG hlocks (⟨fun h9 => absurd h9 (by rw [hcd9]; decide), fun _ => (q_mq.fr hfm_M2 hM4).2, by rw [hcd9]; exact (q_mq.fr hfm_M2 hM4).1⟩) dX6_load_20
  · skip
    refine lv_iconst (v := iZ 0) hx hb dX6_load_8 rfl ?_
    refine lv_goto (tgt := 13) hx hb dX6_load_9 (by decide) ?_
    refine g_callV (b := 169) (As := [.int (iZ 0)]) (rest := []) ⟨hx, hb, hml, hown, hts⟩ (c_X6_refused l G M2 hdm 0 (by omega)) (cwV 1 hts gX6_load_X6_refused rfl rfl rfl (by decide +kernel) ⟨Nat.le_of_ble_eq_true rfl, Nat.le_of_ble_eq_true rfl⟩) hG (g_recv hG (b := 169) (hdm 169 (by decide)) rfl rfl) rfl hl.1 rfl (Nat.le_of_ble_eq_true rfl) dX6_load_13 ⟨Nat.zero_le _, Nat.zero_le _⟩ (fun z5 M6 H locs hp_13 hG => ?_)
    obtain ⟨hz_13, hM6⟩ := hp_13; rw [if_neg (by decide)] at hz_13; replace hz_13 := hz_13.symm; subst hz_13
    have hcd9 : (if q_err T n = -9 then (0 : Int) else 1) = (0 : Int) := if_pos (by unfold q_err; exact if_pos (by assumption))
    refine z_if_eq (tgt := 21) hx hb (by decide) dX6_load_16 (by decide) (fun c_16 => ?_) (fun c_16 => ?_)
    · skip
      have hp171 : M6 171 = (q_rdt T n).2.2 := by rw [hM6, wr_off _ _ _ (by decide)]; exact hpg_M2 (by first | exact (c_5).1 | exact (Classical.not_not.mp c_5).1)
      refine lv_aload_n hx hb dX6_load_21 rfl (lv_at hl 0 rfl) ?_
      refine g_get hx hb hts hinX6 hown hG (o := 169) (hdm 169 (by decide)) rfl rfl 4 (by decide) f13 (fun _ h => h) rfl dX6_load_22 ?_
      refine lv_iconst (v := iZ 0) hx hb dX6_load_25 rfl ?_
      refine lv_aload_n hx hb dX6_load_26 rfl (lv_at hl 0 rfl) ?_
      refine g_get hx hb hts hinX6 hown hG (o := 169) (hdm 169 (by decide)) rfl rfl 5 (by decide) f16 (fun _ h => h) rfl dX6_load_27 ?_
      refine lv_iconst (v := iZ 0) hx hb dX6_load_30 rfl ?_
      refine g_vcallS (As := [.ref (gad G 171), .int (iZ 0), .ref (gad G 172), .int (iZ 0)]) (rest := []) ⟨hx, hb, hml, hown, hts⟩ (c_copyTo l G M6 hdm 171 146 0 172 (by decide) (fun f => rfl) (by omega) (by decide) (Or.inr (Or.inl rfl)) (by decide)) (va_cwS 4 hts gX6_load_X6_copyPage rfl rfl rfl (by decide +kernel) ⟨Nat.le_of_ble_eq_true rfl, Nat.le_of_ble_eq_true rfl⟩) hG rfl hl.1 rfl (Nat.le_of_ble_eq_true rfl) dX6_load_31 ⟨Nat.zero_le _, Nat.zero_le _⟩ (fun M8 H locs hp_31 hG => ?_)
      rw [hp171] at hp_31
      replace hp_31 : M8 = q_set M6 172 (q_rdt T n).2.2 := by rw [hp_31]; congr 1; funext k9; rw [Nat.zero_add]
      have hpv_M8_172 : M8 172 = (q_rdt T n).2.2 := by rw [hp_31, q_set_at]
      have hpv_M8_171 : M8 171 = (q_rdt T n).2.2 := Eq.trans (by rw [hp_31]; exact q_set_off _ _ (by decide)) hp171
      refine lv_aload_n hx hb dX6_load_34 rfl (lv_at hl 0 rfl) ?_
      refine lv_iconst (v := iZ 0) hx hb dX6_load_35 rfl ?_
      refine g_put (F := (oR G)) hx hb hts hinX6 tyX6 tyX6_ok nmX6 hown hG (o := 169) (hdm 169 (by decide)) (fun f => rfl) rfl 8 (by decide) f149 (fun _ h => h) rfl rfl (fun _ => Nat.lt_of_lt_of_le (by decide) (Nat.le_refl 13)) (fun _ => rfl) dX6_load_36 (fun H locs hG => ?_)
      obtain ⟨M9, hM9⟩ : ∃ X, X = (q_wr M8 169 8 0) := ⟨_, rfl⟩
      rw [← hM9] at hG
      have hpv_M9_172 : M9 172 = (q_rdt T n).2.2 := Eq.trans (by rw [hM9, wr_off _ _ _ (by omega)]) hpv_M8_172
      have hpv_M9_171 : M9 171 = (q_rdt T n).2.2 := Eq.trans (by rw [hM9, wr_off _ _ _ (by omega)]) hpv_M8_171
      refine lv_aload_n hx hb dX6_load_39 rfl (lv_at hl 0 rfl) ?_
      refine g_get hx hb hts hinX6 hown hG (o := 169) (hdm 169 (by decide)) rfl rfl 10 (by decide) f28 (fun _ h => h) rfl dX6_load_40 ?_
      refine lv_iconst (v := iZ 0) hx hb dX6_load_43 rfl ?_
      refine lv_iconst (v := iZ 0) hx hb dX6_load_44 rfl ?_
      refine g_zast (j := 0) hx hb hG (o := 176) (hdm 176 (by decide)) (fun f => rfl) (by omega) (by omega) (by omega) (by omega) dX6_load_45 (fun H locs hG => ?_)
      obtain ⟨M10, hM10⟩ : ∃ X, X = (q_wr M9 176 0 0) := ⟨_, rfl⟩
      rw [← hM10] at hG
      have hpv_M10_172 : M10 172 = (q_rdt T n).2.2 := Eq.trans (by rw [hM10, wr_off _ _ _ (by omega)]) hpv_M9_172
      have hpv_M10_171 : M10 171 = (q_rdt T n).2.2 := Eq.trans (by rw [hM10, wr_off _ _ _ (by omega)]) hpv_M9_171
      refine lv_aload_n hx hb dX6_load_46 rfl (lv_at hl 0 rfl) ?_
      refine g_get hx hb hts hinX6 hown hG (o := 169) (hdm 169 (by decide)) rfl rfl 10 (by decide) f28 (fun _ h => h) rfl dX6_load_47 ?_
      refine lv_iconst (v := iZ 1) hx hb dX6_load_50 rfl ?_
      refine lv_iconst (v := iZ 0) hx hb dX6_load_51 rfl ?_
      refine g_zast (j := 1) hx hb hG (o := 176) (hdm 176 (by decide)) (fun f => rfl) (by omega) (by omega) (by omega) (by omega) dX6_load_52 (fun H locs hG => ?_)
      obtain ⟨M11, hM11⟩ : ∃ X, X = (q_wr M10 176 1 0) := ⟨_, rfl⟩
      rw [← hM11] at hG
      have hpv_M11_172 : M11 172 = (q_rdt T n).2.2 := Eq.trans (by rw [hM11, wr_off _ _ _ (by omega)]) hpv_M10_172
      have hpv_M11_171 : M11 171 = (q_rdt T n).2.2 := Eq.trans (by rw [hM11, wr_off _ _ _ (by omega)]) hpv_M10_171
      refine lv_aload_n hx hb dX6_load_53 rfl (lv_at hl 0 rfl) ?_
      refine g_get hx hb hts hinX6 hown hG (o := 169) (hdm 169 (by decide)) rfl rfl 5 (by decide) f16 (fun _ h => h) rfl dX6_load_54 ?_
      refine lv_bipush (v := iZ (7)) hx hb dX6_load_57 (by decide) ?_
      refine g_iald (z := (q_nd (q_rdt T n).2.2)) (j := 7) hx hb hG (o := 172) (hdm 172 (by decide)) rfl (by omega) (by omega) (by omega) (by rw [hpv_M11_172] <;> rfl) dX6_load_59 ?_
      have hml9 := q_mld.mk (q_mq.fr hfm_M2 hM6) hp_31 (show M11 = _ by rw [hM11, hM10, hM9])
      exact g_iret (post := fun z M1 => ((if q_err T n = -9 then (0 : Int) else 1) = 0 → z = q_nd (q_rdt T n).2.2 ∧ q_mld M M1 ∧ M1 172 = (q_rdt T n).2.2) ∧ ((if q_err T n = -9 then (0 : Int) else 1) ≠ 0 → q_ms M M1) ∧ M1 169 0 = (if q_err T n = -9 then (0 : Int) else 1)) (z := (q_nd (q_rdt T n).2.2)) hx hb hr hG hlocks (⟨fun _ => ⟨rfl, hml9.1⟩, fun h9 => absurd hcd9 h9, by rw [hcd9]; exact hml9.2⟩) dX6_load_60
    · exfalso; omega
set_option maxHeartbeats 4000000 in
set_option maxRecDepth 100000 in
theorem c_X6_enter (l : Launch) (G : gG) (M : Nat → Nat → Int) (hdm : ∀ k, k < 179 → gdm G k) (R : Nat → Int) (hRM : M 172 = R) (hI : q_inv R) (n : Nat) (hn : n ≤ 14) (hn8 : M 169 8 = (n : Int)) (a : Int) (ha9 : -2147483648 ≤ a ∧ a < 2147483648) (b : Int) (hb9 : -2147483648 ≤ b ∧ b < 2147483648) : gMi l yX6_enter wsX6_enter ({ frames := 2, cells := 0, slots := 0, locals := 45 } : Room) G M [.ref (gad G 169), .int (iZ a), .int (iZ b)] (fun z M1 => ((if ¬ (0 ≤ a ∧ a ≤ 5 ∧ 1 ≤ b ∧ b ≤ 99) then (1 : Int) else if 12 ≤ q_nd R ∨ q_dn R b (-9) (q_nd R).toNat = true then 2 else 0) = 0 → z = q_nd R ∧ q_mz 0 n M M1 ∧ M1 172 = (q_ent R (q_nd R).toNat a b)) ∧ ((if ¬ (0 ≤ a ∧ a ≤ 5 ∧ 1 ≤ b ∧ b ≤ 99) then (1 : Int) else if 12 ≤ q_nd R ∨ q_dn R b (-9) (q_nd R).toNat = true then 2 else 0) ≠ 0 → q_ms M M1) ∧ M1 169 0 = (if ¬ (0 ≤ a ∧ a ≤ 5 ∧ 1 ≤ b ∧ b ≤ 99) then (1 : Int) else if 12 ≤ q_nd R ∨ q_dn R b (-9) (q_nd R).toNat = true then 2 else 0)) := by
  refine gMi_of (cc := cX6_enter) (maxL := 4) (ret := some .int) (by decide) rfl (Nat.le_of_ble_eq_true rfl) ?_
  intro p e s m below meth c ls hx hb hr hml hown hts hlocks hl hG
  have hown : s.vm.findClass RX6 = some m.cls := hown
  have hl : lv_has ls 4 [(0, .ref (gad G 169)), (1, .int (iZ a)), (2, .int (iZ b))] := hl
  have hinX6 : ∀ w ∈ u_ws RX6 TX6 13, w ∈ wsX6_enter := by decide +kernel
  have f16 := hts (.fieldLink RX6 16 "DogTrialsModel" "now" "[I") (by decide +kernel)
  have hnd := hI.1
  refine lv_iload_n hx hb dX6_enter_0 rfl (lv_at hl 1 rfl) ?_
  refine z_i2l hx hb (by omega) dX6_enter_1 ?_
  refine lv_lconst (v := lZ 0) hx hb dX6_enter_2 rfl ?_
  refine lv_ldc2 (v := lZ 5) hx hb hown (by rw [show lZ 5 = (5 : Int64) from by decide]; exact hts (.constantLong RX6 55 5) (by decide +kernel)) dX6_enter_3 ?_
  refine g_callS (As := [.long (lZ a), .long (lZ 0), .long (lZ 5)]) (rest := []) ⟨hx, hb, hml, hown, hts⟩ (c_X6_in l G M a 0 5 (by omega) (by omega) (by omega)) (va_cwS 3 hts gX6_enter_X6_in rfl rfl rfl (by decide +kernel) ⟨Nat.le_of_ble_eq_true rfl, Nat.le_of_ble_eq_true rfl⟩) hG rfl hl.1 rfl (Nat.le_of_ble_eq_true rfl) dX6_enter_6 ⟨Nat.zero_le _, Nat.zero_le _⟩ (fun z1 M2 H locs hp_6 hG => ?_)
  obtain ⟨hz_6, hM_6⟩ := hp_6; replace hz_6 := hz_6.symm; subst hz_6; replace hM_6 := hM_6.symm; subst hM_6
  refine z_ifP_eq (tgt := 28) hx hb dX6_enter_9 (by decide) (fun c_9 => ?_) (fun c_9 => ?_)
  · skip
    refine lv_iconst (v := iZ 0) hx hb dX6_enter_28 rfl ?_
    refine lv_istore_n (lv' := [(3, .int (iZ 0)), (0, .ref (gad G 169)), (1, .int (iZ a)), (2, .int (iZ b))]) hx hb dX6_enter_29 rfl hl (by decide) rfl (fun ls hl => ?_)
    refine lv_aload_n hx hb dX6_enter_30 rfl (lv_at hl 1 rfl) ?_
    refine lv_iload_n hx hb dX6_enter_31 rfl (lv_at hl 0 rfl) ?_
    refine z_if_ne (tgt := 39) hx hb (by decide) dX6_enter_32 (by decide) (fun c_32 => ?_) (fun c_32 => ?_)
    · exfalso; omega
    · skip
      refine lv_iconst (v := iZ 1) hx hb dX6_enter_35 rfl ?_
      refine lv_goto (tgt := 69) hx hb dX6_enter_36 (by decide) ?_
      refine g_callV (b := 169) (As := [.int (iZ 1)]) (rest := []) ⟨hx, hb, hml, hown, hts⟩ (c_X6_refused l G M hdm 1 (by omega)) (cwV 1 hts gX6_enter_X6_refused rfl rfl rfl (by decide +kernel) ⟨Nat.le_of_ble_eq_true rfl, Nat.le_of_ble_eq_true rfl⟩) hG (g_recv hG (b := 169) (hdm 169 (by decide)) rfl rfl) rfl hl.1 rfl (Nat.le_of_ble_eq_true rfl) dX6_enter_69 ⟨Nat.zero_le _, Nat.zero_le _⟩ (fun z3 M4 H locs hp_69 hG => ?_)
      obtain ⟨hz_69, hM4⟩ := hp_69; rw [if_pos (by decide)] at hz_69; replace hz_69 := hz_69.symm; subst hz_69
      have hpv_M4_172 : M4 172 = R := Eq.trans (by rw [hM4]; exact wr_off _ _ _ (by decide)) hRM
      have hcd9 : (if ¬ (0 ≤ a ∧ a ≤ 5 ∧ 1 ≤ b ∧ b ≤ 99) then (1 : Int) else if 12 ≤ q_nd R ∨ q_dn R b (-9) (q_nd R).toNat = true then 2 else 0) = (1 : Int) := if_pos (by omega)
      refine z_if_eq (tgt := 77) hx hb (by decide) dX6_enter_72 (by decide) (fun c_72 => ?_) (fun c_72 => ?_)
      · exfalso; omega
      · skip
        refine lv_iconst (v := iZ 0) hx hb dX6_enter_75 rfl ?_
        exact g_iret (post := fun z M1 => ((if ¬ (0 ≤ a ∧ a ≤ 5 ∧ 1 ≤ b ∧ b ≤ 99) then (1 : Int) else if 12 ≤ q_nd R ∨ q_dn R b (-9) (q_nd R).toNat = true then 2 else 0) = 0 → z = q_nd R ∧ q_mz 0 n M M1 ∧ M1 172 = (q_ent R (q_nd R).toNat a b)) ∧ ((if ¬ (0 ≤ a ∧ a ≤ 5 ∧ 1 ≤ b ∧ b ≤ 99) then (1 : Int) else if 12 ≤ q_nd R ∨ q_dn R b (-9) (q_nd R).toNat = true then 2 else 0) ≠ 0 → q_ms M M1) ∧ M1 169 0 = (if ¬ (0 ≤ a ∧ a ≤ 5 ∧ 1 ≤ b ∧ b ≤ 99) then (1 : Int) else if 12 ≤ q_nd R ∨ q_dn R b (-9) (q_nd R).toNat = true then 2 else 0)) (z := 0) hx hb hr hG hlocks (⟨fun h9 => absurd h9 (by rw [hcd9]; decide), fun _ => (q_mq.rf hM4).2, by rw [hcd9]; exact (q_mq.rf hM4).1⟩) dX6_enter_76
  · skip
    refine lv_iload_n hx hb dX6_enter_12 rfl (lv_at hl 2 rfl) ?_
    refine z_i2l hx hb (by omega) dX6_enter_13 ?_
    refine lv_lconst (v := lZ 1) hx hb dX6_enter_14 rfl ?_
    refine lv_ldc2 (v := lZ 99) hx hb hown (by rw [show lZ 99 = (99 : Int64) from by decide]; exact hts (.constantLong RX6 114 99) (by decide +kernel)) dX6_enter_15 ?_
    refine g_callS (As := [.long (lZ b), .long (lZ 1), .long (lZ 99)]) (rest := []) ⟨hx, hb, hml, hown, hts⟩ (c_X6_in l G M b 1 99 (by omega) (by omega) (by omega)) (va_cwS 3 hts gX6_enter_X6_in rfl rfl rfl (by decide +kernel) ⟨Nat.le_of_ble_eq_true rfl, Nat.le_of_ble_eq_true rfl⟩) hG rfl hl.1 rfl (Nat.le_of_ble_eq_true rfl) dX6_enter_18 ⟨Nat.zero_le _, Nat.zero_le _⟩ (fun z5 M6 H locs hp_18 hG => ?_)
    obtain ⟨hz_18, hM_18⟩ := hp_18; replace hz_18 := hz_18.symm; subst hz_18; replace hM_18 := hM_18.symm; subst hM_18
    refine z_ifP_eq (tgt := 28) hx hb dX6_enter_21 (by decide) (fun c_21 => ?_) (fun c_21 => ?_)
    · skip
      refine lv_iconst (v := iZ 0) hx hb dX6_enter_28 rfl ?_
      refine lv_istore_n (lv' := [(3, .int (iZ 0)), (0, .ref (gad G 169)), (1, .int (iZ a)), (2, .int (iZ b))]) hx hb dX6_enter_29 rfl hl (by decide) rfl (fun ls hl => ?_)
      refine lv_aload_n hx hb dX6_enter_30 rfl (lv_at hl 1 rfl) ?_
      refine lv_iload_n hx hb dX6_enter_31 rfl (lv_at hl 0 rfl) ?_
      refine z_if_ne (tgt := 39) hx hb (by decide) dX6_enter_32 (by decide) (fun c_32 => ?_) (fun c_32 => ?_)
      · exfalso; omega
      · skip
        refine lv_iconst (v := iZ 1) hx hb dX6_enter_35 rfl ?_
        refine lv_goto (tgt := 69) hx hb dX6_enter_36 (by decide) ?_
        refine g_callV (b := 169) (As := [.int (iZ 1)]) (rest := []) ⟨hx, hb, hml, hown, hts⟩ (c_X6_refused l G M hdm 1 (by omega)) (cwV 1 hts gX6_enter_X6_refused rfl rfl rfl (by decide +kernel) ⟨Nat.le_of_ble_eq_true rfl, Nat.le_of_ble_eq_true rfl⟩) hG (g_recv hG (b := 169) (hdm 169 (by decide)) rfl rfl) rfl hl.1 rfl (Nat.le_of_ble_eq_true rfl) dX6_enter_69 ⟨Nat.zero_le _, Nat.zero_le _⟩ (fun z7 M8 H locs hp_69 hG => ?_)
        obtain ⟨hz_69, hM8⟩ := hp_69; rw [if_pos (by decide)] at hz_69; replace hz_69 := hz_69.symm; subst hz_69
        have hpv_M8_172 : M8 172 = R := Eq.trans (by rw [hM8]; exact wr_off _ _ _ (by decide)) hRM
        have hcd9 : (if ¬ (0 ≤ a ∧ a ≤ 5 ∧ 1 ≤ b ∧ b ≤ 99) then (1 : Int) else if 12 ≤ q_nd R ∨ q_dn R b (-9) (q_nd R).toNat = true then 2 else 0) = (1 : Int) := if_pos (by omega)
        refine z_if_eq (tgt := 77) hx hb (by decide) dX6_enter_72 (by decide) (fun c_72 => ?_) (fun c_72 => ?_)
        · exfalso; omega
        · skip
          refine lv_iconst (v := iZ 0) hx hb dX6_enter_75 rfl ?_
          exact g_iret (post := fun z M1 => ((if ¬ (0 ≤ a ∧ a ≤ 5 ∧ 1 ≤ b ∧ b ≤ 99) then (1 : Int) else if 12 ≤ q_nd R ∨ q_dn R b (-9) (q_nd R).toNat = true then 2 else 0) = 0 → z = q_nd R ∧ q_mz 0 n M M1 ∧ M1 172 = (q_ent R (q_nd R).toNat a b)) ∧ ((if ¬ (0 ≤ a ∧ a ≤ 5 ∧ 1 ≤ b ∧ b ≤ 99) then (1 : Int) else if 12 ≤ q_nd R ∨ q_dn R b (-9) (q_nd R).toNat = true then 2 else 0) ≠ 0 → q_ms M M1) ∧ M1 169 0 = (if ¬ (0 ≤ a ∧ a ≤ 5 ∧ 1 ≤ b ∧ b ≤ 99) then (1 : Int) else if 12 ≤ q_nd R ∨ q_dn R b (-9) (q_nd R).toNat = true then 2 else 0)) (z := 0) hx hb hr hG hlocks (⟨fun h9 => absurd h9 (by rw [hcd9]; decide), fun _ => (q_mq.rf hM8).2, by rw [hcd9]; exact (q_mq.rf hM8).1⟩) dX6_enter_76
    · skip
      refine lv_iconst (v := iZ 1) hx hb dX6_enter_24 rfl ?_
      refine lv_goto (tgt := 29) hx hb dX6_enter_25 (by decide) ?_
      refine lv_istore_n (lv' := [(3, .int (iZ 1)), (0, .ref (gad G 169)), (1, .int (iZ a)), (2, .int (iZ b))]) hx hb dX6_enter_29 rfl hl (by decide) rfl (fun ls hl => ?_)
      refine lv_aload_n hx hb dX6_enter_30 rfl (lv_at hl 1 rfl) ?_
      refine lv_iload_n hx hb dX6_enter_31 rfl (lv_at hl 0 rfl) ?_
      refine z_if_ne (tgt := 39) hx hb (by decide) dX6_enter_32 (by decide) (fun c_32 => ?_) (fun c_32 => ?_)
      · skip
        refine lv_aload_n hx hb dX6_enter_39 rfl (lv_at hl 1 rfl) ?_
        refine g_get hx hb hts hinX6 hown hG (o := 169) (hdm 169 (by decide)) rfl rfl 5 (by decide) f16 (fun _ h => h) rfl dX6_enter_40 ?_
        refine lv_bipush (v := iZ (7)) hx hb dX6_enter_43 (by decide) ?_
        refine g_iald (z := (q_nd R)) (j := 7) hx hb hG (o := 172) (hdm 172 (by decide)) rfl (by omega) (by omega) (by omega) (by rw [hRM] <;> rfl) dX6_enter_45 ?_
        refine lv_bipush (v := iZ (12)) hx hb dX6_enter_46 (by decide) ?_
        refine z_icmp_eq (tgt := 64) hx hb (by omega) (by decide) dX6_enter_48 (by decide) (fun c_48 => ?_) (fun c_48 => ?_)
        · skip
          refine lv_iconst (v := iZ 2) hx hb dX6_enter_64 rfl ?_
          refine lv_goto (tgt := 69) hx hb dX6_enter_65 (by decide) ?_
          refine g_callV (b := 169) (As := [.int (iZ 2)]) (rest := []) ⟨hx, hb, hml, hown, hts⟩ (c_X6_refused l G M hdm 2 (by omega)) (cwV 1 hts gX6_enter_X6_refused rfl rfl rfl (by decide +kernel) ⟨Nat.le_of_ble_eq_true rfl, Nat.le_of_ble_eq_true rfl⟩) hG (g_recv hG (b := 169) (hdm 169 (by decide)) rfl rfl) rfl hl.1 rfl (Nat.le_of_ble_eq_true rfl) dX6_enter_69 ⟨Nat.zero_le _, Nat.zero_le _⟩ (fun z9 M10 H locs hp_69 hG => ?_)
          obtain ⟨hz_69, hM10⟩ := hp_69; rw [if_pos (by decide)] at hz_69; replace hz_69 := hz_69.symm; subst hz_69
          have hpv_M10_172 : M10 172 = R := Eq.trans (by rw [hM10]; exact wr_off _ _ _ (by decide)) hRM
          have hcd9 : (if ¬ (0 ≤ a ∧ a ≤ 5 ∧ 1 ≤ b ∧ b ≤ 99) then (1 : Int) else if 12 ≤ q_nd R ∨ q_dn R b (-9) (q_nd R).toNat = true then 2 else 0) = (2 : Int) := by first | (rw [if_neg (by omega), if_pos (Or.inl (by omega))]; done) | (rw [if_neg (by omega), if_pos (Or.inr (by assumption))]; done)
          refine z_if_eq (tgt := 77) hx hb (by decide) dX6_enter_72 (by decide) (fun c_72 => ?_) (fun c_72 => ?_)
          · exfalso; omega
          · skip
            refine lv_iconst (v := iZ 0) hx hb dX6_enter_75 rfl ?_
            exact g_iret (post := fun z M1 => ((if ¬ (0 ≤ a ∧ a ≤ 5 ∧ 1 ≤ b ∧ b ≤ 99) then (1 : Int) else if 12 ≤ q_nd R ∨ q_dn R b (-9) (q_nd R).toNat = true then 2 else 0) = 0 → z = q_nd R ∧ q_mz 0 n M M1 ∧ M1 172 = (q_ent R (q_nd R).toNat a b)) ∧ ((if ¬ (0 ≤ a ∧ a ≤ 5 ∧ 1 ≤ b ∧ b ≤ 99) then (1 : Int) else if 12 ≤ q_nd R ∨ q_dn R b (-9) (q_nd R).toNat = true then 2 else 0) ≠ 0 → q_ms M M1) ∧ M1 169 0 = (if ¬ (0 ≤ a ∧ a ≤ 5 ∧ 1 ≤ b ∧ b ≤ 99) then (1 : Int) else if 12 ≤ q_nd R ∨ q_dn R b (-9) (q_nd R).toNat = true then 2 else 0)) (z := 0) hx hb hr hG hlocks (⟨fun h9 => absurd h9 (by rw [hcd9]; decide), fun _ => (q_mq.rf hM10).2, by rw [hcd9]; exact (q_mq.rf hM10).1⟩) dX6_enter_76
        · skip
          refine lv_aload_n hx hb dX6_enter_51 rfl (lv_at hl 1 rfl) ?_
          refine g_get hx hb hts hinX6 hown hG (o := 169) (hdm 169 (by decide)) rfl rfl 5 (by decide) f16 (fun _ h => h) rfl dX6_enter_52 ?_
          refine lv_iload_n hx hb dX6_enter_55 rfl (lv_at hl 3 rfl) ?_
          refine lv_bipush (v := iZ (-9)) hx hb dX6_enter_56 (by decide) ?_
          refine g_callS (As := [.ref (gad G 172), .int (iZ b), .int (iZ (-9))]) (rest := [.ref (gad G 169)]) ⟨hx, hb, hml, hown, hts⟩ (c_X6_isDrawn l G M hdm 172 (Or.inr (Or.inl rfl)) (by rw [hRM]; exact hI) b (-9) (by omega) (by omega)) (va_cwS 3 hts gX6_enter_X6_isDrawn rfl rfl rfl (by decide +kernel) ⟨Nat.le_of_ble_eq_true rfl, Nat.le_of_ble_eq_true rfl⟩) hG rfl hl.1 rfl (Nat.le_of_ble_eq_true rfl) dX6_enter_58 ⟨Nat.zero_le _, Nat.zero_le _⟩ (fun z11 M12 H locs hp_58 hG => ?_)
          rw [hRM] at hp_58
          obtain ⟨hz_58, hM_58⟩ := hp_58; replace hz_58 := hz_58.symm; subst hz_58; replace hM_58 := hM_58.symm; subst hM_58
          refine z_ifP_eq (tgt := 68) hx hb dX6_enter_61 (by decide) (fun c_61 => ?_) (fun c_61 => ?_)
          · skip
            refine lv_iconst (v := iZ 0) hx hb dX6_enter_68 rfl ?_
            refine g_callV (b := 169) (As := [.int (iZ 0)]) (rest := []) ⟨hx, hb, hml, hown, hts⟩ (c_X6_refused l G M hdm 0 (by omega)) (cwV 1 hts gX6_enter_X6_refused rfl rfl rfl (by decide +kernel) ⟨Nat.le_of_ble_eq_true rfl, Nat.le_of_ble_eq_true rfl⟩) hG (g_recv hG (b := 169) (hdm 169 (by decide)) rfl rfl) rfl hl.1 rfl (Nat.le_of_ble_eq_true rfl) dX6_enter_69 ⟨Nat.zero_le _, Nat.zero_le _⟩ (fun z13 M14 H locs hp_69 hG => ?_)
            obtain ⟨hz_69, hM14⟩ := hp_69; rw [if_neg (by decide)] at hz_69; replace hz_69 := hz_69.symm; subst hz_69
            have hpv_M14_172 : M14 172 = R := Eq.trans (by rw [hM14]; exact wr_off _ _ _ (by decide)) hRM
            have hcd9 : (if ¬ (0 ≤ a ∧ a ≤ 5 ∧ 1 ≤ b ∧ b ≤ 99) then (1 : Int) else if 12 ≤ q_nd R ∨ q_dn R b (-9) (q_nd R).toNat = true then 2 else 0) = (0 : Int) := by rw [if_neg (by omega), if_neg (fun h9 => by rcases h9 with h9 | h9; omega; (exact absurd h9 (by assumption)))]
            refine z_if_eq (tgt := 77) hx hb (by decide) dX6_enter_72 (by decide) (fun c_72 => ?_) (fun c_72 => ?_)
            · skip
              refine lv_aload_n hx hb dX6_enter_77 rfl (lv_at hl 1 rfl) ?_
              refine g_vcallV (b := 169) (As := []) (rest := []) ⟨hx, hb, hml, hown, hts⟩ (c_X6_note l G M14 hdm n hn ((q_mq.rf hM14).2.2.2.trans hn8)) (cwV 0 hts gX6_enter_X6_note rfl rfl rfl (by decide +kernel) ⟨Nat.le_of_ble_eq_true rfl, Nat.le_of_ble_eq_true rfl⟩) hG (g_recv hG (b := 169) (hdm 169 (by decide)) rfl rfl) rfl hl.1 rfl (Nat.le_of_ble_eq_true rfl) dX6_enter_78 ⟨Nat.zero_le _, Nat.zero_le _⟩ (fun M16 H locs hp_78 hG => ?_)
              obtain ⟨hnt1_M16, hnt2_M16, hnt3_M16, hnt4_M16, hnt5_M16⟩ := hp_78
              have hpv_M16_172 : M16 172 = R := Eq.trans (hnt4_M16 172 (by decide) (by decide)) hpv_M14_172
              refine lv_aload_n hx hb dX6_enter_81 rfl (lv_at hl 1 rfl) ?_
              refine g_get hx hb hts hinX6 hown hG (o := 169) (hdm 169 (by decide)) rfl rfl 5 (by decide) f16 (fun _ h => h) rfl dX6_enter_82 ?_
              refine lv_iload_n hx hb dX6_enter_85 rfl (lv_at hl 2 rfl) ?_
              refine lv_iload_n hx hb dX6_enter_86 rfl (lv_at hl 3 rfl) ?_
              refine g_vcallS (As := [.ref (gad G 172), .int (iZ a), .int (iZ b)]) (rest := []) ⟨hx, hb, hml, hown, hts⟩ (c_X6_enterOn l G M16 hdm 172 (Or.inr (Or.inl rfl)) (by rw [hpv_M16_172]; exact hI) (q_nd R).toNat (by rw [hpv_M16_172]; omega) (by omega) a b) (va_cwS 3 hts gX6_enter_X6_enterOn rfl rfl rfl (by decide +kernel) ⟨Nat.le_of_ble_eq_true rfl, Nat.le_of_ble_eq_true rfl⟩) hG rfl hl.1 rfl (Nat.le_of_ble_eq_true rfl) dX6_enter_87 ⟨Nat.zero_le _, Nat.zero_le _⟩ (fun M18 H locs hp_87 hG => ?_)
              rw [hpv_M16_172] at hp_87
              replace hp_87 : M18 = q_set M16 172 (q_ent R (q_nd R).toNat a b) := hp_87
              have hpv_M18_172 : M18 172 = (q_ent R (q_nd R).toNat a b) := by rw [hp_87, q_set_at]
              refine lv_aload_n hx hb dX6_enter_90 rfl (lv_at hl 1 rfl) ?_
              refine g_get hx hb hts hinX6 hown hG (o := 169) (hdm 169 (by decide)) rfl rfl 5 (by decide) f16 (fun _ h => h) rfl dX6_enter_91 ?_
              refine lv_bipush (v := iZ (7)) hx hb dX6_enter_94 (by decide) ?_
              refine g_iald (z := (q_nd (q_ent R (q_nd R).toNat a b))) (j := 7) hx hb hG (o := 172) (hdm 172 (by decide)) rfl (by omega) (by omega) (by omega) (by rw [hpv_M18_172] <;> rfl) dX6_enter_96 ?_
              refine lv_iconst (v := iZ 1) hx hb dX6_enter_97 rfl ?_
              refine z_isub (z := ((q_nd (q_ent R (q_nd R).toNat a b)) - 1)) hx hb (by omega) dX6_enter_98 ?_
              exact g_iret (post := fun z M1 => ((if ¬ (0 ≤ a ∧ a ≤ 5 ∧ 1 ≤ b ∧ b ≤ 99) then (1 : Int) else if 12 ≤ q_nd R ∨ q_dn R b (-9) (q_nd R).toNat = true then 2 else 0) = 0 → z = q_nd R ∧ q_mz 0 n M M1 ∧ M1 172 = (q_ent R (q_nd R).toNat a b)) ∧ ((if ¬ (0 ≤ a ∧ a ≤ 5 ∧ 1 ≤ b ∧ b ≤ 99) then (1 : Int) else if 12 ≤ q_nd R ∨ q_dn R b (-9) (q_nd R).toNat = true then 2 else 0) ≠ 0 → q_ms M M1) ∧ M1 169 0 = (if ¬ (0 ≤ a ∧ a ≤ 5 ∧ 1 ≤ b ∧ b ≤ 99) then (1 : Int) else if 12 ≤ q_nd R ∨ q_dn R b (-9) (q_nd R).toNat = true then 2 else 0)) (z := ((q_nd (q_ent R (q_nd R).toNat a b)) - 1)) hx hb hr hG hlocks (⟨fun _ => ⟨by rw [q_ent_nd]; omega, (q_mz.pg (q_mz.nt (q_mq.rf hM14) hnt1_M16 hnt2_M16 hnt3_M16 hnt4_M16 hnt5_M16) (fun a h7 h8 => by rw [hp_87]; exact q_set_off _ _ (by assumption))), hpv_M18_172⟩, fun h9 => absurd hcd9 h9, by rw [hcd9]; exact (q_mz.pg (q_mz.nt (q_mq.rf hM14) hnt1_M16 hnt2_M16 hnt3_M16 hnt4_M16 hnt5_M16) (fun a h7 h8 => by rw [hp_87]; exact q_set_off _ _ (by assumption))).1⟩) dX6_enter_99
            · exfalso; omega
          · skip
            refine lv_iconst (v := iZ 2) hx hb dX6_enter_64 rfl ?_
            refine lv_goto (tgt := 69) hx hb dX6_enter_65 (by decide) ?_
            refine g_callV (b := 169) (As := [.int (iZ 2)]) (rest := []) ⟨hx, hb, hml, hown, hts⟩ (c_X6_refused l G M hdm 2 (by omega)) (cwV 1 hts gX6_enter_X6_refused rfl rfl rfl (by decide +kernel) ⟨Nat.le_of_ble_eq_true rfl, Nat.le_of_ble_eq_true rfl⟩) hG (g_recv hG (b := 169) (hdm 169 (by decide)) rfl rfl) rfl hl.1 rfl (Nat.le_of_ble_eq_true rfl) dX6_enter_69 ⟨Nat.zero_le _, Nat.zero_le _⟩ (fun z19 M20 H locs hp_69 hG => ?_)
            obtain ⟨hz_69, hM20⟩ := hp_69; rw [if_pos (by decide)] at hz_69; replace hz_69 := hz_69.symm; subst hz_69
            have hpv_M20_172 : M20 172 = R := Eq.trans (by rw [hM20]; exact wr_off _ _ _ (by decide)) hRM
            have hcd9 : (if ¬ (0 ≤ a ∧ a ≤ 5 ∧ 1 ≤ b ∧ b ≤ 99) then (1 : Int) else if 12 ≤ q_nd R ∨ q_dn R b (-9) (q_nd R).toNat = true then 2 else 0) = (2 : Int) := by first | (rw [if_neg (by omega), if_pos (Or.inl (by omega))]; done) | (rw [if_neg (by omega), if_pos (Or.inr (by assumption))]; done)
            refine z_if_eq (tgt := 77) hx hb (by decide) dX6_enter_72 (by decide) (fun c_72 => ?_) (fun c_72 => ?_)
            · exfalso; omega
            · skip
              refine lv_iconst (v := iZ 0) hx hb dX6_enter_75 rfl ?_
              exact g_iret (post := fun z M1 => ((if ¬ (0 ≤ a ∧ a ≤ 5 ∧ 1 ≤ b ∧ b ≤ 99) then (1 : Int) else if 12 ≤ q_nd R ∨ q_dn R b (-9) (q_nd R).toNat = true then 2 else 0) = 0 → z = q_nd R ∧ q_mz 0 n M M1 ∧ M1 172 = (q_ent R (q_nd R).toNat a b)) ∧ ((if ¬ (0 ≤ a ∧ a ≤ 5 ∧ 1 ≤ b ∧ b ≤ 99) then (1 : Int) else if 12 ≤ q_nd R ∨ q_dn R b (-9) (q_nd R).toNat = true then 2 else 0) ≠ 0 → q_ms M M1) ∧ M1 169 0 = (if ¬ (0 ≤ a ∧ a ≤ 5 ∧ 1 ≤ b ∧ b ≤ 99) then (1 : Int) else if 12 ≤ q_nd R ∨ q_dn R b (-9) (q_nd R).toNat = true then 2 else 0)) (z := 0) hx hb hr hG hlocks (⟨fun h9 => absurd h9 (by rw [hcd9]; decide), fun _ => (q_mq.rf hM20).2, by rw [hcd9]; exact (q_mq.rf hM20).1⟩) dX6_enter_76
      · exfalso; omega
set_option maxHeartbeats 4000000 in
set_option maxRecDepth 100000 in
theorem c_X6_withdraw (l : Launch) (G : gG) (M : Nat → Nat → Int) (hdm : ∀ k, k < 179 → gdm G k) (R : Nat → Int) (hRM : M 172 = R) (hI : q_inv R) (n : Nat) (hn : n ≤ 14) (hn8 : M 169 8 = (n : Int)) (a : Int) (ha9 : -2147483648 ≤ a ∧ a < 2147483648) : gMi l yX6_withdraw wsX6_withdraw ({ frames := 2, cells := 0, slots := 0, locals := 46 } : Room) G M [.ref (gad G 169), .int (iZ a)] (fun z M1 => ((if ¬ (0 ≤ a ∧ a < q_nd R) then (1 : Int) else if q_sa R a.toNat = 3 then 2 else 0) = 0 → z = q_sa R a.toNat ∧ q_mz 0 n M M1 ∧ M1 172 = (q_gon R a.toNat)) ∧ ((if ¬ (0 ≤ a ∧ a < q_nd R) then (1 : Int) else if q_sa R a.toNat = 3 then 2 else 0) ≠ 0 → q_ms M M1) ∧ M1 169 0 = (if ¬ (0 ≤ a ∧ a < q_nd R) then (1 : Int) else if q_sa R a.toNat = 3 then 2 else 0)) := by
  refine gMi_of (cc := cX6_withdraw) (maxL := 3) (ret := some .int) (by decide) rfl (Nat.le_of_ble_eq_true rfl) ?_
  intro p e s m below meth c ls hx hb hr hml hown hts hlocks hl hG
  have hown : s.vm.findClass RX6 = some m.cls := hown
  have hl : lv_has ls 3 [(0, .ref (gad G 169)), (1, .int (iZ a))] := hl
  have hinX6 : ∀ w ∈ u_ws RX6 TX6 13, w ∈ wsX6_withdraw := by decide +kernel
  have f16 := hts (.fieldLink RX6 16 "DogTrialsModel" "now" "[I") (by decide +kernel)
  have hnd := hI.1
  refine lv_aload_n hx hb dX6_withdraw_0 rfl (lv_at hl 0 rfl) ?_
  refine lv_aload_n hx hb dX6_withdraw_1 rfl (lv_at hl 0 rfl) ?_
  refine g_get hx hb hts hinX6 hown hG (o := 169) (hdm 169 (by decide)) rfl rfl 5 (by decide) f16 (fun _ h => h) rfl dX6_withdraw_2 ?_
  refine lv_iload_n hx hb dX6_withdraw_5 rfl (lv_at hl 1 rfl) ?_
  refine g_callS (As := [.ref (gad G 172), .int (iZ a)]) (rest := [.ref (gad G 169)]) ⟨hx, hb, hml, hown, hts⟩ (c_X6_isDog l G M hdm 172 (Or.inr (Or.inl rfl)) (by rw [hRM]; exact hI) a (by omega)) (va_cwS 2 hts gX6_withdraw_X6_isDog rfl rfl rfl (by decide +kernel) ⟨Nat.le_of_ble_eq_true rfl, Nat.le_of_ble_eq_true rfl⟩) hG rfl hl.1 rfl (Nat.le_of_ble_eq_true rfl) dX6_withdraw_6 ⟨Nat.zero_le _, Nat.zero_le _⟩ (fun z1 M2 H locs hp_6 hG => ?_)
  rw [hRM] at hp_6
  obtain ⟨hz_6, hM_6⟩ := hp_6; replace hz_6 := hz_6.symm; subst hz_6; replace hM_6 := hM_6.symm; subst hM_6
  refine z_ifP_ne (tgt := 16) hx hb dX6_withdraw_9 (by decide) (fun c_9 => ?_) (fun c_9 => ?_)
  · skip
    have hna : a = ((a.toNat : Nat) : Int) := by omega
    have hdo := dok5 hI a.toNat (by omega)
    refine lv_aload_n hx hb dX6_withdraw_16 rfl (lv_at hl 0 rfl) ?_
    refine g_get hx hb hts hinX6 hown hG (o := 169) (hdm 169 (by decide)) rfl rfl 5 (by decide) f16 (fun _ h => h) rfl dX6_withdraw_17 ?_
    refine lv_iload_n hx hb dX6_withdraw_20 rfl (lv_at hl 1 rfl) ?_
    refine g_callS (As := [.ref (gad G 172), .int (iZ ((a.toNat) : Int))]) (rest := [.ref (gad G 169)]) ⟨hx, hb, hml, hown, hts⟩ (c_X6_stateOf l G M hdm 172 (Or.inr (Or.inl rfl)) (by rw [hRM]; exact hI) ((a.toNat)) (by first | omega | (rw [hRM]; omega))) (va_cwS 2 hts gX6_withdraw_X6_stateOf rfl rfl rfl (by decide +kernel) ⟨Nat.le_of_ble_eq_true rfl, Nat.le_of_ble_eq_true rfl⟩) hG rfl hl.1 (by rw [← hna]; rfl) (Nat.le_of_ble_eq_true rfl) dX6_withdraw_21 ⟨Nat.zero_le _, Nat.zero_le _⟩ (fun z3 M4 H locs hp_21 hG => ?_)
    rw [hRM] at hp_21
    obtain ⟨hz_21, hM_21⟩ := hp_21; replace hz_21 := hz_21.symm; subst hz_21; replace hM_21 := hM_21.symm; subst hM_21
    refine lv_iconst (v := iZ 3) hx hb dX6_withdraw_24 rfl ?_
    refine z_icmp_ne (tgt := 32) hx hb (by omega) (by decide) dX6_withdraw_25 (by decide) (fun c_25 => ?_) (fun c_25 => ?_)
    · skip
      refine lv_iconst (v := iZ 0) hx hb dX6_withdraw_32 rfl ?_
      refine g_callV (b := 169) (As := [.int (iZ 0)]) (rest := []) ⟨hx, hb, hml, hown, hts⟩ (c_X6_refused l G M hdm 0 (by omega)) (cwV 1 hts gX6_withdraw_X6_refused rfl rfl rfl (by decide +kernel) ⟨Nat.le_of_ble_eq_true rfl, Nat.le_of_ble_eq_true rfl⟩) hG (g_recv hG (b := 169) (hdm 169 (by decide)) rfl rfl) rfl hl.1 rfl (Nat.le_of_ble_eq_true rfl) dX6_withdraw_33 ⟨Nat.zero_le _, Nat.zero_le _⟩ (fun z5 M6 H locs hp_33 hG => ?_)
      obtain ⟨hz_33, hM6⟩ := hp_33; rw [if_neg (by decide)] at hz_33; replace hz_33 := hz_33.symm; subst hz_33
      have hpv_M6_172 : M6 172 = R := Eq.trans (by rw [hM6]; exact wr_off _ _ _ (by decide)) hRM
      have hcd9 : (if ¬ (0 ≤ a ∧ a < q_nd R) then (1 : Int) else if q_sa R a.toNat = 3 then 2 else 0) = (0 : Int) := by (repeat' split) <;> first | rfl | omega | (exfalso; omega) | contradiction
      refine z_if_eq (tgt := 41) hx hb (by decide) dX6_withdraw_36 (by decide) (fun c_36 => ?_) (fun c_36 => ?_)
      · skip
        have hna : a = ((a.toNat : Nat) : Int) := by omega
        have hdo := dok5 hI a.toNat (by omega)
        refine lv_aload_n hx hb dX6_withdraw_41 rfl (lv_at hl 0 rfl) ?_
        refine g_vcallV (b := 169) (As := []) (rest := []) ⟨hx, hb, hml, hown, hts⟩ (c_X6_note l G M6 hdm n hn ((q_mq.rf hM6).2.2.2.trans hn8)) (cwV 0 hts gX6_withdraw_X6_note rfl rfl rfl (by decide +kernel) ⟨Nat.le_of_ble_eq_true rfl, Nat.le_of_ble_eq_true rfl⟩) hG (g_recv hG (b := 169) (hdm 169 (by decide)) rfl rfl) rfl hl.1 rfl (Nat.le_of_ble_eq_true rfl) dX6_withdraw_42 ⟨Nat.zero_le _, Nat.zero_le _⟩ (fun M8 H locs hp_42 hG => ?_)
        obtain ⟨hnt1_M8, hnt2_M8, hnt3_M8, hnt4_M8, hnt5_M8⟩ := hp_42
        have hpv_M8_172 : M8 172 = R := Eq.trans (hnt4_M8 172 (by decide) (by decide)) hpv_M6_172
        refine lv_aload_n hx hb dX6_withdraw_45 rfl (lv_at hl 0 rfl) ?_
        refine g_get hx hb hts hinX6 hown hG (o := 169) (hdm 169 (by decide)) rfl rfl 5 (by decide) f16 (fun _ h => h) rfl dX6_withdraw_46 ?_
        refine lv_iload_n hx hb dX6_withdraw_49 rfl (lv_at hl 1 rfl) ?_
        refine g_callS (As := [.ref (gad G 172), .int (iZ ((a.toNat) : Int))]) (rest := []) ⟨hx, hb, hml, hown, hts⟩ (c_X6_stateOf l G M8 hdm 172 (Or.inr (Or.inl rfl)) (by rw [hpv_M8_172]; exact hI) ((a.toNat)) (by first | omega | (rw [hpv_M8_172]; omega))) (va_cwS 2 hts gX6_withdraw_X6_stateOf rfl rfl rfl (by decide +kernel) ⟨Nat.le_of_ble_eq_true rfl, Nat.le_of_ble_eq_true rfl⟩) hG rfl hl.1 (by rw [← hna]; rfl) (Nat.le_of_ble_eq_true rfl) dX6_withdraw_50 ⟨Nat.zero_le _, Nat.zero_le _⟩ (fun z9 M10 H locs hp_50 hG => ?_)
        rw [hpv_M8_172] at hp_50
        obtain ⟨hz_50, hM_50⟩ := hp_50; replace hz_50 := hz_50.symm; subst hz_50; replace hM_50 := hM_50.symm; subst hM_50
        refine lv_istore_n (lv' := [(2, .int (iZ (q_sa R ((a.toNat))))), (0, .ref (gad G 169)), (1, .int (iZ a))]) hx hb dX6_withdraw_53 rfl hl (by decide) rfl (fun ls hl => ?_)
        refine lv_aload_n hx hb dX6_withdraw_54 rfl (lv_at hl 1 rfl) ?_
        refine g_get hx hb hts hinX6 hown hG (o := 169) (hdm 169 (by decide)) rfl rfl 5 (by decide) f16 (fun _ h => h) rfl dX6_withdraw_55 ?_
        refine lv_iload_n hx hb dX6_withdraw_58 rfl (lv_at hl 2 rfl) ?_
        refine g_callS (As := [.int (iZ ((a.toNat) : Int))]) (rest := [.ref (gad G 172)]) ⟨hx, hb, hml, hown, hts⟩ (c_X6_dogAt l G M8 ((a.toNat) : Int)) (va_cwS 1 hts gX6_withdraw_X6_dogAt rfl rfl rfl (by decide +kernel) ⟨Nat.le_of_ble_eq_true rfl, Nat.le_of_ble_eq_true rfl⟩) hG rfl hl.1 (by rw [← hna]; rfl) (Nat.le_of_ble_eq_true rfl) dX6_withdraw_59 ⟨Nat.zero_le _, Nat.zero_le _⟩ (fun z11 M12 H locs hp_59 hG => ?_)
        obtain ⟨hz_59, hM_59⟩ := hp_59; replace hz_59 := hz_59.symm; subst hz_59; replace hM_59 := hM_59.symm; subst hM_59
        rw [show (14 + 11 * ((a.toNat) : Int) : Int) = (11 * ((a.toNat) : Int) + 14) from by omega]
        refine lv_iconst (v := iZ 2) hx hb dX6_withdraw_62 rfl ?_
        refine z_iadd (z := (11 * ((a.toNat) : Int) + 16)) hx hb (by omega) dX6_withdraw_63 ?_
        refine lv_iconst (v := iZ 3) hx hb dX6_withdraw_64 rfl ?_
        refine g_iast (j := (14 + 11 * ((a.toNat)) + 2)) hx hb hG (o := 172) (hdm 172 (by decide)) (fun f => rfl) (by omega) (by omega) (by omega) dX6_withdraw_65 (fun H locs hG => ?_)
        obtain ⟨M13, hM13⟩ : ∃ X, X = (q_wr M8 172 (14 + 11 * ((a.toNat)) + 2) 3) := ⟨_, rfl⟩
        rw [← hM13] at hG
        have hpg9 : M13 172 = (q_gon R a.toNat) := by rw [hM13, wr_at, hpv_M8_172]; rfl
        refine lv_iload_n hx hb dX6_withdraw_66 rfl (lv_at hl 0 rfl) ?_
        exact g_iret (post := fun z M1 => ((if ¬ (0 ≤ a ∧ a < q_nd R) then (1 : Int) else if q_sa R a.toNat = 3 then 2 else 0) = 0 → z = q_sa R a.toNat ∧ q_mz 0 n M M1 ∧ M1 172 = (q_gon R a.toNat)) ∧ ((if ¬ (0 ≤ a ∧ a < q_nd R) then (1 : Int) else if q_sa R a.toNat = 3 then 2 else 0) ≠ 0 → q_ms M M1) ∧ M1 169 0 = (if ¬ (0 ≤ a ∧ a < q_nd R) then (1 : Int) else if q_sa R a.toNat = 3 then 2 else 0)) (z := (q_sa R ((a.toNat)))) hx hb hr hG hlocks (⟨fun _ => ⟨rfl, (q_mz.pg (q_mz.nt (q_mq.rf hM6) hnt1_M8 hnt2_M8 hnt3_M8 hnt4_M8 hnt5_M8) (fun a h7 h8 => by rw [hM13]; exact wr_off _ _ _ (by assumption))), hpg9⟩, fun h9 => absurd hcd9 h9, by rw [hcd9]; exact (q_mz.pg (q_mz.nt (q_mq.rf hM6) hnt1_M8 hnt2_M8 hnt3_M8 hnt4_M8 hnt5_M8) (fun a h7 h8 => by rw [hM13]; exact wr_off _ _ _ (by assumption))).1⟩) dX6_withdraw_67
      · exfalso; omega
    · skip
      refine lv_iconst (v := iZ 2) hx hb dX6_withdraw_28 rfl ?_
      refine lv_goto (tgt := 33) hx hb dX6_withdraw_29 (by decide) ?_
      refine g_callV (b := 169) (As := [.int (iZ 2)]) (rest := []) ⟨hx, hb, hml, hown, hts⟩ (c_X6_refused l G M hdm 2 (by omega)) (cwV 1 hts gX6_withdraw_X6_refused rfl rfl rfl (by decide +kernel) ⟨Nat.le_of_ble_eq_true rfl, Nat.le_of_ble_eq_true rfl⟩) hG (g_recv hG (b := 169) (hdm 169 (by decide)) rfl rfl) rfl hl.1 rfl (Nat.le_of_ble_eq_true rfl) dX6_withdraw_33 ⟨Nat.zero_le _, Nat.zero_le _⟩ (fun z14 M15 H locs hp_33 hG => ?_)
      obtain ⟨hz_33, hM15⟩ := hp_33; rw [if_pos (by decide)] at hz_33; replace hz_33 := hz_33.symm; subst hz_33
      have hpv_M15_172 : M15 172 = R := Eq.trans (by rw [hM15]; exact wr_off _ _ _ (by decide)) hRM
      have hcd9 : (if ¬ (0 ≤ a ∧ a < q_nd R) then (1 : Int) else if q_sa R a.toNat = 3 then 2 else 0) = (2 : Int) := by (repeat' split) <;> first | rfl | omega | (exfalso; omega) | contradiction
      refine z_if_eq (tgt := 41) hx hb (by decide) dX6_withdraw_36 (by decide) (fun c_36 => ?_) (fun c_36 => ?_)
      · exfalso; omega
      · skip
        refine lv_iconst (v := iZ 0) hx hb dX6_withdraw_39 rfl ?_
        exact g_iret (post := fun z M1 => ((if ¬ (0 ≤ a ∧ a < q_nd R) then (1 : Int) else if q_sa R a.toNat = 3 then 2 else 0) = 0 → z = q_sa R a.toNat ∧ q_mz 0 n M M1 ∧ M1 172 = (q_gon R a.toNat)) ∧ ((if ¬ (0 ≤ a ∧ a < q_nd R) then (1 : Int) else if q_sa R a.toNat = 3 then 2 else 0) ≠ 0 → q_ms M M1) ∧ M1 169 0 = (if ¬ (0 ≤ a ∧ a < q_nd R) then (1 : Int) else if q_sa R a.toNat = 3 then 2 else 0)) (z := 0) hx hb hr hG hlocks (⟨fun h9 => absurd h9 (by rw [hcd9]; decide), fun _ => (q_mq.rf hM15).2, by rw [hcd9]; exact (q_mq.rf hM15).1⟩) dX6_withdraw_40
  · skip
    refine lv_iconst (v := iZ 1) hx hb dX6_withdraw_12 rfl ?_
    refine lv_goto (tgt := 33) hx hb dX6_withdraw_13 (by decide) ?_
    refine g_callV (b := 169) (As := [.int (iZ 1)]) (rest := []) ⟨hx, hb, hml, hown, hts⟩ (c_X6_refused l G M hdm 1 (by omega)) (cwV 1 hts gX6_withdraw_X6_refused rfl rfl rfl (by decide +kernel) ⟨Nat.le_of_ble_eq_true rfl, Nat.le_of_ble_eq_true rfl⟩) hG (g_recv hG (b := 169) (hdm 169 (by decide)) rfl rfl) rfl hl.1 rfl (Nat.le_of_ble_eq_true rfl) dX6_withdraw_33 ⟨Nat.zero_le _, Nat.zero_le _⟩ (fun z16 M17 H locs hp_33 hG => ?_)
    obtain ⟨hz_33, hM17⟩ := hp_33; rw [if_pos (by decide)] at hz_33; replace hz_33 := hz_33.symm; subst hz_33
    have hpv_M17_172 : M17 172 = R := Eq.trans (by rw [hM17]; exact wr_off _ _ _ (by decide)) hRM
    have hcd9 : (if ¬ (0 ≤ a ∧ a < q_nd R) then (1 : Int) else if q_sa R a.toNat = 3 then 2 else 0) = (1 : Int) := by (repeat' split) <;> first | rfl | omega | (exfalso; omega) | contradiction
    refine z_if_eq (tgt := 41) hx hb (by decide) dX6_withdraw_36 (by decide) (fun c_36 => ?_) (fun c_36 => ?_)
    · exfalso; omega
    · skip
      refine lv_iconst (v := iZ 0) hx hb dX6_withdraw_39 rfl ?_
      exact g_iret (post := fun z M1 => ((if ¬ (0 ≤ a ∧ a < q_nd R) then (1 : Int) else if q_sa R a.toNat = 3 then 2 else 0) = 0 → z = q_sa R a.toNat ∧ q_mz 0 n M M1 ∧ M1 172 = (q_gon R a.toNat)) ∧ ((if ¬ (0 ≤ a ∧ a < q_nd R) then (1 : Int) else if q_sa R a.toNat = 3 then 2 else 0) ≠ 0 → q_ms M M1) ∧ M1 169 0 = (if ¬ (0 ≤ a ∧ a < q_nd R) then (1 : Int) else if q_sa R a.toNat = 3 then 2 else 0)) (z := 0) hx hb hr hG hlocks (⟨fun h9 => absurd h9 (by rw [hcd9]; decide), fun _ => (q_mq.rf hM17).2, by rw [hcd9]; exact (q_mq.rf hM17).1⟩) dX6_withdraw_40
set_option maxHeartbeats 4000000 in
set_option maxRecDepth 100000 in
theorem c_X6_interfere (l : Launch) (G : gG) (M : Nat → Nat → Int) (hdm : ∀ k, k < 179 → gdm G k) (R : Nat → Int) (hRM : M 172 = R) (hI : q_inv R) (n : Nat) (hn : n ≤ 14) (hn8 : M 169 8 = (n : Int)) (a : Int) (ha9 : -2147483648 ≤ a ∧ a < 2147483648) (b : Int) (hb9 : -2147483648 ≤ b ∧ b < 2147483648) : gMi l yX6_interfere wsX6_interfere ({ frames := 3, cells := 0, slots := 0, locals := 65 } : Room) G M [.ref (gad G 169), .int (iZ a), .int (iZ b)] (fun z M1 => ((if ¬ (0 ≤ a ∧ a < q_nd R ∧ 0 ≤ b ∧ b ≤ 5) then (1 : Int) else if q_sa R a.toNat ≠ 1 then 2 else 0) = 0 → z = q_sc (q_brk R a.toNat b) a.toNat ∧ q_mz 0 n M M1 ∧ M1 172 = (q_brk R a.toNat b)) ∧ ((if ¬ (0 ≤ a ∧ a < q_nd R ∧ 0 ≤ b ∧ b ≤ 5) then (1 : Int) else if q_sa R a.toNat ≠ 1 then 2 else 0) ≠ 0 → q_ms M M1) ∧ M1 169 0 = (if ¬ (0 ≤ a ∧ a < q_nd R ∧ 0 ≤ b ∧ b ≤ 5) then (1 : Int) else if q_sa R a.toNat ≠ 1 then 2 else 0)) := by
  refine gMi_of (cc := cX6_interfere) (maxL := 3) (ret := some .int) (by decide) rfl (Nat.le_of_ble_eq_true rfl) ?_
  intro p e s m below meth c ls hx hb hr hml hown hts hlocks hl hG
  have hown : s.vm.findClass RX6 = some m.cls := hown
  have hl : lv_has ls 3 [(0, .ref (gad G 169)), (1, .int (iZ a)), (2, .int (iZ b))] := hl
  have hinX6 : ∀ w ∈ u_ws RX6 TX6 13, w ∈ wsX6_interfere := by decide +kernel
  have f16 := hts (.fieldLink RX6 16 "DogTrialsModel" "now" "[I") (by decide +kernel)
  have hnd := hI.1
  refine lv_aload_n hx hb dX6_interfere_0 rfl (lv_at hl 0 rfl) ?_
  refine lv_aload_n hx hb dX6_interfere_1 rfl (lv_at hl 0 rfl) ?_
  refine g_get hx hb hts hinX6 hown hG (o := 169) (hdm 169 (by decide)) rfl rfl 5 (by decide) f16 (fun _ h => h) rfl dX6_interfere_2 ?_
  refine lv_iload_n hx hb dX6_interfere_5 rfl (lv_at hl 1 rfl) ?_
  refine g_callS (As := [.ref (gad G 172), .int (iZ a)]) (rest := [.ref (gad G 169)]) ⟨hx, hb, hml, hown, hts⟩ (c_X6_isDog l G M hdm 172 (Or.inr (Or.inl rfl)) (by rw [hRM]; exact hI) a (by omega)) (va_cwS 2 hts gX6_interfere_X6_isDog rfl rfl rfl (by decide +kernel) ⟨Nat.le_of_ble_eq_true rfl, Nat.le_of_ble_eq_true rfl⟩) hG rfl hl.1 rfl (Nat.le_of_ble_eq_true rfl) dX6_interfere_6 ⟨Nat.zero_le _, Nat.zero_le _⟩ (fun z1 M2 H locs hp_6 hG => ?_)
  rw [hRM] at hp_6
  obtain ⟨hz_6, hM_6⟩ := hp_6; replace hz_6 := hz_6.symm; subst hz_6; replace hM_6 := hM_6.symm; subst hM_6
  refine z_ifP_eq (tgt := 19) hx hb dX6_interfere_9 (by decide) (fun c_9 => ?_) (fun c_9 => ?_)
  · skip
    refine lv_iconst (v := iZ 1) hx hb dX6_interfere_19 rfl ?_
    refine lv_goto (tgt := 40) hx hb dX6_interfere_20 (by decide) ?_
    refine g_callV (b := 169) (As := [.int (iZ 1)]) (rest := []) ⟨hx, hb, hml, hown, hts⟩ (c_X6_refused l G M hdm 1 (by omega)) (cwV 1 hts gX6_interfere_X6_refused rfl rfl rfl (by decide +kernel) ⟨Nat.le_of_ble_eq_true rfl, Nat.le_of_ble_eq_true rfl⟩) hG (g_recv hG (b := 169) (hdm 169 (by decide)) rfl rfl) rfl hl.1 rfl (Nat.le_of_ble_eq_true rfl) dX6_interfere_40 ⟨Nat.zero_le _, Nat.zero_le _⟩ (fun z3 M4 H locs hp_40 hG => ?_)
    obtain ⟨hz_40, hM4⟩ := hp_40; rw [if_pos (by decide)] at hz_40; replace hz_40 := hz_40.symm; subst hz_40
    have hpv_M4_172 : M4 172 = R := Eq.trans (by rw [hM4]; exact wr_off _ _ _ (by decide)) hRM
    have hcd9 : (if ¬ (0 ≤ a ∧ a < q_nd R ∧ 0 ≤ b ∧ b ≤ 5) then (1 : Int) else if q_sa R a.toNat ≠ 1 then 2 else 0) = (1 : Int) := by (repeat' split) <;> first | rfl | omega | (exfalso; omega) | contradiction
    refine z_if_eq (tgt := 48) hx hb (by decide) dX6_interfere_43 (by decide) (fun c_43 => ?_) (fun c_43 => ?_)
    · exfalso; omega
    · skip
      refine lv_iconst (v := iZ 0) hx hb dX6_interfere_46 rfl ?_
      exact g_iret (post := fun z M1 => ((if ¬ (0 ≤ a ∧ a < q_nd R ∧ 0 ≤ b ∧ b ≤ 5) then (1 : Int) else if q_sa R a.toNat ≠ 1 then 2 else 0) = 0 → z = q_sc (q_brk R a.toNat b) a.toNat ∧ q_mz 0 n M M1 ∧ M1 172 = (q_brk R a.toNat b)) ∧ ((if ¬ (0 ≤ a ∧ a < q_nd R ∧ 0 ≤ b ∧ b ≤ 5) then (1 : Int) else if q_sa R a.toNat ≠ 1 then 2 else 0) ≠ 0 → q_ms M M1) ∧ M1 169 0 = (if ¬ (0 ≤ a ∧ a < q_nd R ∧ 0 ≤ b ∧ b ≤ 5) then (1 : Int) else if q_sa R a.toNat ≠ 1 then 2 else 0)) (z := 0) hx hb hr hG hlocks (⟨fun h9 => absurd h9 (by rw [hcd9]; decide), fun _ => (q_mq.rf hM4).2, by rw [hcd9]; exact (q_mq.rf hM4).1⟩) dX6_interfere_47
  · skip
    refine lv_iload_n hx hb dX6_interfere_12 rfl (lv_at hl 2 rfl) ?_
    refine g_callS (As := [.int (iZ b)]) (rest := [.ref (gad G 169)]) ⟨hx, hb, hml, hown, hts⟩ (c_X6_isPhase l G M b (by omega)) (va_cwS 1 hts gX6_interfere_X6_isPhase rfl rfl rfl (by decide +kernel) ⟨Nat.le_of_ble_eq_true rfl, Nat.le_of_ble_eq_true rfl⟩) hG rfl hl.1 rfl (Nat.le_of_ble_eq_true rfl) dX6_interfere_13 ⟨Nat.zero_le _, Nat.zero_le _⟩ (fun z5 M6 H locs hp_13 hG => ?_)
    obtain ⟨hz_13, hM_13⟩ := hp_13; replace hz_13 := hz_13.symm; subst hz_13; replace hM_13 := hM_13.symm; subst hM_13
    refine z_ifP_ne (tgt := 23) hx hb dX6_interfere_16 (by decide) (fun c_16 => ?_) (fun c_16 => ?_)
    · skip
      have hna : a = ((a.toNat : Nat) : Int) := by omega
      have hdo := dok5 hI a.toNat (by omega)
      refine lv_aload_n hx hb dX6_interfere_23 rfl (lv_at hl 0 rfl) ?_
      refine g_get hx hb hts hinX6 hown hG (o := 169) (hdm 169 (by decide)) rfl rfl 5 (by decide) f16 (fun _ h => h) rfl dX6_interfere_24 ?_
      refine lv_iload_n hx hb dX6_interfere_27 rfl (lv_at hl 1 rfl) ?_
      refine g_callS (As := [.ref (gad G 172), .int (iZ ((a.toNat) : Int))]) (rest := [.ref (gad G 169)]) ⟨hx, hb, hml, hown, hts⟩ (c_X6_stateOf l G M hdm 172 (Or.inr (Or.inl rfl)) (by rw [hRM]; exact hI) ((a.toNat)) (by first | omega | (rw [hRM]; omega))) (va_cwS 2 hts gX6_interfere_X6_stateOf rfl rfl rfl (by decide +kernel) ⟨Nat.le_of_ble_eq_true rfl, Nat.le_of_ble_eq_true rfl⟩) hG rfl hl.1 (by rw [← hna]; rfl) (Nat.le_of_ble_eq_true rfl) dX6_interfere_28 ⟨Nat.zero_le _, Nat.zero_le _⟩ (fun z7 M8 H locs hp_28 hG => ?_)
      rw [hRM] at hp_28
      obtain ⟨hz_28, hM_28⟩ := hp_28; replace hz_28 := hz_28.symm; subst hz_28; replace hM_28 := hM_28.symm; subst hM_28
      refine lv_iconst (v := iZ 1) hx hb dX6_interfere_31 rfl ?_
      refine z_icmp_eq (tgt := 39) hx hb (by omega) (by decide) dX6_interfere_32 (by decide) (fun c_32 => ?_) (fun c_32 => ?_)
      · skip
        refine lv_iconst (v := iZ 0) hx hb dX6_interfere_39 rfl ?_
        refine g_callV (b := 169) (As := [.int (iZ 0)]) (rest := []) ⟨hx, hb, hml, hown, hts⟩ (c_X6_refused l G M hdm 0 (by omega)) (cwV 1 hts gX6_interfere_X6_refused rfl rfl rfl (by decide +kernel) ⟨Nat.le_of_ble_eq_true rfl, Nat.le_of_ble_eq_true rfl⟩) hG (g_recv hG (b := 169) (hdm 169 (by decide)) rfl rfl) rfl hl.1 rfl (Nat.le_of_ble_eq_true rfl) dX6_interfere_40 ⟨Nat.zero_le _, Nat.zero_le _⟩ (fun z9 M10 H locs hp_40 hG => ?_)
        obtain ⟨hz_40, hM10⟩ := hp_40; rw [if_neg (by decide)] at hz_40; replace hz_40 := hz_40.symm; subst hz_40
        have hpv_M10_172 : M10 172 = R := Eq.trans (by rw [hM10]; exact wr_off _ _ _ (by decide)) hRM
        have hcd9 : (if ¬ (0 ≤ a ∧ a < q_nd R ∧ 0 ≤ b ∧ b ≤ 5) then (1 : Int) else if q_sa R a.toNat ≠ 1 then 2 else 0) = (0 : Int) := by (repeat' split) <;> first | rfl | omega | (exfalso; omega) | contradiction
        refine z_if_eq (tgt := 48) hx hb (by decide) dX6_interfere_43 (by decide) (fun c_43 => ?_) (fun c_43 => ?_)
        · skip
          have hnb9 := q_brk_nd R a.toNat b
          have hdk9 := dok hI a.toNat (by omega)
          refine lv_aload_n hx hb dX6_interfere_48 rfl (lv_at hl 0 rfl) ?_
          refine g_vcallV (b := 169) (As := []) (rest := []) ⟨hx, hb, hml, hown, hts⟩ (c_X6_note l G M10 hdm n hn ((q_mq.rf hM10).2.2.2.trans hn8)) (cwV 0 hts gX6_interfere_X6_note rfl rfl rfl (by decide +kernel) ⟨Nat.le_of_ble_eq_true rfl, Nat.le_of_ble_eq_true rfl⟩) hG (g_recv hG (b := 169) (hdm 169 (by decide)) rfl rfl) rfl hl.1 rfl (Nat.le_of_ble_eq_true rfl) dX6_interfere_49 ⟨Nat.zero_le _, Nat.zero_le _⟩ (fun M12 H locs hp_49 hG => ?_)
          obtain ⟨hnt1_M12, hnt2_M12, hnt3_M12, hnt4_M12, hnt5_M12⟩ := hp_49
          have hpv_M12_172 : M12 172 = R := Eq.trans (hnt4_M12 172 (by decide) (by decide)) hpv_M10_172
          refine lv_aload_n hx hb dX6_interfere_52 rfl (lv_at hl 0 rfl) ?_
          refine g_get hx hb hts hinX6 hown hG (o := 169) (hdm 169 (by decide)) rfl rfl 5 (by decide) f16 (fun _ h => h) rfl dX6_interfere_53 ?_
          refine lv_iload_n hx hb dX6_interfere_56 rfl (lv_at hl 1 rfl) ?_
          refine lv_iload_n hx hb dX6_interfere_57 rfl (lv_at hl 2 rfl) ?_
          refine g_vcallS (As := [.ref (gad G 172), .int (iZ ((a.toNat) : Int)), .int (iZ b)]) (rest := []) ⟨hx, hb, hml, hown, hts⟩ (c_X6_breakOn l G M12 hdm 172 (Or.inr (Or.inl rfl)) (by rw [hpv_M12_172]; exact hI) ((a.toNat)) (by first | omega | (rw [hpv_M12_172]; omega)) b) (va_cwS 3 hts gX6_interfere_X6_breakOn rfl rfl rfl (by decide +kernel) ⟨Nat.le_of_ble_eq_true rfl, Nat.le_of_ble_eq_true rfl⟩) hG rfl hl.1 (by rw [← hna]; rfl) (Nat.le_of_ble_eq_true rfl) dX6_interfere_58 ⟨Nat.zero_le _, Nat.zero_le _⟩ (fun M14 H locs hp_58 hG => ?_)
          rw [hpv_M12_172] at hp_58
          replace hp_58 : M14 = q_set M12 172 (q_brk R ((a.toNat)) b) := hp_58
          have hpv_M14_172 : M14 172 = (q_brk R ((a.toNat)) b) := by rw [hp_58, q_set_at]
          have hinv_M14 : q_inv (q_brk R a.toNat b) := inv_brk hI (hdk9.2.2.2.2.2.2 (by omega)) (by omega)
          refine lv_aload_n hx hb dX6_interfere_61 rfl (lv_at hl 0 rfl) ?_
          refine g_get hx hb hts hinX6 hown hG (o := 169) (hdm 169 (by decide)) rfl rfl 5 (by decide) f16 (fun _ h => h) rfl dX6_interfere_62 ?_
          refine lv_iload_n hx hb dX6_interfere_65 rfl (lv_at hl 1 rfl) ?_
          refine g_callS (As := [.ref (gad G 172), .int (iZ ((a.toNat) : Int))]) (rest := []) ⟨hx, hb, hml, hown, hts⟩ (c_X6_score l G M14 hdm 172 (Or.inr (Or.inl rfl)) (by rw [hpv_M14_172]; exact hinv_M14) ((a.toNat)) (by first | omega | (rw [hpv_M14_172]; omega))) (va_cwS 2 hts gX6_interfere_X6_score rfl rfl rfl (by decide +kernel) ⟨Nat.le_of_ble_eq_true rfl, Nat.le_of_ble_eq_true rfl⟩) hG rfl hl.1 (by rw [← hna]; rfl) (Nat.le_of_ble_eq_true rfl) dX6_interfere_66 ⟨Nat.zero_le _, Nat.zero_le _⟩ (fun z15 M16 H locs hp_66 hG => ?_)
          rw [hpv_M14_172] at hp_66
          obtain ⟨hz_66, hM_66⟩ := hp_66; replace hz_66 := hz_66.symm; subst hz_66; replace hM_66 := hM_66.symm; subst hM_66
          exact g_iret (post := fun z M1 => ((if ¬ (0 ≤ a ∧ a < q_nd R ∧ 0 ≤ b ∧ b ≤ 5) then (1 : Int) else if q_sa R a.toNat ≠ 1 then 2 else 0) = 0 → z = q_sc (q_brk R a.toNat b) a.toNat ∧ q_mz 0 n M M1 ∧ M1 172 = (q_brk R a.toNat b)) ∧ ((if ¬ (0 ≤ a ∧ a < q_nd R ∧ 0 ≤ b ∧ b ≤ 5) then (1 : Int) else if q_sa R a.toNat ≠ 1 then 2 else 0) ≠ 0 → q_ms M M1) ∧ M1 169 0 = (if ¬ (0 ≤ a ∧ a < q_nd R ∧ 0 ≤ b ∧ b ≤ 5) then (1 : Int) else if q_sa R a.toNat ≠ 1 then 2 else 0)) (z := (q_sc (q_brk R ((a.toNat)) b) ((a.toNat)))) hx hb hr hG hlocks (⟨fun _ => ⟨rfl, (q_mz.pg (q_mz.nt (q_mq.rf hM10) hnt1_M12 hnt2_M12 hnt3_M12 hnt4_M12 hnt5_M12) (fun a h7 h8 => by rw [hp_58]; exact q_set_off _ _ (by assumption))), hpv_M14_172⟩, fun h9 => absurd hcd9 h9, by rw [hcd9]; exact (q_mz.pg (q_mz.nt (q_mq.rf hM10) hnt1_M12 hnt2_M12 hnt3_M12 hnt4_M12 hnt5_M12) (fun a h7 h8 => by rw [hp_58]; exact q_set_off _ _ (by assumption))).1⟩) dX6_interfere_69
        · exfalso; omega
      · skip
        refine lv_iconst (v := iZ 2) hx hb dX6_interfere_35 rfl ?_
        refine lv_goto (tgt := 40) hx hb dX6_interfere_36 (by decide) ?_
        refine g_callV (b := 169) (As := [.int (iZ 2)]) (rest := []) ⟨hx, hb, hml, hown, hts⟩ (c_X6_refused l G M hdm 2 (by omega)) (cwV 1 hts gX6_interfere_X6_refused rfl rfl rfl (by decide +kernel) ⟨Nat.le_of_ble_eq_true rfl, Nat.le_of_ble_eq_true rfl⟩) hG (g_recv hG (b := 169) (hdm 169 (by decide)) rfl rfl) rfl hl.1 rfl (Nat.le_of_ble_eq_true rfl) dX6_interfere_40 ⟨Nat.zero_le _, Nat.zero_le _⟩ (fun z17 M18 H locs hp_40 hG => ?_)
        obtain ⟨hz_40, hM18⟩ := hp_40; rw [if_pos (by decide)] at hz_40; replace hz_40 := hz_40.symm; subst hz_40
        have hpv_M18_172 : M18 172 = R := Eq.trans (by rw [hM18]; exact wr_off _ _ _ (by decide)) hRM
        have hcd9 : (if ¬ (0 ≤ a ∧ a < q_nd R ∧ 0 ≤ b ∧ b ≤ 5) then (1 : Int) else if q_sa R a.toNat ≠ 1 then 2 else 0) = (2 : Int) := by (repeat' split) <;> first | rfl | omega | (exfalso; omega) | contradiction
        refine z_if_eq (tgt := 48) hx hb (by decide) dX6_interfere_43 (by decide) (fun c_43 => ?_) (fun c_43 => ?_)
        · exfalso; omega
        · skip
          refine lv_iconst (v := iZ 0) hx hb dX6_interfere_46 rfl ?_
          exact g_iret (post := fun z M1 => ((if ¬ (0 ≤ a ∧ a < q_nd R ∧ 0 ≤ b ∧ b ≤ 5) then (1 : Int) else if q_sa R a.toNat ≠ 1 then 2 else 0) = 0 → z = q_sc (q_brk R a.toNat b) a.toNat ∧ q_mz 0 n M M1 ∧ M1 172 = (q_brk R a.toNat b)) ∧ ((if ¬ (0 ≤ a ∧ a < q_nd R ∧ 0 ≤ b ∧ b ≤ 5) then (1 : Int) else if q_sa R a.toNat ≠ 1 then 2 else 0) ≠ 0 → q_ms M M1) ∧ M1 169 0 = (if ¬ (0 ≤ a ∧ a < q_nd R ∧ 0 ≤ b ∧ b ≤ 5) then (1 : Int) else if q_sa R a.toNat ≠ 1 then 2 else 0)) (z := 0) hx hb hr hG hlocks (⟨fun h9 => absurd h9 (by rw [hcd9]; decide), fun _ => (q_mq.rf hM18).2, by rw [hcd9]; exact (q_mq.rf hM18).1⟩) dX6_interfere_47
    · skip
      refine lv_iconst (v := iZ 1) hx hb dX6_interfere_19 rfl ?_
      refine lv_goto (tgt := 40) hx hb dX6_interfere_20 (by decide) ?_
      refine g_callV (b := 169) (As := [.int (iZ 1)]) (rest := []) ⟨hx, hb, hml, hown, hts⟩ (c_X6_refused l G M hdm 1 (by omega)) (cwV 1 hts gX6_interfere_X6_refused rfl rfl rfl (by decide +kernel) ⟨Nat.le_of_ble_eq_true rfl, Nat.le_of_ble_eq_true rfl⟩) hG (g_recv hG (b := 169) (hdm 169 (by decide)) rfl rfl) rfl hl.1 rfl (Nat.le_of_ble_eq_true rfl) dX6_interfere_40 ⟨Nat.zero_le _, Nat.zero_le _⟩ (fun z19 M20 H locs hp_40 hG => ?_)
      obtain ⟨hz_40, hM20⟩ := hp_40; rw [if_pos (by decide)] at hz_40; replace hz_40 := hz_40.symm; subst hz_40
      have hpv_M20_172 : M20 172 = R := Eq.trans (by rw [hM20]; exact wr_off _ _ _ (by decide)) hRM
      have hcd9 : (if ¬ (0 ≤ a ∧ a < q_nd R ∧ 0 ≤ b ∧ b ≤ 5) then (1 : Int) else if q_sa R a.toNat ≠ 1 then 2 else 0) = (1 : Int) := by (repeat' split) <;> first | rfl | omega | (exfalso; omega) | contradiction
      refine z_if_eq (tgt := 48) hx hb (by decide) dX6_interfere_43 (by decide) (fun c_43 => ?_) (fun c_43 => ?_)
      · exfalso; omega
      · skip
        refine lv_iconst (v := iZ 0) hx hb dX6_interfere_46 rfl ?_
        exact g_iret (post := fun z M1 => ((if ¬ (0 ≤ a ∧ a < q_nd R ∧ 0 ≤ b ∧ b ≤ 5) then (1 : Int) else if q_sa R a.toNat ≠ 1 then 2 else 0) = 0 → z = q_sc (q_brk R a.toNat b) a.toNat ∧ q_mz 0 n M M1 ∧ M1 172 = (q_brk R a.toNat b)) ∧ ((if ¬ (0 ≤ a ∧ a < q_nd R ∧ 0 ≤ b ∧ b ≤ 5) then (1 : Int) else if q_sa R a.toNat ≠ 1 then 2 else 0) ≠ 0 → q_ms M M1) ∧ M1 169 0 = (if ¬ (0 ≤ a ∧ a < q_nd R ∧ 0 ≤ b ∧ b ≤ 5) then (1 : Int) else if q_sa R a.toNat ≠ 1 then 2 else 0)) (z := 0) hx hb hr hG hlocks (⟨fun h9 => absurd h9 (by rw [hcd9]; decide), fun _ => (q_mq.rf hM20).2, by rw [hcd9]; exact (q_mq.rf hM20).1⟩) dX6_interfere_47
set_option maxHeartbeats 4000000 in
set_option maxRecDepth 100000 in
theorem c_X6_nextDay (l : Launch) (G : gG) (M : Nat → Nat → Int) (hdm : ∀ k, k < 179 → gdm G k) (R : Nat → Int) (hRM : M 172 = R) (hI : q_inv R) (n : Nat) (hn : n ≤ 14) (hn8 : M 169 8 = (n : Int)) (a : Int) (ha9 : -2147483648 ≤ a ∧ a < 2147483648) : gMi l yX6_nextDay wsX6_nextDay ({ frames := 2, cells := 0, slots := 0, locals := 45 } : Room) G M [.ref (gad G 169), .int (iZ a)] (fun z M1 => ((if 60 ≤ a ∧ a ≤ 600 then (0 : Int) else 1) = 0 → z = (q_nxt R a) 0 ∧ q_mz 0 n M M1 ∧ M1 172 = (q_nxt R a)) ∧ ((if 60 ≤ a ∧ a ≤ 600 then (0 : Int) else 1) ≠ 0 → q_ms M M1) ∧ M1 169 0 = (if 60 ≤ a ∧ a ≤ 600 then (0 : Int) else 1)) := by
  refine gMi_of (cc := cX6_nextDay) (maxL := 2) (ret := some .int) (by decide) rfl (Nat.le_of_ble_eq_true rfl) ?_
  intro p e s m below meth c ls hx hb hr hml hown hts hlocks hl hG
  have hown : s.vm.findClass RX6 = some m.cls := hown
  have hl : lv_has ls 2 [(0, .ref (gad G 169)), (1, .int (iZ a))] := hl
  have hinX6 : ∀ w ∈ u_ws RX6 TX6 13, w ∈ wsX6_nextDay := by decide +kernel
  have f16 := hts (.fieldLink RX6 16 "DogTrialsModel" "now" "[I") (by decide +kernel)
  have hnd := hI.1
  refine lv_aload_n hx hb dX6_nextDay_0 rfl (lv_at hl 0 rfl) ?_
  refine lv_iload_n hx hb dX6_nextDay_1 rfl (lv_at hl 1 rfl) ?_
  refine g_callS (As := [.int (iZ a)]) (rest := [.ref (gad G 169)]) ⟨hx, hb, hml, hown, hts⟩ (c_X6_isSunset l G M a (by omega)) (va_cwS 1 hts gX6_nextDay_X6_isSunset rfl rfl rfl (by decide +kernel) ⟨Nat.le_of_ble_eq_true rfl, Nat.le_of_ble_eq_true rfl⟩) hG rfl hl.1 rfl (Nat.le_of_ble_eq_true rfl) dX6_nextDay_2 ⟨Nat.zero_le _, Nat.zero_le _⟩ (fun z1 M2 H locs hp_2 hG => ?_)
  obtain ⟨hz_2, hM_2⟩ := hp_2; replace hz_2 := hz_2.symm; subst hz_2; replace hM_2 := hM_2.symm; subst hM_2
  refine z_ifP_eq (tgt := 12) hx hb dX6_nextDay_5 (by decide) (fun c_5 => ?_) (fun c_5 => ?_)
  · skip
    refine lv_iconst (v := iZ 1) hx hb dX6_nextDay_12 rfl ?_
    refine g_callV (b := 169) (As := [.int (iZ 1)]) (rest := []) ⟨hx, hb, hml, hown, hts⟩ (c_X6_refused l G M hdm 1 (by omega)) (cwV 1 hts gX6_nextDay_X6_refused rfl rfl rfl (by decide +kernel) ⟨Nat.le_of_ble_eq_true rfl, Nat.le_of_ble_eq_true rfl⟩) hG (g_recv hG (b := 169) (hdm 169 (by decide)) rfl rfl) rfl hl.1 rfl (Nat.le_of_ble_eq_true rfl) dX6_nextDay_13 ⟨Nat.zero_le _, Nat.zero_le _⟩ (fun z3 M4 H locs hp_13 hG => ?_)
    obtain ⟨hz_13, hM4⟩ := hp_13; rw [if_pos (by decide)] at hz_13; replace hz_13 := hz_13.symm; subst hz_13
    have hpv_M4_172 : M4 172 = R := Eq.trans (by rw [hM4]; exact wr_off _ _ _ (by decide)) hRM
    have hcd9 : (if 60 ≤ a ∧ a ≤ 600 then (0 : Int) else 1) = (1 : Int) := by (repeat' split) <;> first | rfl | omega | (exfalso; omega) | contradiction
    refine z_if_eq (tgt := 21) hx hb (by decide) dX6_nextDay_16 (by decide) (fun c_16 => ?_) (fun c_16 => ?_)
    · exfalso; omega
    · skip
      refine lv_iconst (v := iZ 0) hx hb dX6_nextDay_19 rfl ?_
      exact g_iret (post := fun z M1 => ((if 60 ≤ a ∧ a ≤ 600 then (0 : Int) else 1) = 0 → z = (q_nxt R a) 0 ∧ q_mz 0 n M M1 ∧ M1 172 = (q_nxt R a)) ∧ ((if 60 ≤ a ∧ a ≤ 600 then (0 : Int) else 1) ≠ 0 → q_ms M M1) ∧ M1 169 0 = (if 60 ≤ a ∧ a ≤ 600 then (0 : Int) else 1)) (z := 0) hx hb hr hG hlocks (⟨fun h9 => absurd h9 (by rw [hcd9]; decide), fun _ => (q_mq.rf hM4).2, by rw [hcd9]; exact (q_mq.rf hM4).1⟩) dX6_nextDay_20
  · skip
    refine lv_iconst (v := iZ 0) hx hb dX6_nextDay_8 rfl ?_
    refine lv_goto (tgt := 13) hx hb dX6_nextDay_9 (by decide) ?_
    refine g_callV (b := 169) (As := [.int (iZ 0)]) (rest := []) ⟨hx, hb, hml, hown, hts⟩ (c_X6_refused l G M hdm 0 (by omega)) (cwV 1 hts gX6_nextDay_X6_refused rfl rfl rfl (by decide +kernel) ⟨Nat.le_of_ble_eq_true rfl, Nat.le_of_ble_eq_true rfl⟩) hG (g_recv hG (b := 169) (hdm 169 (by decide)) rfl rfl) rfl hl.1 rfl (Nat.le_of_ble_eq_true rfl) dX6_nextDay_13 ⟨Nat.zero_le _, Nat.zero_le _⟩ (fun z5 M6 H locs hp_13 hG => ?_)
    obtain ⟨hz_13, hM6⟩ := hp_13; rw [if_neg (by decide)] at hz_13; replace hz_13 := hz_13.symm; subst hz_13
    have hpv_M6_172 : M6 172 = R := Eq.trans (by rw [hM6]; exact wr_off _ _ _ (by decide)) hRM
    have hcd9 : (if 60 ≤ a ∧ a ≤ 600 then (0 : Int) else 1) = (0 : Int) := by (repeat' split) <;> first | rfl | omega | (exfalso; omega) | contradiction
    refine z_if_eq (tgt := 21) hx hb (by decide) dX6_nextDay_16 (by decide) (fun c_16 => ?_) (fun c_16 => ?_)
    · skip
      refine lv_aload_n hx hb dX6_nextDay_21 rfl (lv_at hl 0 rfl) ?_
      refine g_vcallV (b := 169) (As := []) (rest := []) ⟨hx, hb, hml, hown, hts⟩ (c_X6_note l G M6 hdm n hn ((q_mq.rf hM6).2.2.2.trans hn8)) (cwV 0 hts gX6_nextDay_X6_note rfl rfl rfl (by decide +kernel) ⟨Nat.le_of_ble_eq_true rfl, Nat.le_of_ble_eq_true rfl⟩) hG (g_recv hG (b := 169) (hdm 169 (by decide)) rfl rfl) rfl hl.1 rfl (Nat.le_of_ble_eq_true rfl) dX6_nextDay_22 ⟨Nat.zero_le _, Nat.zero_le _⟩ (fun M8 H locs hp_22 hG => ?_)
      obtain ⟨hnt1_M8, hnt2_M8, hnt3_M8, hnt4_M8, hnt5_M8⟩ := hp_22
      have hpv_M8_172 : M8 172 = R := Eq.trans (hnt4_M8 172 (by decide) (by decide)) hpv_M6_172
      refine lv_aload_n hx hb dX6_nextDay_25 rfl (lv_at hl 0 rfl) ?_
      refine g_get hx hb hts hinX6 hown hG (o := 169) (hdm 169 (by decide)) rfl rfl 5 (by decide) f16 (fun _ h => h) rfl dX6_nextDay_26 ?_
      refine lv_iload_n hx hb dX6_nextDay_29 rfl (lv_at hl 1 rfl) ?_
      refine g_vcallS (As := [.ref (gad G 172), .int (iZ a)]) (rest := []) ⟨hx, hb, hml, hown, hts⟩ (c_X6_nextOn l G M8 hdm 172 (Or.inr (Or.inl rfl)) (by rw [hpv_M8_172]; exact hI) a) (va_cwS 2 hts gX6_nextDay_X6_nextOn rfl rfl rfl (by decide +kernel) ⟨Nat.le_of_ble_eq_true rfl, Nat.le_of_ble_eq_true rfl⟩) hG rfl hl.1 rfl (Nat.le_of_ble_eq_true rfl) dX6_nextDay_30 ⟨Nat.zero_le _, Nat.zero_le _⟩ (fun M10 H locs hp_30 hG => ?_)
      rw [hpv_M8_172] at hp_30
      replace hp_30 : M10 = q_set M8 172 (q_nxt R a) := hp_30
      have hpv_M10_172 : M10 172 = (q_nxt R a) := by rw [hp_30, q_set_at]
      refine lv_aload_n hx hb dX6_nextDay_33 rfl (lv_at hl 0 rfl) ?_
      refine g_get hx hb hts hinX6 hown hG (o := 169) (hdm 169 (by decide)) rfl rfl 5 (by decide) f16 (fun _ h => h) rfl dX6_nextDay_34 ?_
      refine lv_iconst (v := iZ 0) hx hb dX6_nextDay_37 rfl ?_
      refine g_iald (z := ((q_nxt R a) 0)) (j := 0) hx hb hG (o := 172) (hdm 172 (by decide)) rfl (by omega) (by omega) (by omega) (by rw [hpv_M10_172] <;> rfl) dX6_nextDay_38 ?_
      exact g_iret (post := fun z M1 => ((if 60 ≤ a ∧ a ≤ 600 then (0 : Int) else 1) = 0 → z = (q_nxt R a) 0 ∧ q_mz 0 n M M1 ∧ M1 172 = (q_nxt R a)) ∧ ((if 60 ≤ a ∧ a ≤ 600 then (0 : Int) else 1) ≠ 0 → q_ms M M1) ∧ M1 169 0 = (if 60 ≤ a ∧ a ≤ 600 then (0 : Int) else 1)) (z := ((q_nxt R a) 0)) hx hb hr hG hlocks (⟨fun _ => ⟨rfl, (q_mz.pg (q_mz.nt (q_mq.rf hM6) hnt1_M8 hnt2_M8 hnt3_M8 hnt4_M8 hnt5_M8) (fun a h7 h8 => by rw [hp_30]; exact q_set_off _ _ (by assumption))), hpv_M10_172⟩, fun h9 => absurd hcd9 h9, by rw [hcd9]; exact (q_mz.pg (q_mz.nt (q_mq.rf hM6) hnt1_M8 hnt2_M8 hnt3_M8 hnt4_M8 hnt5_M8) (fun a h7 h8 => by rw [hp_30]; exact q_set_off _ _ (by assumption))).1⟩) dX6_nextDay_39
    · exfalso; omega
set_option maxHeartbeats 4000000 in
set_option maxRecDepth 100000 in
theorem c_X6_setDraw (l : Launch) (G : gG) (M : Nat → Nat → Int) (hdm : ∀ k, k < 179 → gdm G k) (R : Nat → Int) (hRM : M 172 = R) (hI : q_inv R) (n : Nat) (hn : n ≤ 14) (hn8 : M 169 8 = (n : Int)) (a : Int) (ha9 : -2147483648 ≤ a ∧ a < 2147483648) (b : Int) (hb9 : -2147483648 ≤ b ∧ b < 2147483648) : gMi l yX6_setDraw wsX6_setDraw ({ frames := 2, cells := 0, slots := 0, locals := 46 } : Room) G M [.ref (gad G 169), .int (iZ a), .int (iZ b)] (fun z M1 => ((if ¬ (0 ≤ a ∧ a < q_nd R) then (1 : Int) else if ¬ (1 ≤ b ∧ b ≤ 99) then 2 else if q_dn R b a (q_nd R).toNat = true then 3 else 0) = 0 → z = q_dr R a.toNat ∧ q_mz 0 n M M1 ∧ M1 172 = (q_sdr R a.toNat b)) ∧ ((if ¬ (0 ≤ a ∧ a < q_nd R) then (1 : Int) else if ¬ (1 ≤ b ∧ b ≤ 99) then 2 else if q_dn R b a (q_nd R).toNat = true then 3 else 0) ≠ 0 → q_ms M M1) ∧ M1 169 0 = (if ¬ (0 ≤ a ∧ a < q_nd R) then (1 : Int) else if ¬ (1 ≤ b ∧ b ≤ 99) then 2 else if q_dn R b a (q_nd R).toNat = true then 3 else 0)) := by
  refine gMi_of (cc := cX6_setDraw) (maxL := 4) (ret := some .int) (by decide) rfl (Nat.le_of_ble_eq_true rfl) ?_
  intro p e s m below meth c ls hx hb hr hml hown hts hlocks hl hG
  have hown : s.vm.findClass RX6 = some m.cls := hown
  have hl : lv_has ls 4 [(0, .ref (gad G 169)), (1, .int (iZ a)), (2, .int (iZ b))] := hl
  have hinX6 : ∀ w ∈ u_ws RX6 TX6 13, w ∈ wsX6_setDraw := by decide +kernel
  have f16 := hts (.fieldLink RX6 16 "DogTrialsModel" "now" "[I") (by decide +kernel)
  have hnd := hI.1
  refine lv_aload_n hx hb dX6_setDraw_0 rfl (lv_at hl 0 rfl) ?_
  refine lv_aload_n hx hb dX6_setDraw_1 rfl (lv_at hl 0 rfl) ?_
  refine g_get hx hb hts hinX6 hown hG (o := 169) (hdm 169 (by decide)) rfl rfl 5 (by decide) f16 (fun _ h => h) rfl dX6_setDraw_2 ?_
  refine lv_iload_n hx hb dX6_setDraw_5 rfl (lv_at hl 1 rfl) ?_
  refine g_callS (As := [.ref (gad G 172), .int (iZ a)]) (rest := [.ref (gad G 169)]) ⟨hx, hb, hml, hown, hts⟩ (c_X6_isDog l G M hdm 172 (Or.inr (Or.inl rfl)) (by rw [hRM]; exact hI) a (by omega)) (va_cwS 2 hts gX6_setDraw_X6_isDog rfl rfl rfl (by decide +kernel) ⟨Nat.le_of_ble_eq_true rfl, Nat.le_of_ble_eq_true rfl⟩) hG rfl hl.1 rfl (Nat.le_of_ble_eq_true rfl) dX6_setDraw_6 ⟨Nat.zero_le _, Nat.zero_le _⟩ (fun z1 M2 H locs hp_6 hG => ?_)
  rw [hRM] at hp_6
  obtain ⟨hz_6, hM_6⟩ := hp_6; replace hz_6 := hz_6.symm; subst hz_6; replace hM_6 := hM_6.symm; subst hM_6
  refine z_ifP_ne (tgt := 16) hx hb dX6_setDraw_9 (by decide) (fun c_9 => ?_) (fun c_9 => ?_)
  · skip
    refine lv_iload_n hx hb dX6_setDraw_16 rfl (lv_at hl 2 rfl) ?_
    refine z_i2l hx hb (by omega) dX6_setDraw_17 ?_
    refine lv_lconst (v := lZ 1) hx hb dX6_setDraw_18 rfl ?_
    refine lv_ldc2 (v := lZ 99) hx hb hown (by rw [show lZ 99 = (99 : Int64) from by decide]; exact hts (.constantLong RX6 114 99) (by decide +kernel)) dX6_setDraw_19 ?_
    refine g_callS (As := [.long (lZ b), .long (lZ 1), .long (lZ 99)]) (rest := [.ref (gad G 169)]) ⟨hx, hb, hml, hown, hts⟩ (c_X6_in l G M b 1 99 (by omega) (by omega) (by omega)) (va_cwS 3 hts gX6_setDraw_X6_in rfl rfl rfl (by decide +kernel) ⟨Nat.le_of_ble_eq_true rfl, Nat.le_of_ble_eq_true rfl⟩) hG rfl hl.1 rfl (Nat.le_of_ble_eq_true rfl) dX6_setDraw_22 ⟨Nat.zero_le _, Nat.zero_le _⟩ (fun z3 M4 H locs hp_22 hG => ?_)
    obtain ⟨hz_22, hM_22⟩ := hp_22; replace hz_22 := hz_22.symm; subst hz_22; replace hM_22 := hM_22.symm; subst hM_22
    refine z_ifP_ne (tgt := 32) hx hb dX6_setDraw_25 (by decide) (fun c_25 => ?_) (fun c_25 => ?_)
    · skip
      refine lv_aload_n hx hb dX6_setDraw_32 rfl (lv_at hl 0 rfl) ?_
      refine g_get hx hb hts hinX6 hown hG (o := 169) (hdm 169 (by decide)) rfl rfl 5 (by decide) f16 (fun _ h => h) rfl dX6_setDraw_33 ?_
      refine lv_iload_n hx hb dX6_setDraw_36 rfl (lv_at hl 2 rfl) ?_
      refine lv_iload_n hx hb dX6_setDraw_37 rfl (lv_at hl 1 rfl) ?_
      refine g_callS (As := [.ref (gad G 172), .int (iZ b), .int (iZ a)]) (rest := [.ref (gad G 169)]) ⟨hx, hb, hml, hown, hts⟩ (c_X6_isDrawn l G M hdm 172 (Or.inr (Or.inl rfl)) (by rw [hRM]; exact hI) b a (by omega) (by omega)) (va_cwS 3 hts gX6_setDraw_X6_isDrawn rfl rfl rfl (by decide +kernel) ⟨Nat.le_of_ble_eq_true rfl, Nat.le_of_ble_eq_true rfl⟩) hG rfl hl.1 rfl (Nat.le_of_ble_eq_true rfl) dX6_setDraw_38 ⟨Nat.zero_le _, Nat.zero_le _⟩ (fun z5 M6 H locs hp_38 hG => ?_)
      rw [hRM] at hp_38
      obtain ⟨hz_38, hM_38⟩ := hp_38; replace hz_38 := hz_38.symm; subst hz_38; replace hM_38 := hM_38.symm; subst hM_38
      refine z_ifP_eq (tgt := 48) hx hb dX6_setDraw_41 (by decide) (fun c_41 => ?_) (fun c_41 => ?_)
      · skip
        refine lv_iconst (v := iZ 0) hx hb dX6_setDraw_48 rfl ?_
        refine g_callV (b := 169) (As := [.int (iZ 0)]) (rest := []) ⟨hx, hb, hml, hown, hts⟩ (c_X6_refused l G M hdm 0 (by omega)) (cwV 1 hts gX6_setDraw_X6_refused rfl rfl rfl (by decide +kernel) ⟨Nat.le_of_ble_eq_true rfl, Nat.le_of_ble_eq_true rfl⟩) hG (g_recv hG (b := 169) (hdm 169 (by decide)) rfl rfl) rfl hl.1 rfl (Nat.le_of_ble_eq_true rfl) dX6_setDraw_49 ⟨Nat.zero_le _, Nat.zero_le _⟩ (fun z7 M8 H locs hp_49 hG => ?_)
        obtain ⟨hz_49, hM8⟩ := hp_49; rw [if_neg (by decide)] at hz_49; replace hz_49 := hz_49.symm; subst hz_49
        have hpv_M8_172 : M8 172 = R := Eq.trans (by rw [hM8]; exact wr_off _ _ _ (by decide)) hRM
        have hcd9 : (if ¬ (0 ≤ a ∧ a < q_nd R) then (1 : Int) else if ¬ (1 ≤ b ∧ b ≤ 99) then 2 else if q_dn R b a (q_nd R).toNat = true then 3 else 0) = (0 : Int) := by rw [if_neg (by omega), if_neg (by omega), if_neg (by assumption)]
        refine z_if_eq (tgt := 57) hx hb (by decide) dX6_setDraw_52 (by decide) (fun c_52 => ?_) (fun c_52 => ?_)
        · skip
          have hna : a = ((a.toNat : Nat) : Int) := by omega
          have hdo := dok5 hI a.toNat (by omega)
          refine lv_aload_n hx hb dX6_setDraw_57 rfl (lv_at hl 0 rfl) ?_
          refine g_vcallV (b := 169) (As := []) (rest := []) ⟨hx, hb, hml, hown, hts⟩ (c_X6_note l G M8 hdm n hn ((q_mq.rf hM8).2.2.2.trans hn8)) (cwV 0 hts gX6_setDraw_X6_note rfl rfl rfl (by decide +kernel) ⟨Nat.le_of_ble_eq_true rfl, Nat.le_of_ble_eq_true rfl⟩) hG (g_recv hG (b := 169) (hdm 169 (by decide)) rfl rfl) rfl hl.1 rfl (Nat.le_of_ble_eq_true rfl) dX6_setDraw_58 ⟨Nat.zero_le _, Nat.zero_le _⟩ (fun M10 H locs hp_58 hG => ?_)
          obtain ⟨hnt1_M10, hnt2_M10, hnt3_M10, hnt4_M10, hnt5_M10⟩ := hp_58
          have hpv_M10_172 : M10 172 = R := Eq.trans (hnt4_M10 172 (by decide) (by decide)) hpv_M8_172
          refine lv_aload_n hx hb dX6_setDraw_61 rfl (lv_at hl 0 rfl) ?_
          refine g_get hx hb hts hinX6 hown hG (o := 169) (hdm 169 (by decide)) rfl rfl 5 (by decide) f16 (fun _ h => h) rfl dX6_setDraw_62 ?_
          refine lv_iload_n hx hb dX6_setDraw_65 rfl (lv_at hl 1 rfl) ?_
          refine g_callS (As := [.int (iZ ((a.toNat) : Int))]) (rest := [.ref (gad G 172)]) ⟨hx, hb, hml, hown, hts⟩ (c_X6_dogAt l G M10 ((a.toNat) : Int)) (va_cwS 1 hts gX6_setDraw_X6_dogAt rfl rfl rfl (by decide +kernel) ⟨Nat.le_of_ble_eq_true rfl, Nat.le_of_ble_eq_true rfl⟩) hG rfl hl.1 (by rw [← hna]; rfl) (Nat.le_of_ble_eq_true rfl) dX6_setDraw_66 ⟨Nat.zero_le _, Nat.zero_le _⟩ (fun z11 M12 H locs hp_66 hG => ?_)
          obtain ⟨hz_66, hM_66⟩ := hp_66; replace hz_66 := hz_66.symm; subst hz_66; replace hM_66 := hM_66.symm; subst hM_66
          rw [show (14 + 11 * ((a.toNat) : Int) : Int) = (11 * ((a.toNat) : Int) + 14) from by omega]
          refine lv_iconst (v := iZ 1) hx hb dX6_setDraw_69 rfl ?_
          refine z_iadd (z := (11 * ((a.toNat) : Int) + 15)) hx hb (by omega) dX6_setDraw_70 ?_
          refine g_iald (z := (q_dr R ((a.toNat)))) (j := (14 + 11 * ((a.toNat)) + 1)) hx hb hG (o := 172) (hdm 172 (by decide)) rfl (by omega) (by omega) (by omega) (by rw [hpv_M10_172] <;> rfl) dX6_setDraw_71 ?_
          refine lv_istore_n (lv' := [(3, .int (iZ (q_dr R ((a.toNat))))), (0, .ref (gad G 169)), (1, .int (iZ a)), (2, .int (iZ b))]) hx hb dX6_setDraw_72 rfl hl (by decide) rfl (fun ls hl => ?_)
          refine lv_aload_n hx hb dX6_setDraw_73 rfl (lv_at hl 1 rfl) ?_
          refine g_get hx hb hts hinX6 hown hG (o := 169) (hdm 169 (by decide)) rfl rfl 5 (by decide) f16 (fun _ h => h) rfl dX6_setDraw_74 ?_
          refine lv_iload_n hx hb dX6_setDraw_77 rfl (lv_at hl 2 rfl) ?_
          refine g_callS (As := [.int (iZ ((a.toNat) : Int))]) (rest := [.ref (gad G 172)]) ⟨hx, hb, hml, hown, hts⟩ (c_X6_dogAt l G M10 ((a.toNat) : Int)) (va_cwS 1 hts gX6_setDraw_X6_dogAt rfl rfl rfl (by decide +kernel) ⟨Nat.le_of_ble_eq_true rfl, Nat.le_of_ble_eq_true rfl⟩) hG rfl hl.1 (by rw [← hna]; rfl) (Nat.le_of_ble_eq_true rfl) dX6_setDraw_78 ⟨Nat.zero_le _, Nat.zero_le _⟩ (fun z13 M14 H locs hp_78 hG => ?_)
          obtain ⟨hz_78, hM_78⟩ := hp_78; replace hz_78 := hz_78.symm; subst hz_78; replace hM_78 := hM_78.symm; subst hM_78
          rw [show (14 + 11 * ((a.toNat) : Int) : Int) = (11 * ((a.toNat) : Int) + 14) from by omega]
          refine lv_iconst (v := iZ 1) hx hb dX6_setDraw_81 rfl ?_
          refine z_iadd (z := (11 * ((a.toNat) : Int) + 15)) hx hb (by omega) dX6_setDraw_82 ?_
          refine lv_iload_n hx hb dX6_setDraw_83 rfl (lv_at hl 3 rfl) ?_
          refine g_iast (j := (14 + 11 * ((a.toNat)) + 1)) hx hb hG (o := 172) (hdm 172 (by decide)) (fun f => rfl) (by omega) (by omega) (by omega) dX6_setDraw_84 (fun H locs hG => ?_)
          obtain ⟨M15, hM15⟩ : ∃ X, X = (q_wr M10 172 (14 + 11 * ((a.toNat)) + 1) b) := ⟨_, rfl⟩
          rw [← hM15] at hG
          have hpg9 : M15 172 = (q_sdr R a.toNat b) := by rw [hM15, wr_at, hpv_M10_172]; rfl
          refine lv_iload_n hx hb dX6_setDraw_85 rfl (lv_at hl 0 rfl) ?_
          exact g_iret (post := fun z M1 => ((if ¬ (0 ≤ a ∧ a < q_nd R) then (1 : Int) else if ¬ (1 ≤ b ∧ b ≤ 99) then 2 else if q_dn R b a (q_nd R).toNat = true then 3 else 0) = 0 → z = q_dr R a.toNat ∧ q_mz 0 n M M1 ∧ M1 172 = (q_sdr R a.toNat b)) ∧ ((if ¬ (0 ≤ a ∧ a < q_nd R) then (1 : Int) else if ¬ (1 ≤ b ∧ b ≤ 99) then 2 else if q_dn R b a (q_nd R).toNat = true then 3 else 0) ≠ 0 → q_ms M M1) ∧ M1 169 0 = (if ¬ (0 ≤ a ∧ a < q_nd R) then (1 : Int) else if ¬ (1 ≤ b ∧ b ≤ 99) then 2 else if q_dn R b a (q_nd R).toNat = true then 3 else 0)) (z := (q_dr R ((a.toNat)))) hx hb hr hG hlocks (⟨fun _ => ⟨rfl, (q_mz.pg (q_mz.nt (q_mq.rf hM8) hnt1_M10 hnt2_M10 hnt3_M10 hnt4_M10 hnt5_M10) (fun a h7 h8 => by rw [hM15]; exact wr_off _ _ _ (by assumption))), hpg9⟩, fun h9 => absurd hcd9 h9, by rw [hcd9]; exact (q_mz.pg (q_mz.nt (q_mq.rf hM8) hnt1_M10 hnt2_M10 hnt3_M10 hnt4_M10 hnt5_M10) (fun a h7 h8 => by rw [hM15]; exact wr_off _ _ _ (by assumption))).1⟩) dX6_setDraw_86
        · exfalso; omega
      · skip
        refine lv_iconst (v := iZ 3) hx hb dX6_setDraw_44 rfl ?_
        refine lv_goto (tgt := 49) hx hb dX6_setDraw_45 (by decide) ?_
        refine g_callV (b := 169) (As := [.int (iZ 3)]) (rest := []) ⟨hx, hb, hml, hown, hts⟩ (c_X6_refused l G M hdm 3 (by omega)) (cwV 1 hts gX6_setDraw_X6_refused rfl rfl rfl (by decide +kernel) ⟨Nat.le_of_ble_eq_true rfl, Nat.le_of_ble_eq_true rfl⟩) hG (g_recv hG (b := 169) (hdm 169 (by decide)) rfl rfl) rfl hl.1 rfl (Nat.le_of_ble_eq_true rfl) dX6_setDraw_49 ⟨Nat.zero_le _, Nat.zero_le _⟩ (fun z16 M17 H locs hp_49 hG => ?_)
        obtain ⟨hz_49, hM17⟩ := hp_49; rw [if_pos (by decide)] at hz_49; replace hz_49 := hz_49.symm; subst hz_49
        have hpv_M17_172 : M17 172 = R := Eq.trans (by rw [hM17]; exact wr_off _ _ _ (by decide)) hRM
        have hcd9 : (if ¬ (0 ≤ a ∧ a < q_nd R) then (1 : Int) else if ¬ (1 ≤ b ∧ b ≤ 99) then 2 else if q_dn R b a (q_nd R).toNat = true then 3 else 0) = (3 : Int) := by rw [if_neg (by omega), if_neg (by omega), if_pos (by assumption)]
        refine z_if_eq (tgt := 57) hx hb (by decide) dX6_setDraw_52 (by decide) (fun c_52 => ?_) (fun c_52 => ?_)
        · exfalso; omega
        · skip
          refine lv_iconst (v := iZ 0) hx hb dX6_setDraw_55 rfl ?_
          exact g_iret (post := fun z M1 => ((if ¬ (0 ≤ a ∧ a < q_nd R) then (1 : Int) else if ¬ (1 ≤ b ∧ b ≤ 99) then 2 else if q_dn R b a (q_nd R).toNat = true then 3 else 0) = 0 → z = q_dr R a.toNat ∧ q_mz 0 n M M1 ∧ M1 172 = (q_sdr R a.toNat b)) ∧ ((if ¬ (0 ≤ a ∧ a < q_nd R) then (1 : Int) else if ¬ (1 ≤ b ∧ b ≤ 99) then 2 else if q_dn R b a (q_nd R).toNat = true then 3 else 0) ≠ 0 → q_ms M M1) ∧ M1 169 0 = (if ¬ (0 ≤ a ∧ a < q_nd R) then (1 : Int) else if ¬ (1 ≤ b ∧ b ≤ 99) then 2 else if q_dn R b a (q_nd R).toNat = true then 3 else 0)) (z := 0) hx hb hr hG hlocks (⟨fun h9 => absurd h9 (by rw [hcd9]; decide), fun _ => (q_mq.rf hM17).2, by rw [hcd9]; exact (q_mq.rf hM17).1⟩) dX6_setDraw_56
    · skip
      refine lv_iconst (v := iZ 2) hx hb dX6_setDraw_28 rfl ?_
      refine lv_goto (tgt := 49) hx hb dX6_setDraw_29 (by decide) ?_
      refine g_callV (b := 169) (As := [.int (iZ 2)]) (rest := []) ⟨hx, hb, hml, hown, hts⟩ (c_X6_refused l G M hdm 2 (by omega)) (cwV 1 hts gX6_setDraw_X6_refused rfl rfl rfl (by decide +kernel) ⟨Nat.le_of_ble_eq_true rfl, Nat.le_of_ble_eq_true rfl⟩) hG (g_recv hG (b := 169) (hdm 169 (by decide)) rfl rfl) rfl hl.1 rfl (Nat.le_of_ble_eq_true rfl) dX6_setDraw_49 ⟨Nat.zero_le _, Nat.zero_le _⟩ (fun z18 M19 H locs hp_49 hG => ?_)
      obtain ⟨hz_49, hM19⟩ := hp_49; rw [if_pos (by decide)] at hz_49; replace hz_49 := hz_49.symm; subst hz_49
      have hpv_M19_172 : M19 172 = R := Eq.trans (by rw [hM19]; exact wr_off _ _ _ (by decide)) hRM
      have hcd9 : (if ¬ (0 ≤ a ∧ a < q_nd R) then (1 : Int) else if ¬ (1 ≤ b ∧ b ≤ 99) then 2 else if q_dn R b a (q_nd R).toNat = true then 3 else 0) = (2 : Int) := by rw [if_neg (by omega), if_pos (by omega)]
      refine z_if_eq (tgt := 57) hx hb (by decide) dX6_setDraw_52 (by decide) (fun c_52 => ?_) (fun c_52 => ?_)
      · exfalso; omega
      · skip
        refine lv_iconst (v := iZ 0) hx hb dX6_setDraw_55 rfl ?_
        exact g_iret (post := fun z M1 => ((if ¬ (0 ≤ a ∧ a < q_nd R) then (1 : Int) else if ¬ (1 ≤ b ∧ b ≤ 99) then 2 else if q_dn R b a (q_nd R).toNat = true then 3 else 0) = 0 → z = q_dr R a.toNat ∧ q_mz 0 n M M1 ∧ M1 172 = (q_sdr R a.toNat b)) ∧ ((if ¬ (0 ≤ a ∧ a < q_nd R) then (1 : Int) else if ¬ (1 ≤ b ∧ b ≤ 99) then 2 else if q_dn R b a (q_nd R).toNat = true then 3 else 0) ≠ 0 → q_ms M M1) ∧ M1 169 0 = (if ¬ (0 ≤ a ∧ a < q_nd R) then (1 : Int) else if ¬ (1 ≤ b ∧ b ≤ 99) then 2 else if q_dn R b a (q_nd R).toNat = true then 3 else 0)) (z := 0) hx hb hr hG hlocks (⟨fun h9 => absurd h9 (by rw [hcd9]; decide), fun _ => (q_mq.rf hM19).2, by rw [hcd9]; exact (q_mq.rf hM19).1⟩) dX6_setDraw_56
  · skip
    refine lv_iconst (v := iZ 1) hx hb dX6_setDraw_12 rfl ?_
    refine lv_goto (tgt := 49) hx hb dX6_setDraw_13 (by decide) ?_
    refine g_callV (b := 169) (As := [.int (iZ 1)]) (rest := []) ⟨hx, hb, hml, hown, hts⟩ (c_X6_refused l G M hdm 1 (by omega)) (cwV 1 hts gX6_setDraw_X6_refused rfl rfl rfl (by decide +kernel) ⟨Nat.le_of_ble_eq_true rfl, Nat.le_of_ble_eq_true rfl⟩) hG (g_recv hG (b := 169) (hdm 169 (by decide)) rfl rfl) rfl hl.1 rfl (Nat.le_of_ble_eq_true rfl) dX6_setDraw_49 ⟨Nat.zero_le _, Nat.zero_le _⟩ (fun z20 M21 H locs hp_49 hG => ?_)
    obtain ⟨hz_49, hM21⟩ := hp_49; rw [if_pos (by decide)] at hz_49; replace hz_49 := hz_49.symm; subst hz_49
    have hpv_M21_172 : M21 172 = R := Eq.trans (by rw [hM21]; exact wr_off _ _ _ (by decide)) hRM
    have hcd9 : (if ¬ (0 ≤ a ∧ a < q_nd R) then (1 : Int) else if ¬ (1 ≤ b ∧ b ≤ 99) then 2 else if q_dn R b a (q_nd R).toNat = true then 3 else 0) = (1 : Int) := by (repeat' split) <;> first | rfl | omega | (exfalso; omega) | contradiction
    refine z_if_eq (tgt := 57) hx hb (by decide) dX6_setDraw_52 (by decide) (fun c_52 => ?_) (fun c_52 => ?_)
    · exfalso; omega
    · skip
      refine lv_iconst (v := iZ 0) hx hb dX6_setDraw_55 rfl ?_
      exact g_iret (post := fun z M1 => ((if ¬ (0 ≤ a ∧ a < q_nd R) then (1 : Int) else if ¬ (1 ≤ b ∧ b ≤ 99) then 2 else if q_dn R b a (q_nd R).toNat = true then 3 else 0) = 0 → z = q_dr R a.toNat ∧ q_mz 0 n M M1 ∧ M1 172 = (q_sdr R a.toNat b)) ∧ ((if ¬ (0 ≤ a ∧ a < q_nd R) then (1 : Int) else if ¬ (1 ≤ b ∧ b ≤ 99) then 2 else if q_dn R b a (q_nd R).toNat = true then 3 else 0) ≠ 0 → q_ms M M1) ∧ M1 169 0 = (if ¬ (0 ≤ a ∧ a < q_nd R) then (1 : Int) else if ¬ (1 ≤ b ∧ b ≤ 99) then 2 else if q_dn R b a (q_nd R).toNat = true then 3 else 0)) (z := 0) hx hb hr hG hlocks (⟨fun h9 => absurd h9 (by rw [hcd9]; decide), fun _ => (q_mq.rf hM21).2, by rw [hcd9]; exact (q_mq.rf hM21).1⟩) dX6_setDraw_56
set_option maxHeartbeats 4000000 in
set_option maxRecDepth 100000 in
theorem c_X6_run (l : Launch) (G : gG) (M : Nat → Nat → Int) (hdm : ∀ k, k < 179 → gdm G k) (R : Nat → Int) (hRM : M 172 = R) (hI : q_inv R) (n : Nat) (hn : n ≤ 14) (hn8 : M 169 8 = (n : Int)) (v : Int) (hv9 : -9223372036854775808 ≤ v ∧ v < 9223372036854775808) (b : Int) (hb9 : -2147483648 ≤ b ∧ b < 2147483648) : gMi l yX6_run wsX6_run ({ frames := 5, cells := 0, slots := 0, locals := 113 } : Room) G M [.ref (gad G 169), .long (lZ v), .int (iZ b)] (fun z M1 => ((if ¬ (q_ptb v 6 = true ∧ 1 ≤ b ∧ b ≤ 30) then (1 : Int) else if q_ob R ≠ 0 then 2 else 0) = 0 → z = (if q_rz R b = 1 then q_sc (q_rno R (q_first R).toNat b (q_dig v)) (q_first R).toNat else -9) ∧ q_mz 0 n M M1 ∧ M1 172 = ((q_rno R (q_first R).toNat b (q_dig v)))) ∧ ((if ¬ (q_ptb v 6 = true ∧ 1 ≤ b ∧ b ≤ 30) then (1 : Int) else if q_ob R ≠ 0 then 2 else 0) ≠ 0 → q_ms M M1) ∧ M1 169 0 = (if ¬ (q_ptb v 6 = true ∧ 1 ≤ b ∧ b ≤ 30) then (1 : Int) else if q_ob R ≠ 0 then 2 else 0)) := by
  refine gMi_of (cc := cX6_run) (maxL := 5) (ret := some .int) (by decide) rfl (Nat.le_of_ble_eq_true rfl) ?_
  intro p e s m below meth c ls hx hb hr hml hown hts hlocks hl hG
  have hown : s.vm.findClass RX6 = some m.cls := hown
  have hl : lv_has ls 5 [(0, .ref (gad G 169)), (1, .long (lZ v)), (3, .int (iZ b))] := hl
  have hinX6 : ∀ w ∈ u_ws RX6 TX6 13, w ∈ wsX6_run := by decide +kernel
  have f16 := hts (.fieldLink RX6 16 "DogTrialsModel" "now" "[I") (by decide +kernel)
  have hnd := hI.1
  have hob0 := q_ob_in R
  refine lv_aload_n hx hb dX6_run_0 rfl (lv_at hl 0 rfl) ?_
  refine lv_lload_n hx hb dX6_run_1 rfl (lv_at hl 1 rfl) ?_
  refine g_callS (As := [.long (lZ v)]) (rest := [.ref (gad G 169)]) ⟨hx, hb, hml, hown, hts⟩ (c_X6_arePoints l G M v (by omega)) (va_cwS 1 hts gX6_run_X6_arePoints rfl rfl rfl (by decide +kernel) ⟨Nat.le_of_ble_eq_true rfl, Nat.le_of_ble_eq_true rfl⟩) hG rfl hl.1 rfl (Nat.le_of_ble_eq_true rfl) dX6_run_2 ⟨Nat.zero_le _, Nat.zero_le _⟩ (fun z1 M2 H locs hp_2 hG => ?_)
  obtain ⟨hz_2, hM_2⟩ := hp_2; replace hz_2 := hz_2.symm; subst hz_2; replace hM_2 := hM_2.symm; subst hM_2
  refine z_ifP_eq (tgt := 20) hx hb dX6_run_5 (by decide) (fun c_5 => ?_) (fun c_5 => ?_)
  · skip
    refine lv_iconst (v := iZ 1) hx hb dX6_run_20 rfl ?_
    refine lv_goto (tgt := 39) hx hb dX6_run_21 (by decide) ?_
    refine g_callV (b := 169) (As := [.int (iZ 1)]) (rest := []) ⟨hx, hb, hml, hown, hts⟩ (c_X6_refused l G M hdm 1 (by omega)) (cwV 1 hts gX6_run_X6_refused rfl rfl rfl (by decide +kernel) ⟨Nat.le_of_ble_eq_true rfl, Nat.le_of_ble_eq_true rfl⟩) hG (g_recv hG (b := 169) (hdm 169 (by decide)) rfl rfl) rfl hl.1 rfl (Nat.le_of_ble_eq_true rfl) dX6_run_39 ⟨Nat.zero_le _, Nat.zero_le _⟩ (fun z3 M4 H locs hp_39 hG => ?_)
    obtain ⟨hz_39, hM4⟩ := hp_39; rw [if_pos (by decide)] at hz_39; replace hz_39 := hz_39.symm; subst hz_39
    have hpv_M4_172 : M4 172 = R := Eq.trans (by rw [hM4]; exact wr_off _ _ _ (by decide)) hRM
    have hcd9 : (if ¬ (q_ptb v 6 = true ∧ 1 ≤ b ∧ b ≤ 30) then (1 : Int) else if q_ob R ≠ 0 then 2 else 0) = (1 : Int) := if_pos (fun h9 => by first | exact absurd h9.1 (by assumption) | (have h8 := h9.2; omega))
    refine z_if_eq (tgt := 47) hx hb (by decide) dX6_run_42 (by decide) (fun c_42 => ?_) (fun c_42 => ?_)
    · exfalso; omega
    · skip
      refine lv_iconst (v := iZ 0) hx hb dX6_run_45 rfl ?_
      exact g_iret (post := fun z M1 => ((if ¬ (q_ptb v 6 = true ∧ 1 ≤ b ∧ b ≤ 30) then (1 : Int) else if q_ob R ≠ 0 then 2 else 0) = 0 → z = (if q_rz R b = 1 then q_sc (q_rno R (q_first R).toNat b (q_dig v)) (q_first R).toNat else -9) ∧ q_mz 0 n M M1 ∧ M1 172 = ((q_rno R (q_first R).toNat b (q_dig v)))) ∧ ((if ¬ (q_ptb v 6 = true ∧ 1 ≤ b ∧ b ≤ 30) then (1 : Int) else if q_ob R ≠ 0 then 2 else 0) ≠ 0 → q_ms M M1) ∧ M1 169 0 = (if ¬ (q_ptb v 6 = true ∧ 1 ≤ b ∧ b ≤ 30) then (1 : Int) else if q_ob R ≠ 0 then 2 else 0)) (z := 0) hx hb hr hG hlocks (⟨fun h9 => absurd h9 (by rw [hcd9]; decide), fun _ => (q_mq.rf hM4).2, by rw [hcd9]; exact (q_mq.rf hM4).1⟩) dX6_run_46
  · skip
    refine lv_iload_n hx hb dX6_run_8 rfl (lv_at hl 2 rfl) ?_
    refine z_i2l hx hb (by omega) dX6_run_9 ?_
    refine lv_lconst (v := lZ 1) hx hb dX6_run_10 rfl ?_
    refine lv_ldc2 (v := lZ 30) hx hb hown (by rw [show lZ 30 = (30 : Int64) from by decide]; exact hts (.constantLong RX6 187 30) (by decide +kernel)) dX6_run_11 ?_
    refine g_callS (As := [.long (lZ b), .long (lZ 1), .long (lZ 30)]) (rest := [.ref (gad G 169)]) ⟨hx, hb, hml, hown, hts⟩ (c_X6_in l G M b 1 30 (by omega) (by omega) (by omega)) (va_cwS 3 hts gX6_run_X6_in rfl rfl rfl (by decide +kernel) ⟨Nat.le_of_ble_eq_true rfl, Nat.le_of_ble_eq_true rfl⟩) hG rfl hl.1 rfl (Nat.le_of_ble_eq_true rfl) dX6_run_14 ⟨Nat.zero_le _, Nat.zero_le _⟩ (fun z5 M6 H locs hp_14 hG => ?_)
    obtain ⟨hz_14, hM_14⟩ := hp_14; replace hz_14 := hz_14.symm; subst hz_14; replace hM_14 := hM_14.symm; subst hM_14
    refine z_ifP_ne (tgt := 24) hx hb dX6_run_17 (by decide) (fun c_17 => ?_) (fun c_17 => ?_)
    · skip
      refine lv_aload_n hx hb dX6_run_24 rfl (lv_at hl 0 rfl) ?_
      refine g_get hx hb hts hinX6 hown hG (o := 169) (hdm 169 (by decide)) rfl rfl 5 (by decide) f16 (fun _ h => h) rfl dX6_run_25 ?_
      refine g_callS (As := [.ref (gad G 172)]) (rest := [.ref (gad G 169)]) ⟨hx, hb, hml, hown, hts⟩ (c_X6_why l G M hdm 172 (Or.inr (Or.inl rfl)) (by rw [hRM]; exact hI)) (va_cwS 1 hts gX6_run_X6_why rfl rfl rfl (by decide +kernel) ⟨Nat.le_of_ble_eq_true rfl, Nat.le_of_ble_eq_true rfl⟩) hG rfl hl.1 rfl (Nat.le_of_ble_eq_true rfl) dX6_run_28 ⟨Nat.zero_le _, Nat.zero_le _⟩ (fun z7 M8 H locs hp_28 hG => ?_)
      rw [hRM] at hp_28
      obtain ⟨hz_28, hM_28⟩ := hp_28; replace hz_28 := hz_28.symm; subst hz_28; replace hM_28 := hM_28.symm; subst hM_28
      refine z_if_eq (tgt := 38) hx hb (by omega) dX6_run_31 (by decide) (fun c_31 => ?_) (fun c_31 => ?_)
      · skip
        refine lv_iconst (v := iZ 0) hx hb dX6_run_38 rfl ?_
        refine g_callV (b := 169) (As := [.int (iZ 0)]) (rest := []) ⟨hx, hb, hml, hown, hts⟩ (c_X6_refused l G M hdm 0 (by omega)) (cwV 1 hts gX6_run_X6_refused rfl rfl rfl (by decide +kernel) ⟨Nat.le_of_ble_eq_true rfl, Nat.le_of_ble_eq_true rfl⟩) hG (g_recv hG (b := 169) (hdm 169 (by decide)) rfl rfl) rfl hl.1 rfl (Nat.le_of_ble_eq_true rfl) dX6_run_39 ⟨Nat.zero_le _, Nat.zero_le _⟩ (fun z9 M10 H locs hp_39 hG => ?_)
        obtain ⟨hz_39, hM10⟩ := hp_39; rw [if_neg (by decide)] at hz_39; replace hz_39 := hz_39.symm; subst hz_39
        have hpv_M10_172 : M10 172 = R := Eq.trans (by rw [hM10]; exact wr_off _ _ _ (by decide)) hRM
        have hcd9 : (if ¬ (q_ptb v 6 = true ∧ 1 ≤ b ∧ b ≤ 30) then (1 : Int) else if q_ob R ≠ 0 then 2 else 0) = (0 : Int) := by rw [if_neg (fun h9 => h9 ⟨by assumption, by omega⟩), if_neg (by omega)]
        refine z_if_eq (tgt := 47) hx hb (by decide) dX6_run_42 (by decide) (fun c_42 => ?_) (fun c_42 => ?_)
        · skip
          have hpt9 : q_pts v := (q_ptb_pts v).mp (by assumption)
          have hpv9 := hpt9.1
          have hfi := q_first_in hI (q_ob_wait (by omega))
          have hfn : q_first R = (((q_first R).toNat : Nat) : Int) := by omega
          have hI1 : q_inv (q_rno R (q_first R).toNat b (q_dig v)) := inv_rno hI (by omega) (by omega) (fun p hp => ⟨(q_dig_in v p).1, hpt9.2 p hp⟩)
          have hnd1 := q_rno_nd R (q_first R).toNat b (q_dig v)
          have hrz9 := q_rz_in R b
          refine lv_aload_n hx hb dX6_run_47 rfl (lv_at hl 0 rfl) ?_
          refine g_vcallV (b := 169) (As := []) (rest := []) ⟨hx, hb, hml, hown, hts⟩ (c_X6_note l G M10 hdm n hn ((q_mq.rf hM10).2.2.2.trans hn8)) (cwV 0 hts gX6_run_X6_note rfl rfl rfl (by decide +kernel) ⟨Nat.le_of_ble_eq_true rfl, Nat.le_of_ble_eq_true rfl⟩) hG (g_recv hG (b := 169) (hdm 169 (by decide)) rfl rfl) rfl hl.1 rfl (Nat.le_of_ble_eq_true rfl) dX6_run_48 ⟨Nat.zero_le _, Nat.zero_le _⟩ (fun M12 H locs hp_48 hG => ?_)
          obtain ⟨hnt1_M12, hnt2_M12, hnt3_M12, hnt4_M12, hnt5_M12⟩ := hp_48
          have hpv_M12_172 : M12 172 = R := Eq.trans (hnt4_M12 172 (by decide) (by decide)) hpv_M10_172
          refine lv_aload_n hx hb dX6_run_51 rfl (lv_at hl 0 rfl) ?_
          refine lv_aload_n hx hb dX6_run_52 rfl (lv_at hl 0 rfl) ?_
          refine g_get hx hb hts hinX6 hown hG (o := 169) (hdm 169 (by decide)) rfl rfl 5 (by decide) f16 (fun _ h => h) rfl dX6_run_53 ?_
          refine g_callV (b := 169) (As := [.ref (gad G 172)]) (rest := []) ⟨hx, hb, hml, hown, hts⟩ (c_X6_firstOf l G M12 hdm 172 (Or.inr (Or.inl rfl)) (by rw [hpv_M12_172]; exact hI)) (cwV 1 hts gX6_run_X6_firstOf rfl rfl rfl (by decide +kernel) ⟨Nat.le_of_ble_eq_true rfl, Nat.le_of_ble_eq_true rfl⟩) hG (g_recv hG (b := 169) (hdm 169 (by decide)) rfl rfl) rfl hl.1 rfl (Nat.le_of_ble_eq_true rfl) dX6_run_56 ⟨Nat.zero_le _, Nat.zero_le _⟩ (fun z13 M14 H locs hp_56 hG => ?_)
          rw [hpv_M12_172] at hp_56
          obtain ⟨hz_56, hoa_M14, hob_M14⟩ := hp_56; replace hz_56 := hz_56.symm; subst hz_56
          have hpv_M14_172 : M14 172 = R := Eq.trans (hoa_M14 172 (by omega) (by omega)) hpv_M12_172
          refine lv_istore (lv' := [(4, .int (iZ (q_first R))), (0, .ref (gad G 169)), (1, .long (lZ v)), (3, .int (iZ b))]) hx hb dX6_run_59 hl (by decide) rfl (fun ls hl => ?_)
          refine lv_aload_n hx hb dX6_run_61 rfl (lv_at hl 1 rfl) ?_
          refine g_get hx hb hts hinX6 hown hG (o := 169) (hdm 169 (by decide)) rfl rfl 5 (by decide) f16 (fun _ h => h) rfl dX6_run_62 ?_
          refine lv_iload hx hb dX6_run_65 (lv_at hl 0 rfl) ?_
          refine lv_lload_n hx hb dX6_run_67 rfl (lv_at hl 2 rfl) ?_
          refine lv_iload_n hx hb dX6_run_68 rfl (lv_at hl 3 rfl) ?_
          refine g_callS (As := [.ref (gad G 172), .int (iZ (((q_first R).toNat) : Int)), .long (lZ v), .int (iZ b)]) (rest := []) ⟨hx, hb, hml, hown, hts⟩ (c_X6_runOn l G M14 hdm 172 (Or.inr (Or.inl rfl)) (by rw [hpv_M14_172]; exact hI) (((q_first R).toNat)) (by first | omega | (rw [hpv_M14_172]; omega)) v (by omega) b (by omega)) (va_cwS 4 hts gX6_run_X6_runOn rfl rfl rfl (by decide +kernel) ⟨Nat.le_of_ble_eq_true rfl, Nat.le_of_ble_eq_true rfl⟩) hG rfl hl.1 (by rw [← hfn]; rfl) (Nat.le_of_ble_eq_true rfl) dX6_run_69 ⟨Nat.zero_le _, Nat.zero_le _⟩ (fun z15 M16 H locs hp_69 hG => ?_)
          rw [hpv_M14_172] at hp_69
          obtain ⟨hz_69, hM16⟩ := hp_69; replace hz_69 := hz_69.symm; subst hz_69
          have hpv_M16_172 : M16 172 = (q_rno R (((q_first R).toNat)) b (q_dig v)) := by rw [hM16, q_set_at]
          have hinv_M16 := hI1
          refine z_if_eq (tgt := 87) hx hb (by omega) dX6_run_72 (by decide) (fun c_72 => ?_) (fun c_72 => ?_)
          · skip
            refine lv_bipush (v := iZ (-9)) hx hb dX6_run_87 (by decide) ?_
            exact g_iret (post := fun z M1 => ((if ¬ (q_ptb v 6 = true ∧ 1 ≤ b ∧ b ≤ 30) then (1 : Int) else if q_ob R ≠ 0 then 2 else 0) = 0 → z = (if q_rz R b = 1 then q_sc (q_rno R (q_first R).toNat b (q_dig v)) (q_first R).toNat else -9) ∧ q_mz 0 n M M1 ∧ M1 172 = ((q_rno R (q_first R).toNat b (q_dig v)))) ∧ ((if ¬ (q_ptb v 6 = true ∧ 1 ≤ b ∧ b ≤ 30) then (1 : Int) else if q_ob R ≠ 0 then 2 else 0) ≠ 0 → q_ms M M1) ∧ M1 169 0 = (if ¬ (q_ptb v 6 = true ∧ 1 ≤ b ∧ b ≤ 30) then (1 : Int) else if q_ob R ≠ 0 then 2 else 0)) (z := (-9)) hx hb hr hG hlocks (⟨fun _ => ⟨by first | (rw [if_pos (by omega)]; done) | (rw [if_neg (by omega)]; done), (q_mz.pg (q_mz.lay (q_mz.nt (q_mq.rf hM10) hnt1_M12 hnt2_M12 hnt3_M12 hnt4_M12 hnt5_M12) hoa_M14 hob_M14) (fun a h7 h8 => by rw [hM16]; exact q_set_off _ _ (by assumption))), hpv_M16_172⟩, fun h9 => absurd hcd9 h9, by rw [hcd9]; exact (q_mz.pg (q_mz.lay (q_mz.nt (q_mq.rf hM10) hnt1_M12 hnt2_M12 hnt3_M12 hnt4_M12 hnt5_M12) hoa_M14 hob_M14) (fun a h7 h8 => by rw [hM16]; exact q_set_off _ _ (by assumption))).1⟩) dX6_run_89
          · skip
            refine lv_aload_n hx hb dX6_run_75 rfl (lv_at hl 1 rfl) ?_
            refine g_get hx hb hts hinX6 hown hG (o := 169) (hdm 169 (by decide)) rfl rfl 5 (by decide) f16 (fun _ h => h) rfl dX6_run_76 ?_
            refine lv_iload hx hb dX6_run_79 (lv_at hl 0 rfl) ?_
            refine g_callS (As := [.ref (gad G 172), .int (iZ (((q_first R).toNat) : Int))]) (rest := []) ⟨hx, hb, hml, hown, hts⟩ (c_X6_score l G M16 hdm 172 (Or.inr (Or.inl rfl)) (by rw [hpv_M16_172]; exact hinv_M16) (((q_first R).toNat)) (by first | omega | (rw [hpv_M16_172]; omega))) (va_cwS 2 hts gX6_run_X6_score rfl rfl rfl (by decide +kernel) ⟨Nat.le_of_ble_eq_true rfl, Nat.le_of_ble_eq_true rfl⟩) hG rfl hl.1 (by rw [← hfn]; rfl) (Nat.le_of_ble_eq_true rfl) dX6_run_81 ⟨Nat.zero_le _, Nat.zero_le _⟩ (fun z17 M18 H locs hp_81 hG => ?_)
            rw [hpv_M16_172] at hp_81
            obtain ⟨hz_81, hM_81⟩ := hp_81; replace hz_81 := hz_81.symm; subst hz_81; replace hM_81 := hM_81.symm; subst hM_81
            refine lv_goto (tgt := 89) hx hb dX6_run_84 (by decide) ?_
            exact g_iret (post := fun z M1 => ((if ¬ (q_ptb v 6 = true ∧ 1 ≤ b ∧ b ≤ 30) then (1 : Int) else if q_ob R ≠ 0 then 2 else 0) = 0 → z = (if q_rz R b = 1 then q_sc (q_rno R (q_first R).toNat b (q_dig v)) (q_first R).toNat else -9) ∧ q_mz 0 n M M1 ∧ M1 172 = ((q_rno R (q_first R).toNat b (q_dig v)))) ∧ ((if ¬ (q_ptb v 6 = true ∧ 1 ≤ b ∧ b ≤ 30) then (1 : Int) else if q_ob R ≠ 0 then 2 else 0) ≠ 0 → q_ms M M1) ∧ M1 169 0 = (if ¬ (q_ptb v 6 = true ∧ 1 ≤ b ∧ b ≤ 30) then (1 : Int) else if q_ob R ≠ 0 then 2 else 0)) (z := (q_sc (q_rno R (((q_first R).toNat)) b (q_dig v)) (((q_first R).toNat)))) hx hb hr hG hlocks (⟨fun _ => ⟨by first | (rw [if_pos (by omega)]; done) | (rw [if_neg (by omega)]; done), (q_mz.pg (q_mz.lay (q_mz.nt (q_mq.rf hM10) hnt1_M12 hnt2_M12 hnt3_M12 hnt4_M12 hnt5_M12) hoa_M14 hob_M14) (fun a h7 h8 => by rw [hM16]; exact q_set_off _ _ (by assumption))), hpv_M16_172⟩, fun h9 => absurd hcd9 h9, by rw [hcd9]; exact (q_mz.pg (q_mz.lay (q_mz.nt (q_mq.rf hM10) hnt1_M12 hnt2_M12 hnt3_M12 hnt4_M12 hnt5_M12) hoa_M14 hob_M14) (fun a h7 h8 => by rw [hM16]; exact q_set_off _ _ (by assumption))).1⟩) dX6_run_89
        · exfalso; omega
      · skip
        refine lv_iconst (v := iZ 2) hx hb dX6_run_34 rfl ?_
        refine lv_goto (tgt := 39) hx hb dX6_run_35 (by decide) ?_
        refine g_callV (b := 169) (As := [.int (iZ 2)]) (rest := []) ⟨hx, hb, hml, hown, hts⟩ (c_X6_refused l G M hdm 2 (by omega)) (cwV 1 hts gX6_run_X6_refused rfl rfl rfl (by decide +kernel) ⟨Nat.le_of_ble_eq_true rfl, Nat.le_of_ble_eq_true rfl⟩) hG (g_recv hG (b := 169) (hdm 169 (by decide)) rfl rfl) rfl hl.1 rfl (Nat.le_of_ble_eq_true rfl) dX6_run_39 ⟨Nat.zero_le _, Nat.zero_le _⟩ (fun z19 M20 H locs hp_39 hG => ?_)
        obtain ⟨hz_39, hM20⟩ := hp_39; rw [if_pos (by decide)] at hz_39; replace hz_39 := hz_39.symm; subst hz_39
        have hpv_M20_172 : M20 172 = R := Eq.trans (by rw [hM20]; exact wr_off _ _ _ (by decide)) hRM
        have hcd9 : (if ¬ (q_ptb v 6 = true ∧ 1 ≤ b ∧ b ≤ 30) then (1 : Int) else if q_ob R ≠ 0 then 2 else 0) = (2 : Int) := by rw [if_neg (fun h9 => h9 ⟨by assumption, by omega⟩), if_pos (by omega)]
        refine z_if_eq (tgt := 47) hx hb (by decide) dX6_run_42 (by decide) (fun c_42 => ?_) (fun c_42 => ?_)
        · exfalso; omega
        · skip
          refine lv_iconst (v := iZ 0) hx hb dX6_run_45 rfl ?_
          exact g_iret (post := fun z M1 => ((if ¬ (q_ptb v 6 = true ∧ 1 ≤ b ∧ b ≤ 30) then (1 : Int) else if q_ob R ≠ 0 then 2 else 0) = 0 → z = (if q_rz R b = 1 then q_sc (q_rno R (q_first R).toNat b (q_dig v)) (q_first R).toNat else -9) ∧ q_mz 0 n M M1 ∧ M1 172 = ((q_rno R (q_first R).toNat b (q_dig v)))) ∧ ((if ¬ (q_ptb v 6 = true ∧ 1 ≤ b ∧ b ≤ 30) then (1 : Int) else if q_ob R ≠ 0 then 2 else 0) ≠ 0 → q_ms M M1) ∧ M1 169 0 = (if ¬ (q_ptb v 6 = true ∧ 1 ≤ b ∧ b ≤ 30) then (1 : Int) else if q_ob R ≠ 0 then 2 else 0)) (z := 0) hx hb hr hG hlocks (⟨fun h9 => absurd h9 (by rw [hcd9]; decide), fun _ => (q_mq.rf hM20).2, by rw [hcd9]; exact (q_mq.rf hM20).1⟩) dX6_run_46
    · skip
      refine lv_iconst (v := iZ 1) hx hb dX6_run_20 rfl ?_
      refine lv_goto (tgt := 39) hx hb dX6_run_21 (by decide) ?_
      refine g_callV (b := 169) (As := [.int (iZ 1)]) (rest := []) ⟨hx, hb, hml, hown, hts⟩ (c_X6_refused l G M hdm 1 (by omega)) (cwV 1 hts gX6_run_X6_refused rfl rfl rfl (by decide +kernel) ⟨Nat.le_of_ble_eq_true rfl, Nat.le_of_ble_eq_true rfl⟩) hG (g_recv hG (b := 169) (hdm 169 (by decide)) rfl rfl) rfl hl.1 rfl (Nat.le_of_ble_eq_true rfl) dX6_run_39 ⟨Nat.zero_le _, Nat.zero_le _⟩ (fun z21 M22 H locs hp_39 hG => ?_)
      obtain ⟨hz_39, hM22⟩ := hp_39; rw [if_pos (by decide)] at hz_39; replace hz_39 := hz_39.symm; subst hz_39
      have hpv_M22_172 : M22 172 = R := Eq.trans (by rw [hM22]; exact wr_off _ _ _ (by decide)) hRM
      have hcd9 : (if ¬ (q_ptb v 6 = true ∧ 1 ≤ b ∧ b ≤ 30) then (1 : Int) else if q_ob R ≠ 0 then 2 else 0) = (1 : Int) := if_pos (fun h9 => by first | exact absurd h9.1 (by assumption) | (have h8 := h9.2; omega))
      refine z_if_eq (tgt := 47) hx hb (by decide) dX6_run_42 (by decide) (fun c_42 => ?_) (fun c_42 => ?_)
      · exfalso; omega
      · skip
        refine lv_iconst (v := iZ 0) hx hb dX6_run_45 rfl ?_
        exact g_iret (post := fun z M1 => ((if ¬ (q_ptb v 6 = true ∧ 1 ≤ b ∧ b ≤ 30) then (1 : Int) else if q_ob R ≠ 0 then 2 else 0) = 0 → z = (if q_rz R b = 1 then q_sc (q_rno R (q_first R).toNat b (q_dig v)) (q_first R).toNat else -9) ∧ q_mz 0 n M M1 ∧ M1 172 = ((q_rno R (q_first R).toNat b (q_dig v)))) ∧ ((if ¬ (q_ptb v 6 = true ∧ 1 ≤ b ∧ b ≤ 30) then (1 : Int) else if q_ob R ≠ 0 then 2 else 0) ≠ 0 → q_ms M M1) ∧ M1 169 0 = (if ¬ (q_ptb v 6 = true ∧ 1 ≤ b ∧ b ≤ 30) then (1 : Int) else if q_ob R ≠ 0 then 2 else 0)) (z := 0) hx hb hr hG hlocks (⟨fun h9 => absurd h9 (by rw [hcd9]; decide), fun _ => (q_mq.rf hM22).2, by rw [hcd9]; exact (q_mq.rf hM22).1⟩) dX6_run_46
set_option maxHeartbeats 4000000 in
set_option maxRecDepth 100000 in
theorem c_X6_setRank (l : Launch) (G : gG) (M : Nat → Nat → Int) (hdm : ∀ k, k < 179 → gdm G k) (R : Nat → Int) (hRM : M 172 = R) (hI : q_inv R) (n : Nat) (hn : n ≤ 14) (hn8 : M 169 8 = (n : Int)) (a : Int) (ha9 : -2147483648 ≤ a ∧ a < 2147483648) : gMi l yX6_setRank wsX6_setRank ({ frames := 5, cells := 0, slots := 0, locals := 113 } : Room) G M [.ref (gad G 169), .int (iZ a)] (fun z M1 => ((if q_isr a = true then (0 : Int) else 1) = 0 → z = q_ct (fun i => decide (q_pl R i ≠ q_pl (q_srk R (fun k => q_kd a (5 - k))) i)) (q_nd R).toNat ∧ q_mz 0 n M M1 ∧ M1 172 = (q_srk R (fun k => q_kd a (5 - k)))) ∧ ((if q_isr a = true then (0 : Int) else 1) ≠ 0 → q_ms M M1) ∧ M1 169 0 = (if q_isr a = true then (0 : Int) else 1)) := by
  refine gMi_of (cc := cX6_setRank) (maxL := 5) (ret := some .int) (by decide) rfl (Nat.le_of_ble_eq_true rfl) ?_
  intro p e s m below meth c ls hx hb hr hml hown hts hlocks hl hG
  have hown : s.vm.findClass RX6 = some m.cls := hown
  have hl : lv_has ls 5 [(0, .ref (gad G 169)), (1, .int (iZ a))] := hl
  have hinX6 : ∀ w ∈ u_ws RX6 TX6 13, w ∈ wsX6_setRank := by decide +kernel
  have f16 := hts (.fieldLink RX6 16 "DogTrialsModel" "now" "[I") (by decide +kernel)
  have f19 := hts (.fieldLink RX6 19 "DogTrialsModel" "trial" "[I") (by decide +kernel)
  have hnd := hI.1
  refine lv_aload_n hx hb dX6_setRank_0 rfl (lv_at hl 0 rfl) ?_
  refine lv_iload_n hx hb dX6_setRank_1 rfl (lv_at hl 1 rfl) ?_
  refine g_callS (As := [.int (iZ a)]) (rest := [.ref (gad G 169)]) ⟨hx, hb, hml, hown, hts⟩ (c_X6_isRank l G M a (by omega)) (va_cwS 1 hts gX6_setRank_X6_isRank rfl rfl rfl (by decide +kernel) ⟨Nat.le_of_ble_eq_true rfl, Nat.le_of_ble_eq_true rfl⟩) hG rfl hl.1 rfl (Nat.le_of_ble_eq_true rfl) dX6_setRank_2 ⟨Nat.zero_le _, Nat.zero_le _⟩ (fun z1 M2 H locs hp_2 hG => ?_)
  obtain ⟨hz_2, hM_2⟩ := hp_2; replace hz_2 := hz_2.symm; subst hz_2; replace hM_2 := hM_2.symm; subst hM_2
  refine z_ifP_eq (tgt := 12) hx hb dX6_setRank_5 (by decide) (fun c_5 => ?_) (fun c_5 => ?_)
  · skip
    refine lv_iconst (v := iZ 1) hx hb dX6_setRank_12 rfl ?_
    refine g_callV (b := 169) (As := [.int (iZ 1)]) (rest := []) ⟨hx, hb, hml, hown, hts⟩ (c_X6_refused l G M hdm 1 (by omega)) (cwV 1 hts gX6_setRank_X6_refused rfl rfl rfl (by decide +kernel) ⟨Nat.le_of_ble_eq_true rfl, Nat.le_of_ble_eq_true rfl⟩) hG (g_recv hG (b := 169) (hdm 169 (by decide)) rfl rfl) rfl hl.1 rfl (Nat.le_of_ble_eq_true rfl) dX6_setRank_13 ⟨Nat.zero_le _, Nat.zero_le _⟩ (fun z3 M4 H locs hp_13 hG => ?_)
    obtain ⟨hz_13, hM4⟩ := hp_13; rw [if_pos (by decide)] at hz_13; replace hz_13 := hz_13.symm; subst hz_13
    have hpv_M4_172 : M4 172 = R := Eq.trans (by rw [hM4]; exact wr_off _ _ _ (by decide)) hRM
    have hcd9 : (if q_isr a = true then (0 : Int) else 1) = (1 : Int) := if_neg (by assumption)
    refine z_if_eq (tgt := 21) hx hb (by decide) dX6_setRank_16 (by decide) (fun c_16 => ?_) (fun c_16 => ?_)
    · exfalso; omega
    · skip
      refine lv_iconst (v := iZ 0) hx hb dX6_setRank_19 rfl ?_
      exact g_iret (post := fun z M1 => ((if q_isr a = true then (0 : Int) else 1) = 0 → z = q_ct (fun i => decide (q_pl R i ≠ q_pl (q_srk R (fun k => q_kd a (5 - k))) i)) (q_nd R).toNat ∧ q_mz 0 n M M1 ∧ M1 172 = (q_srk R (fun k => q_kd a (5 - k)))) ∧ ((if q_isr a = true then (0 : Int) else 1) ≠ 0 → q_ms M M1) ∧ M1 169 0 = (if q_isr a = true then (0 : Int) else 1)) (z := 0) hx hb hr hG hlocks (⟨fun h9 => absurd h9 (by rw [hcd9]; decide), fun _ => (q_mq.rf hM4).2, by rw [hcd9]; exact (q_mq.rf hM4).1⟩) dX6_setRank_20
  · skip
    refine lv_iconst (v := iZ 0) hx hb dX6_setRank_8 rfl ?_
    refine lv_goto (tgt := 13) hx hb dX6_setRank_9 (by decide) ?_
    refine g_callV (b := 169) (As := [.int (iZ 0)]) (rest := []) ⟨hx, hb, hml, hown, hts⟩ (c_X6_refused l G M hdm 0 (by omega)) (cwV 1 hts gX6_setRank_X6_refused rfl rfl rfl (by decide +kernel) ⟨Nat.le_of_ble_eq_true rfl, Nat.le_of_ble_eq_true rfl⟩) hG (g_recv hG (b := 169) (hdm 169 (by decide)) rfl rfl) rfl hl.1 rfl (Nat.le_of_ble_eq_true rfl) dX6_setRank_13 ⟨Nat.zero_le _, Nat.zero_le _⟩ (fun z5 M6 H locs hp_13 hG => ?_)
    obtain ⟨hz_13, hM6⟩ := hp_13; rw [if_neg (by decide)] at hz_13; replace hz_13 := hz_13.symm; subst hz_13
    have hpv_M6_172 : M6 172 = R := Eq.trans (by rw [hM6]; exact wr_off _ _ _ (by decide)) hRM
    have hcd9 : (if q_isr a = true then (0 : Int) else 1) = (0 : Int) := if_pos (by assumption)
    refine z_if_eq (tgt := 21) hx hb (by decide) dX6_setRank_16 (by decide) (fun c_16 => ?_) (fun c_16 => ?_)
    · skip
      have hisr9 : q_isr a = true := by assumption
      have hnn9 := (q_isr_dig hisr9).1
      refine lv_aload_n hx hb dX6_setRank_21 rfl (lv_at hl 0 rfl) ?_
      refine g_vcallV (b := 169) (As := []) (rest := []) ⟨hx, hb, hml, hown, hts⟩ (c_X6_note l G M6 hdm n hn ((q_mq.rf hM6).2.2.2.trans hn8)) (cwV 0 hts gX6_setRank_X6_note rfl rfl rfl (by decide +kernel) ⟨Nat.le_of_ble_eq_true rfl, Nat.le_of_ble_eq_true rfl⟩) hG (g_recv hG (b := 169) (hdm 169 (by decide)) rfl rfl) rfl hl.1 rfl (Nat.le_of_ble_eq_true rfl) dX6_setRank_22 ⟨Nat.zero_le _, Nat.zero_le _⟩ (fun M8 H locs hp_22 hG => ?_)
      obtain ⟨hnt1_M8, hnt2_M8, hnt3_M8, hnt4_M8, hnt5_M8⟩ := hp_22
      have hpv_M8_172 : M8 172 = R := Eq.trans (hnt4_M8 172 (by decide) (by decide)) hpv_M6_172
      refine lv_aload_n hx hb dX6_setRank_25 rfl (lv_at hl 0 rfl) ?_
      refine g_get hx hb hts hinX6 hown hG (o := 169) (hdm 169 (by decide)) rfl rfl 5 (by decide) f16 (fun _ h => h) rfl dX6_setRank_26 ?_
      refine lv_iconst (v := iZ 0) hx hb dX6_setRank_29 rfl ?_
      refine lv_aload_n hx hb dX6_setRank_30 rfl (lv_at hl 0 rfl) ?_
      refine g_get hx hb hts hinX6 hown hG (o := 169) (hdm 169 (by decide)) rfl rfl 6 (by decide) f19 (fun _ h => h) rfl dX6_setRank_31 ?_
      refine lv_iconst (v := iZ 0) hx hb dX6_setRank_34 rfl ?_
      refine g_vcallS (As := [.ref (gad G 172), .int (iZ 0), .ref (gad G 173), .int (iZ 0)]) (rest := []) ⟨hx, hb, hml, hown, hts⟩ (c_copyTo l G M8 hdm 172 146 0 173 (by decide) (fun f => rfl) (by omega) (by decide) (Or.inr (Or.inr rfl)) (by decide)) (va_cwS 4 hts gX6_setRank_X6_copyPage rfl rfl rfl (by decide +kernel) ⟨Nat.le_of_ble_eq_true rfl, Nat.le_of_ble_eq_true rfl⟩) hG rfl hl.1 rfl (Nat.le_of_ble_eq_true rfl) dX6_setRank_35 ⟨Nat.zero_le _, Nat.zero_le _⟩ (fun M10 H locs hp_35 hG => ?_)
      rw [hpv_M8_172] at hp_35
      replace hp_35 : M10 = q_set M8 173 R := by rw [hp_35]; congr 1; funext k9; rw [Nat.zero_add]
      have hpv_M10_173 : M10 173 = R := by rw [hp_35, q_set_at]
      have hpv_M10_172 : M10 172 = R := Eq.trans (by rw [hp_35]; exact q_set_off _ _ (by decide)) hpv_M8_172
      refine lv_iload_n hx hb dX6_setRank_38 rfl (lv_at hl 1 rfl) ?_
      refine lv_istore_n (lv' := [(2, .int (iZ a)), (0, .ref (gad G 169)), (1, .int (iZ a))]) hx hb dX6_setRank_39 rfl hl (by decide) rfl (fun ls hl => ?_)
      refine lv_iconst (v := iZ 5) hx hb dX6_setRank_40 rfl ?_
      refine lv_istore_n (lv' := [(3, .int (iZ 5)), (2, .int (iZ a)), (0, .ref (gad G 169)), (1, .int (iZ a))]) hx hb dX6_setRank_41 rfl hl (by decide) rfl (fun ls hl => ?_)
      have L_42 : ∀ (n_42 : Nat) (j : Nat) (x_i : Int) (x_r : Int) (Mk : Nat → Nat → Int), (x_i = (5 - (j : Int))) → (x_r = (q_rd a j)) → (j ≤ 6) → (q_mz 0 n M Mk) → ((∀ b : Nat, Mk 172 b = if 14 - j ≤ b ∧ b < 14 then q_kd a (13 - b) else R b)) → (Mk 173 = R) → 6 - j < n_42 → ∀ (H : Heap) (locs : List Loc) (ls : Array Slot), gH G Mk s H locs → lv_has ls 5 [(3, .int (iZ x_i)), (2, .int (iZ x_r)), (0, .ref (gad G 169)), (1, .int (iZ a))] → W p l e ({ frames := 5, cells := 0, slots := 0, locals := 113 } : Room) s m [.ref (gad G 169), .int (iZ a)].toArray below meth c H locs 0 0 (MQ below (va_Qi (fun r (u : Int × (Nat → Nat → Int)) => r = iZ u.1 ∧ (fun z M1 => ((if q_isr a = true then (0 : Int) else 1) = 0 → z = q_ct (fun i => decide (q_pl R i ≠ q_pl (q_srk R (fun k => q_kd a (5 - k))) i)) (q_nd R).toNat ∧ q_mz 0 n M M1 ∧ M1 172 = (q_srk R (fun k => q_kd a (5 - k)))) ∧ ((if q_isr a = true then (0 : Int) else 1) ≠ 0 → q_ms M M1) ∧ M1 169 0 = (if q_isr a = true then (0 : Int) else 1)) u.1 u.2) (fun u U => gB G u.2 U) (gA G)) [.ref (gad G 169), .int (iZ a)].toArray s 0 0 (gA G)) (F0 m 42 ls []) := by
        intro n_42
        induction n_42 with
        | zero => intro j x_i x_r Mk he_x_i he_x_r hj hmzk hrw h173 hm_42; exact absurd hm_42 (Nat.not_lt_zero _)
        | succ n_42 ih_42 =>
          intro j x_i x_r Mk he_x_i he_x_r hj hmzk hrw h173 hm_42 H locs ls hG hl
          subst he_x_i
          subst he_x_r
          have hrd := ((q_rd_in a j).1 (by omega))
          have hkd := q_kd_in hrd.1
          refine lv_iload_n hx hb dX6_setRank_42 rfl (lv_at hl 0 rfl) ?_
          refine z_if_lt (tgt := 70) hx hb (by omega) dX6_setRank_43 (by decide) (fun c_43 => ?_) (fun c_43 => ?_)
          · skip
            have hj6 : j = 6 := by omega
            have hpg9 : Mk 172 = (q_srk R (fun k => q_kd a (5 - k))) := by funext b; rw [hrw b, hj6]; unfold q_srk; by_cases h9 : 8 ≤ b ∧ b < 14; (rw [if_pos (by omega), if_pos h9]; show q_kd a (13 - b) = q_kd a (5 - (b - 8)); rw [show 13 - b = 5 - (b - 8) by omega]); (rw [if_neg (by omega), if_neg h9])
            have hI8 : q_inv (q_srk R (fun k => q_kd a (5 - k))) := inv_srk hI (q_isr_dig hisr9).2
            have hns9 := q_srk_nd R (fun k => q_kd a (5 - k))
            refine lv_iconst (v := iZ 0) hx hb dX6_setRank_70 rfl ?_
            refine lv_istore_n (lv' := [(3, .int (iZ 0)), (2, .int (iZ (q_rd a j))), (0, .ref (gad G 169)), (1, .int (iZ a))]) hx hb dX6_setRank_71 rfl hl (by decide) rfl (fun ls hl => ?_)
            refine lv_iconst (v := iZ 0) hx hb dX6_setRank_72 rfl ?_
            refine lv_istore (lv' := [(4, .int (iZ 0)), (3, .int (iZ 0)), (2, .int (iZ (q_rd a j))), (0, .ref (gad G 169)), (1, .int (iZ a))]) hx hb dX6_setRank_73 hl (by decide) rfl (fun ls hl => ?_)
            have L_75 : ∀ (n_75 : Nat) (k : Nat) (x_i : Int) (x_c : Int), (x_i = (k : Int)) → (x_c = (q_ct (fun i => decide (q_pl R i ≠ q_pl (q_srk R (fun k => q_kd a (5 - k))) i)) k)) → ((k : Int) ≤ q_nd R) → 12 - k < n_75 → ∀ (H : Heap) (locs : List Loc) (ls : Array Slot), gH G Mk s H locs → lv_has ls 5 [(4, .int (iZ x_i)), (3, .int (iZ x_c)), (2, .int (iZ (q_rd a j))), (0, .ref (gad G 169)), (1, .int (iZ a))] → W p l e ({ frames := 5, cells := 0, slots := 0, locals := 113 } : Room) s m [.ref (gad G 169), .int (iZ a)].toArray below meth c H locs 0 0 (MQ below (va_Qi (fun r (u : Int × (Nat → Nat → Int)) => r = iZ u.1 ∧ (fun z M1 => ((if q_isr a = true then (0 : Int) else 1) = 0 → z = q_ct (fun i => decide (q_pl R i ≠ q_pl (q_srk R (fun k => q_kd a (5 - k))) i)) (q_nd R).toNat ∧ q_mz 0 n M M1 ∧ M1 172 = (q_srk R (fun k => q_kd a (5 - k)))) ∧ ((if q_isr a = true then (0 : Int) else 1) ≠ 0 → q_ms M M1) ∧ M1 169 0 = (if q_isr a = true then (0 : Int) else 1)) u.1 u.2) (fun u U => gB G u.2 U) (gA G)) [.ref (gad G 169), .int (iZ a)].toArray s 0 0 (gA G)) (F0 m 75 ls []) := by
              intro n_75
              induction n_75 with
              | zero => intro k x_i x_c he_x_i he_x_c hk hm_75; exact absurd hm_75 (Nat.not_lt_zero _)
              | succ n_75 ih_75 =>
                intro k x_i x_c he_x_i he_x_c hk hm_75 H locs ls hG hl
                subst he_x_i
                subst he_x_c
                have hck := ct_in (fun i => decide (q_pl R i ≠ q_pl (q_srk R (fun k => q_kd a (5 - k))) i)) k
                refine lv_iload hx hb dX6_setRank_75 (lv_at hl 0 rfl) ?_
                refine lv_aload_n hx hb dX6_setRank_77 rfl (lv_at hl 3 rfl) ?_
                refine g_get hx hb hts hinX6 hown hG (o := 169) (hdm 169 (by decide)) rfl rfl 5 (by decide) f16 (fun _ h => h) rfl dX6_setRank_78 ?_
                refine lv_bipush (v := iZ (7)) hx hb dX6_setRank_81 (by decide) ?_
                refine g_iald (z := (q_nd (q_srk R (fun k => q_kd a (5 - k))))) (j := 7) hx hb hG (o := 172) (hdm 172 (by decide)) rfl (by omega) (by omega) (by omega) (by rw [hpg9] <;> rfl) dX6_setRank_83 ?_
                refine z_icmp_ge (tgt := 122) hx hb (by omega) (by omega) dX6_setRank_84 (by decide) (fun c_84 => ?_) (fun c_84 => ?_)
                · skip
                  refine lv_iload_n hx hb dX6_setRank_122 rfl (lv_at hl 1 rfl) ?_
                  exact g_iret (post := fun z M1 => ((if q_isr a = true then (0 : Int) else 1) = 0 → z = q_ct (fun i => decide (q_pl R i ≠ q_pl (q_srk R (fun k => q_kd a (5 - k))) i)) (q_nd R).toNat ∧ q_mz 0 n M M1 ∧ M1 172 = (q_srk R (fun k => q_kd a (5 - k)))) ∧ ((if q_isr a = true then (0 : Int) else 1) ≠ 0 → q_ms M M1) ∧ M1 169 0 = (if q_isr a = true then (0 : Int) else 1)) (z := (q_ct (fun i => decide (q_pl R i ≠ q_pl (q_srk R (fun k => q_kd a (5 - k))) i)) k)) hx hb hr hG hlocks (⟨fun _ => ⟨by rw [show (q_nd R).toNat = k by omega], hmzk, hpg9⟩, fun h9 => absurd hcd9 h9, by rw [hcd9]; exact hmzk.1⟩) dX6_setRank_123
                · skip
                  refine lv_iload_n hx hb dX6_setRank_87 rfl (lv_at hl 1 rfl) ?_
                  refine lv_aload_n hx hb dX6_setRank_88 rfl (lv_at hl 3 rfl) ?_
                  refine g_get hx hb hts hinX6 hown hG (o := 169) (hdm 169 (by decide)) rfl rfl 5 (by decide) f16 (fun _ h => h) rfl dX6_setRank_89 ?_
                  refine lv_iload hx hb dX6_setRank_92 (lv_at hl 0 rfl) ?_
                  refine g_callS (As := [.ref (gad G 172), .int (iZ (k : Int))]) (rest := [.int (iZ (q_ct (fun i => decide (q_pl R i ≠ q_pl (q_srk R (fun k => q_kd a (5 - k))) i)) k))]) ⟨hx, hb, hml, hown, hts⟩ (c_X6_placeOf l G Mk hdm 172 (Or.inr (Or.inl rfl)) (by rw [hpg9]; exact hI8) k (by first | omega | (rw [hpg9]; omega))) (va_cwS 2 hts gX6_setRank_X6_placeOf rfl rfl rfl (by decide +kernel) ⟨Nat.le_of_ble_eq_true rfl, Nat.le_of_ble_eq_true rfl⟩) hG rfl hl.1 rfl (Nat.le_of_ble_eq_true rfl) dX6_setRank_94 ⟨Nat.zero_le _, Nat.zero_le _⟩ (fun z11 M12 H locs hp_94 hG => ?_)
                  rw [hpg9] at hp_94
                  obtain ⟨hz_94, hM_94⟩ := hp_94; replace hz_94 := hz_94.symm; subst hz_94; replace hM_94 := hM_94.symm; subst hM_94
                  have hpa9 := q_pl_rg (R := (q_srk R (fun k => q_kd a (5 - k)))) (by omega) k
                  refine lv_aload_n hx hb dX6_setRank_97 rfl (lv_at hl 3 rfl) ?_
                  refine g_get hx hb hts hinX6 hown hG (o := 169) (hdm 169 (by decide)) rfl rfl 6 (by decide) f19 (fun _ h => h) rfl dX6_setRank_98 ?_
                  refine lv_iload hx hb dX6_setRank_101 (lv_at hl 0 rfl) ?_
                  refine g_callS (As := [.ref (gad G 173), .int (iZ (k : Int))]) (rest := [.int (iZ (q_pl (q_srk R (fun k => q_kd a (5 - k))) k)), .int (iZ (q_ct (fun i => decide (q_pl R i ≠ q_pl (q_srk R (fun k => q_kd a (5 - k))) i)) k))]) ⟨hx, hb, hml, hown, hts⟩ (c_X6_placeOf l G Mk hdm 173 (Or.inr (Or.inr rfl)) (by rw [h173]; exact hI) k (by first | omega | (rw [h173]; omega))) (va_cwS 2 hts gX6_setRank_X6_placeOf rfl rfl rfl (by decide +kernel) ⟨Nat.le_of_ble_eq_true rfl, Nat.le_of_ble_eq_true rfl⟩) hG rfl hl.1 rfl (Nat.le_of_ble_eq_true rfl) dX6_setRank_103 ⟨Nat.zero_le _, Nat.zero_le _⟩ (fun z13 M14 H locs hp_103 hG => ?_)
                  rw [h173] at hp_103
                  obtain ⟨hz_103, hM_103⟩ := hp_103; replace hz_103 := hz_103.symm; subst hz_103; replace hM_103 := hM_103.symm; subst hM_103
                  have hpb9 := q_pl_rg (R := R) (by omega) k
                  refine z_icmp_eq (tgt := 113) hx hb (by omega) (by omega) dX6_setRank_106 (by decide) (fun c_106 => ?_) (fun c_106 => ?_)
                  · skip
                    refine lv_iconst (v := iZ 0) hx hb dX6_setRank_113 rfl ?_
                    refine z_iadd (z := (q_ct (fun i => decide (q_pl R i ≠ q_pl (q_srk R (fun k => q_kd a (5 - k))) i)) k)) hx hb (by omega) dX6_setRank_114 ?_
                    refine lv_istore_n (lv' := [(3, .int (iZ (q_ct (fun i => decide (q_pl R i ≠ q_pl (q_srk R (fun k => q_kd a (5 - k))) i)) k))), (4, .int (iZ (k : Int))), (2, .int (iZ (q_rd a j))), (0, .ref (gad G 169)), (1, .int (iZ a))]) hx hb dX6_setRank_115 rfl hl (by decide) rfl (fun ls hl => ?_)
                    refine z_iinc (z := ((k : Int) + 1)) (lv' := [(4, .int (iZ ((k : Int) + 1))), (3, .int (iZ (q_ct (fun i => decide (q_pl R i ≠ q_pl (q_srk R (fun k => q_kd a (5 - k))) i)) k))), (2, .int (iZ (q_rd a j))), (0, .ref (gad G 169)), (1, .int (iZ a))]) hx hb dX6_setRank_116 hl (k := 1) rfl (by omega) (by decide) rfl (fun ls hl => ?_)
                    refine lv_goto (tgt := 75) hx hb dX6_setRank_119 (by decide) ?_
                    exact ih_75 (k + 1) ((k : Int) + 1) (q_ct (fun i => decide (q_pl R i ≠ q_pl (q_srk R (fun k => q_kd a (5 - k))) i)) k)  (by omega) (by rw [q_ct]; first | (rw [if_pos (by first | assumption | exact decide_eq_true (by omega) | (simp_all; done))] <;> omega) | (rw [if_neg (by first | assumption | (intro h9; have h8 := of_decide_eq_true h9; omega) | (simp_all; done))] <;> omega)) (by omega) (by omega) _ _ _ hG (lv_sub hl [0, 1, 2, 3, 4] rfl)
                  · skip
                    refine lv_iconst (v := iZ 1) hx hb dX6_setRank_109 rfl ?_
                    refine lv_goto (tgt := 114) hx hb dX6_setRank_110 (by decide) ?_
                    refine z_iadd (z := ((q_ct (fun i => decide (q_pl R i ≠ q_pl (q_srk R (fun k => q_kd a (5 - k))) i)) k) + 1)) hx hb (by omega) dX6_setRank_114 ?_
                    refine lv_istore_n (lv' := [(3, .int (iZ ((q_ct (fun i => decide (q_pl R i ≠ q_pl (q_srk R (fun k => q_kd a (5 - k))) i)) k) + 1))), (4, .int (iZ (k : Int))), (2, .int (iZ (q_rd a j))), (0, .ref (gad G 169)), (1, .int (iZ a))]) hx hb dX6_setRank_115 rfl hl (by decide) rfl (fun ls hl => ?_)
                    refine z_iinc (z := ((k : Int) + 1)) (lv' := [(4, .int (iZ ((k : Int) + 1))), (3, .int (iZ ((q_ct (fun i => decide (q_pl R i ≠ q_pl (q_srk R (fun k => q_kd a (5 - k))) i)) k) + 1))), (2, .int (iZ (q_rd a j))), (0, .ref (gad G 169)), (1, .int (iZ a))]) hx hb dX6_setRank_116 hl (k := 1) rfl (by omega) (by decide) rfl (fun ls hl => ?_)
                    refine lv_goto (tgt := 75) hx hb dX6_setRank_119 (by decide) ?_
                    exact ih_75 (k + 1) ((k : Int) + 1) ((q_ct (fun i => decide (q_pl R i ≠ q_pl (q_srk R (fun k => q_kd a (5 - k))) i)) k) + 1)  (by omega) (by rw [q_ct]; first | (rw [if_pos (by first | assumption | exact decide_eq_true (by omega) | (simp_all; done))] <;> omega) | (rw [if_neg (by first | assumption | (intro h9; have h8 := of_decide_eq_true h9; omega) | (simp_all; done))] <;> omega)) (by omega) (by omega) _ _ _ hG (lv_sub hl [0, 1, 2, 3, 4] rfl)
            exact L_75 _ 0 0 0  rfl rfl (by omega) (Nat.lt_succ_self _) _ _ _ hG (lv_sub hl [0, 1, 2, 3, 4] rfl)
          · skip
            refine lv_aload_n hx hb dX6_setRank_46 rfl (lv_at hl 2 rfl) ?_
            refine g_get hx hb hts hinX6 hown hG (o := 169) (hdm 169 (by decide)) rfl rfl 5 (by decide) f16 (fun _ h => h) rfl dX6_setRank_47 ?_
            refine lv_bipush (v := iZ (8)) hx hb dX6_setRank_50 (by decide) ?_
            refine lv_iload_n hx hb dX6_setRank_52 rfl (lv_at hl 0 rfl) ?_
            refine z_iadd (z := (13 - (j : Int))) hx hb (by omega) dX6_setRank_53 ?_
            refine lv_iload_n hx hb dX6_setRank_54 rfl (lv_at hl 1 rfl) ?_
            refine lv_bipush (v := iZ (10)) hx hb dX6_setRank_55 (by decide) ?_
            refine z_irem (z := (q_kd a j)) hx hb (by omega) (by omega) (by omega) dX6_setRank_57 ?_
            refine g_iast (j := ((13 - j : Nat))) hx hb hG (o := 172) (hdm 172 (by decide)) (fun f => rfl) (by omega) (by omega) (by omega) dX6_setRank_58 (fun H locs hG => ?_)
            obtain ⟨M15, hM15⟩ : ∃ X, X = (q_wr Mk 172 ((13 - j : Nat)) (q_kd a j)) := ⟨_, rfl⟩
            rw [← hM15] at hG
            refine lv_iload_n hx hb dX6_setRank_59 rfl (lv_at hl 1 rfl) ?_
            refine lv_bipush (v := iZ (10)) hx hb dX6_setRank_60 (by decide) ?_
            refine z_idiv (z := (q_rd a j / 10)) hx hb (by omega) (by omega) rfl dX6_setRank_62 ?_
            refine lv_istore_n (lv' := [(2, .int (iZ (q_rd a j / 10))), (3, .int (iZ (5 - (j : Int)))), (0, .ref (gad G 169)), (1, .int (iZ a))]) hx hb dX6_setRank_63 rfl hl (by decide) rfl (fun ls hl => ?_)
            refine z_iinc (z := (4 - (j : Int))) (lv' := [(3, .int (iZ (4 - (j : Int)))), (2, .int (iZ (q_rd a j / 10))), (0, .ref (gad G 169)), (1, .int (iZ a))]) hx hb dX6_setRank_64 hl (k := 1) rfl (by omega) (by decide) rfl (fun ls hl => ?_)
            refine lv_goto (tgt := 42) hx hb dX6_setRank_67 (by decide) ?_
            exact ih_42 (j + 1) (4 - (j : Int)) (q_rd a j / 10) M15 (by omega) (by rw [q_rd, Int.tdiv_eq_ediv_of_nonneg hrd.1]) (by omega) (q_mz.pg hmzk (fun a h7 h8 => by rw [hM15]; exact wr_off _ _ _ (by assumption))) (fun b => by rw [hM15, wr_ap, hrw b]; by_cases e9 : b = 13 - j; (rw [if_pos ⟨rfl, e9⟩, if_pos (by omega), show 13 - b = j by omega]); (rw [if_neg (fun h => e9 h.2)]; (repeat' split) <;> first | rfl | (exfalso; omega))) (by rw [hM15, wr_off _ _ _ (by decide)]; exact h173) (by omega) _ _ _ hG (lv_sub hl [0, 1, 2, 3] rfl)
      exact L_42 _ 0 5 a M10 rfl rfl (by omega) (q_mz.pg (q_mz.nt (q_mq.rf hM6) hnt1_M8 hnt2_M8 hnt3_M8 hnt4_M8 hnt5_M8) (fun a h7 h8 => by rw [hp_35]; exact q_set_off _ _ (by assumption))) (fun b => by rw [if_neg (by omega), hpv_M10_172]) hpv_M10_173 (Nat.lt_succ_self _) _ _ _ hG (lv_sub hl [0, 1, 2, 3] rfl)
    · exfalso; omega
set_option maxHeartbeats 4000000 in
set_option maxRecDepth 100000 in
theorem c_X6_undo (l : Launch) (G : gG) (M : Nat → Nat → Int) (hdm : ∀ k, k < 179 → gdm G k) (n : Nat) (hn : n ≤ 14) (hn8 : M 169 8 = (n : Int)) : gMi l yX6_undo wsX6_undo ({ frames := 1, cells := 0, slots := 0, locals := 24 } : Room) G M [.ref (gad G 169)] (fun z M1 => ((if n = 0 then (1 : Int) else 0) = 0 → z = (n : Int) - 1 ∧ M1 172 = (fun k => M 174 (146 * (n - 1) + k)) ∧ M1 169 8 = ((n - 1 : Nat) : Int) ∧ M1 169 2 = M 169 2 ∧ ∀ x, x ≠ 169 → x ≠ 172 → M1 x = M x) ∧ ((if n = 0 then (1 : Int) else 0) ≠ 0 → q_ms M M1) ∧ M1 169 0 = (if n = 0 then (1 : Int) else 0)) := by
  refine gMi_of (cc := cX6_undo) (maxL := 1) (ret := some .int) (by decide) rfl (Nat.le_of_ble_eq_true rfl) ?_
  intro p e s m below meth c ls hx hb hr hml hown hts hlocks hl hG
  have hown : s.vm.findClass RX6 = some m.cls := hown
  have hl : lv_has ls 1 [(0, .ref (gad G 169))] := hl
  have hinX6 : ∀ w ∈ u_ws RX6 TX6 13, w ∈ wsX6_undo := by decide +kernel
  have f16 := hts (.fieldLink RX6 16 "DogTrialsModel" "now" "[I") (by decide +kernel)
  have f22 := hts (.fieldLink RX6 22 "DogTrialsModel" "diary" "[I") (by decide +kernel)
  have f149 := hts (.fieldLink RX6 149 "DogTrialsModel" "acts" "I") (by decide +kernel)
  refine lv_aload_n hx hb dX6_undo_0 rfl (lv_at hl 0 rfl) ?_
  refine lv_aload_n hx hb dX6_undo_1 rfl (lv_at hl 0 rfl) ?_
  refine g_geti (z := (n : Int)) hx hb hts hinX6 hown hG (o := 169) (hdm 169 (by decide)) rfl rfl 8 (by decide) f149 (fun _ h => h) rfl hn8 dX6_undo_2 ?_
  refine z_if_ne (tgt := 12) hx hb (by omega) dX6_undo_5 (by decide) (fun c_5 => ?_) (fun c_5 => ?_)
  · skip
    refine lv_iconst (v := iZ 0) hx hb dX6_undo_12 rfl ?_
    refine g_callV (b := 169) (As := [.int (iZ 0)]) (rest := []) ⟨hx, hb, hml, hown, hts⟩ (c_X6_refused l G M hdm 0 (by omega)) (cwV 1 hts gX6_undo_X6_refused rfl rfl rfl (by decide +kernel) ⟨Nat.le_of_ble_eq_true rfl, Nat.le_of_ble_eq_true rfl⟩) hG (g_recv hG (b := 169) (hdm 169 (by decide)) rfl rfl) rfl hl.1 rfl (Nat.le_of_ble_eq_true rfl) dX6_undo_13 ⟨Nat.zero_le _, Nat.zero_le _⟩ (fun z1 M2 H locs hp_13 hG => ?_)
    obtain ⟨hz_13, hM2⟩ := hp_13; rw [if_neg (by decide)] at hz_13; replace hz_13 := hz_13.symm; subst hz_13
    have hcd9 : (if n = 0 then (1 : Int) else 0) = (0 : Int) := by (repeat' split) <;> first | rfl | omega | (exfalso; omega) | contradiction
    refine z_if_eq (tgt := 21) hx hb (by decide) dX6_undo_16 (by decide) (fun c_16 => ?_) (fun c_16 => ?_)
    · skip
      refine lv_aload_n hx hb dX6_undo_21 rfl (lv_at hl 0 rfl) ?_
      refine lv_dup hx hb dX6_undo_22 rfl ?_
      refine g_geti (z := (n : Int)) hx hb hts hinX6 hown hG (o := 169) (hdm 169 (by decide)) rfl rfl 8 (by decide) f149 (fun _ h => h) rfl (by rw [hM2, wr_ne _ _ _ (by decide)]; exact hn8) dX6_undo_23 ?_
      refine lv_iconst (v := iZ 1) hx hb dX6_undo_26 rfl ?_
      refine z_isub (z := ((n : Int) - 1)) hx hb (by omega) dX6_undo_27 ?_
      refine g_put (F := (oR G)) hx hb hts hinX6 tyX6 tyX6_ok nmX6 hown hG (o := 169) (hdm 169 (by decide)) (fun f => rfl) rfl 8 (by decide) f149 (fun _ h => h) rfl rfl (fun _ => Nat.lt_of_lt_of_le (by decide) (Nat.le_refl 13)) (fun _ => rfl) dX6_undo_28 (fun H locs hG => ?_)
      obtain ⟨M3, hM3⟩ : ∃ X, X = (q_wr M2 169 8 ((n : Int) - 1)) := ⟨_, rfl⟩
      rw [← hM3] at hG
      refine lv_aload_n hx hb dX6_undo_31 rfl (lv_at hl 0 rfl) ?_
      refine g_get hx hb hts hinX6 hown hG (o := 169) (hdm 169 (by decide)) rfl rfl 7 (by decide) f22 (fun _ h => h) rfl dX6_undo_32 ?_
      refine lv_sipush (v := iZ (146)) hx hb dX6_undo_35 (by decide) ?_
      refine lv_aload_n hx hb dX6_undo_38 rfl (lv_at hl 0 rfl) ?_
      refine g_geti (z := ((n : Int) - 1)) hx hb hts hinX6 hown hG (o := 169) (hdm 169 (by decide)) rfl rfl 8 (by decide) f149 (fun _ h => h) rfl (by rw [hM3, wr_eq]) dX6_undo_39 ?_
      refine z_imul (z := (146 * (n : Int) - 146)) hx hb (by omega) dX6_undo_42 ?_
      refine lv_aload_n hx hb dX6_undo_43 rfl (lv_at hl 0 rfl) ?_
      refine g_get hx hb hts hinX6 hown hG (o := 169) (hdm 169 (by decide)) rfl rfl 5 (by decide) f16 (fun _ h => h) rfl dX6_undo_44 ?_
      refine lv_iconst (v := iZ 0) hx hb dX6_undo_47 rfl ?_
      rw [show (146 * (n : Int) - 146) = ((146 * (n - 1) : Nat) : Int) by omega]
      refine g_vcallS (As := [.ref (gad G 174), .int (iZ ((146 * (n - 1) : Nat) : Int)), .ref (gad G 172), .int (iZ 0)]) (rest := []) ⟨hx, hb, hml, hown, hts⟩ (c_copyTo l G M3 hdm 174 2044 (146 * (n - 1)) 172 (by decide) (fun f => rfl) (by omega) (by decide) (Or.inr (Or.inl rfl)) (by decide)) (va_cwS 4 hts gX6_undo_X6_copyPage rfl rfl rfl (by decide +kernel) ⟨Nat.le_of_ble_eq_true rfl, Nat.le_of_ble_eq_true rfl⟩) hG rfl hl.1 rfl (Nat.le_of_ble_eq_true rfl) dX6_undo_48 ⟨Nat.zero_le _, Nat.zero_le _⟩ (fun M5 H locs hp_48 hG => ?_)
      have hpv_M5_172 : M5 172 = (fun k => M3 174 ((146 * (n - 1)) + k)) := by rw [hp_48, q_set_at]
      refine lv_aload_n hx hb dX6_undo_51 rfl (lv_at hl 0 rfl) ?_
      refine g_geti (z := ((n : Int) - 1)) hx hb hts hinX6 hown hG (o := 169) (hdm 169 (by decide)) rfl rfl 8 (by decide) f149 (fun _ h => h) rfl (by rw [hp_48, q_set_off _ _ (by decide), hM3, wr_eq]) dX6_undo_52 ?_
      exact g_iret (post := fun z M1 => ((if n = 0 then (1 : Int) else 0) = 0 → z = (n : Int) - 1 ∧ M1 172 = (fun k => M 174 (146 * (n - 1) + k)) ∧ M1 169 8 = ((n - 1 : Nat) : Int) ∧ M1 169 2 = M 169 2 ∧ ∀ x, x ≠ 169 → x ≠ 172 → M1 x = M x) ∧ ((if n = 0 then (1 : Int) else 0) ≠ 0 → q_ms M M1) ∧ M1 169 0 = (if n = 0 then (1 : Int) else 0)) (z := ((n : Int) - 1)) hx hb hr hG hlocks (⟨fun _ => ⟨by omega, (q_mun hM2 hM3 hp_48).1.1, (q_mun hM2 hM3 hp_48).1.2.1.trans (by omega), (q_mun hM2 hM3 hp_48).1.2.2⟩, fun h9 => absurd hcd9 h9, by rw [hcd9]; exact (q_mun hM2 hM3 hp_48).2⟩) dX6_undo_55
    · exfalso; omega
  · skip
    refine lv_iconst (v := iZ 1) hx hb dX6_undo_8 rfl ?_
    refine lv_goto (tgt := 13) hx hb dX6_undo_9 (by decide) ?_
    refine g_callV (b := 169) (As := [.int (iZ 1)]) (rest := []) ⟨hx, hb, hml, hown, hts⟩ (c_X6_refused l G M hdm 1 (by omega)) (cwV 1 hts gX6_undo_X6_refused rfl rfl rfl (by decide +kernel) ⟨Nat.le_of_ble_eq_true rfl, Nat.le_of_ble_eq_true rfl⟩) hG (g_recv hG (b := 169) (hdm 169 (by decide)) rfl rfl) rfl hl.1 rfl (Nat.le_of_ble_eq_true rfl) dX6_undo_13 ⟨Nat.zero_le _, Nat.zero_le _⟩ (fun z6 M7 H locs hp_13 hG => ?_)
    obtain ⟨hz_13, hM7⟩ := hp_13; rw [if_pos (by decide)] at hz_13; replace hz_13 := hz_13.symm; subst hz_13
    have hcd9 : (if n = 0 then (1 : Int) else 0) = (1 : Int) := by (repeat' split) <;> first | rfl | omega | (exfalso; omega) | contradiction
    refine z_if_eq (tgt := 21) hx hb (by decide) dX6_undo_16 (by decide) (fun c_16 => ?_) (fun c_16 => ?_)
    · exfalso; omega
    · skip
      refine lv_iconst (v := iZ 0) hx hb dX6_undo_19 rfl ?_
      exact g_iret (post := fun z M1 => ((if n = 0 then (1 : Int) else 0) = 0 → z = (n : Int) - 1 ∧ M1 172 = (fun k => M 174 (146 * (n - 1) + k)) ∧ M1 169 8 = ((n - 1 : Nat) : Int) ∧ M1 169 2 = M 169 2 ∧ ∀ x, x ≠ 169 → x ≠ 172 → M1 x = M x) ∧ ((if n = 0 then (1 : Int) else 0) ≠ 0 → q_ms M M1) ∧ M1 169 0 = (if n = 0 then (1 : Int) else 0)) (z := 0) hx hb hr hG hlocks (⟨fun h9 => absurd h9 (by rw [hcd9]; decide), fun _ => (q_mq.rf hM7).2, by rw [hcd9]; exact (q_mq.rf hM7).1⟩) dX6_undo_20
set_option maxHeartbeats 4000000 in
set_option maxRecDepth 100000 in
theorem c_X6_save (l : Launch) (G : gG) (M : Nat → Nat → Int) (hdm : ∀ k, k < 179 → gdm G k) (R : Nat → Int) (hRM : M 172 = R) (hI : q_inv R) (a : Int) (ha9 : -2147483648 ≤ a ∧ a < 2147483648) : gMi l yX6_save wsX6_save ({ frames := 3, cells := 0, slots := 0, locals := 63 } : Room) G M [.ref (gad G 169), .int (iZ a)] (fun z M1 => ((if 0 ≤ a ∧ a ≤ 1 then (0 : Int) else 1) = 0 → z = q_nrun R ∧ (∀ k : Nat, k < 146 → M1 175 (146 * a.toNat + k) = M 172 k) ∧ (∀ b : Nat, (b < 146 * a.toNat ∨ 146 * a.toNat + 146 ≤ b) → M1 175 b = M 175 b) ∧ M1 176 a.toNat = 1 ∧ (∀ b : Nat, b ≠ a.toNat → M1 176 b = M 176 b) ∧ M1 169 2 = M 169 2 ∧ M1 169 8 = M 169 8 ∧ ∀ x, x ≠ 169 → x ≠ 175 → x ≠ 176 → M1 x = M x) ∧ ((if 0 ≤ a ∧ a ≤ 1 then (0 : Int) else 1) ≠ 0 → q_ms M M1) ∧ M1 169 0 = (if 0 ≤ a ∧ a ≤ 1 then (0 : Int) else 1)) := by
  refine gMi_of (cc := cX6_save) (maxL := 2) (ret := some .int) (by decide) rfl (Nat.le_of_ble_eq_true rfl) ?_
  intro p e s m below meth c ls hx hb hr hml hown hts hlocks hl hG
  have hown : s.vm.findClass RX6 = some m.cls := hown
  have hl : lv_has ls 2 [(0, .ref (gad G 169)), (1, .int (iZ a))] := hl
  have hinX6 : ∀ w ∈ u_ws RX6 TX6 13, w ∈ wsX6_save := by decide +kernel
  have f16 := hts (.fieldLink RX6 16 "DogTrialsModel" "now" "[I") (by decide +kernel)
  have f25 := hts (.fieldLink RX6 25 "DogTrialsModel" "kept" "[I") (by decide +kernel)
  have f28 := hts (.fieldLink RX6 28 "DogTrialsModel" "isKept" "[Z") (by decide +kernel)
  have hnd := hI.1
  refine lv_aload_n hx hb dX6_save_0 rfl (lv_at hl 0 rfl) ?_
  refine lv_iload_n hx hb dX6_save_1 rfl (lv_at hl 1 rfl) ?_
  refine z_i2l hx hb (by omega) dX6_save_2 ?_
  refine lv_lconst (v := lZ 0) hx hb dX6_save_3 rfl ?_
  refine lv_lconst (v := lZ 1) hx hb dX6_save_4 rfl ?_
  refine g_callS (As := [.long (lZ a), .long (lZ 0), .long (lZ 1)]) (rest := [.ref (gad G 169)]) ⟨hx, hb, hml, hown, hts⟩ (c_X6_in l G M a 0 1 (by omega) (by omega) (by omega)) (va_cwS 3 hts gX6_save_X6_in rfl rfl rfl (by decide +kernel) ⟨Nat.le_of_ble_eq_true rfl, Nat.le_of_ble_eq_true rfl⟩) hG rfl hl.1 rfl (Nat.le_of_ble_eq_true rfl) dX6_save_5 ⟨Nat.zero_le _, Nat.zero_le _⟩ (fun z1 M2 H locs hp_5 hG => ?_)
  obtain ⟨hz_5, hM_5⟩ := hp_5; replace hz_5 := hz_5.symm; subst hz_5; replace hM_5 := hM_5.symm; subst hM_5
  refine z_ifP_eq (tgt := 15) hx hb dX6_save_8 (by decide) (fun c_8 => ?_) (fun c_8 => ?_)
  · skip
    refine lv_iconst (v := iZ 1) hx hb dX6_save_15 rfl ?_
    refine g_callV (b := 169) (As := [.int (iZ 1)]) (rest := []) ⟨hx, hb, hml, hown, hts⟩ (c_X6_refused l G M hdm 1 (by omega)) (cwV 1 hts gX6_save_X6_refused rfl rfl rfl (by decide +kernel) ⟨Nat.le_of_ble_eq_true rfl, Nat.le_of_ble_eq_true rfl⟩) hG (g_recv hG (b := 169) (hdm 169 (by decide)) rfl rfl) rfl hl.1 rfl (Nat.le_of_ble_eq_true rfl) dX6_save_16 ⟨Nat.zero_le _, Nat.zero_le _⟩ (fun z3 M4 H locs hp_16 hG => ?_)
    obtain ⟨hz_16, hM4⟩ := hp_16; rw [if_pos (by decide)] at hz_16; replace hz_16 := hz_16.symm; subst hz_16
    have hpv_M4_172 : M4 172 = R := Eq.trans (by rw [hM4]; exact wr_off _ _ _ (by decide)) hRM
    have hcd9 : (if 0 ≤ a ∧ a ≤ 1 then (0 : Int) else 1) = (1 : Int) := by (repeat' split) <;> first | rfl | omega | (exfalso; omega) | contradiction
    refine z_if_eq (tgt := 24) hx hb (by decide) dX6_save_19 (by decide) (fun c_19 => ?_) (fun c_19 => ?_)
    · exfalso; omega
    · skip
      refine lv_iconst (v := iZ 0) hx hb dX6_save_22 rfl ?_
      exact g_iret (post := fun z M1 => ((if 0 ≤ a ∧ a ≤ 1 then (0 : Int) else 1) = 0 → z = q_nrun R ∧ (∀ k : Nat, k < 146 → M1 175 (146 * a.toNat + k) = M 172 k) ∧ (∀ b : Nat, (b < 146 * a.toNat ∨ 146 * a.toNat + 146 ≤ b) → M1 175 b = M 175 b) ∧ M1 176 a.toNat = 1 ∧ (∀ b : Nat, b ≠ a.toNat → M1 176 b = M 176 b) ∧ M1 169 2 = M 169 2 ∧ M1 169 8 = M 169 8 ∧ ∀ x, x ≠ 169 → x ≠ 175 → x ≠ 176 → M1 x = M x) ∧ ((if 0 ≤ a ∧ a ≤ 1 then (0 : Int) else 1) ≠ 0 → q_ms M M1) ∧ M1 169 0 = (if 0 ≤ a ∧ a ≤ 1 then (0 : Int) else 1)) (z := 0) hx hb hr hG hlocks (⟨fun h9 => absurd h9 (by rw [hcd9]; decide), fun _ => (q_mq.rf hM4).2, by rw [hcd9]; exact (q_mq.rf hM4).1⟩) dX6_save_23
  · skip
    refine lv_iconst (v := iZ 0) hx hb dX6_save_11 rfl ?_
    refine lv_goto (tgt := 16) hx hb dX6_save_12 (by decide) ?_
    refine g_callV (b := 169) (As := [.int (iZ 0)]) (rest := []) ⟨hx, hb, hml, hown, hts⟩ (c_X6_refused l G M hdm 0 (by omega)) (cwV 1 hts gX6_save_X6_refused rfl rfl rfl (by decide +kernel) ⟨Nat.le_of_ble_eq_true rfl, Nat.le_of_ble_eq_true rfl⟩) hG (g_recv hG (b := 169) (hdm 169 (by decide)) rfl rfl) rfl hl.1 rfl (Nat.le_of_ble_eq_true rfl) dX6_save_16 ⟨Nat.zero_le _, Nat.zero_le _⟩ (fun z5 M6 H locs hp_16 hG => ?_)
    obtain ⟨hz_16, hM6⟩ := hp_16; rw [if_neg (by decide)] at hz_16; replace hz_16 := hz_16.symm; subst hz_16
    have hpv_M6_172 : M6 172 = R := Eq.trans (by rw [hM6]; exact wr_off _ _ _ (by decide)) hRM
    have hcd9 : (if 0 ≤ a ∧ a ≤ 1 then (0 : Int) else 1) = (0 : Int) := by (repeat' split) <;> first | rfl | omega | (exfalso; omega) | contradiction
    refine z_if_eq (tgt := 24) hx hb (by decide) dX6_save_19 (by decide) (fun c_19 => ?_) (fun c_19 => ?_)
    · skip
      have hna : a = ((a.toNat : Nat) : Int) := by omega
      refine lv_aload_n hx hb dX6_save_24 rfl (lv_at hl 0 rfl) ?_
      refine g_get hx hb hts hinX6 hown hG (o := 169) (hdm 169 (by decide)) rfl rfl 10 (by decide) f28 (fun _ h => h) rfl dX6_save_25 ?_
      refine lv_iload_n hx hb dX6_save_28 rfl (lv_at hl 1 rfl) ?_
      refine lv_iconst (v := iZ 1) hx hb dX6_save_29 rfl ?_
      refine g_zast (j := ((a.toNat))) hx hb hG (o := 176) (hdm 176 (by decide)) (fun f => rfl) (by omega) (by omega) (by omega) (by omega) dX6_save_30 (fun H locs hG => ?_)
      obtain ⟨M7, hM7⟩ : ∃ X, X = (q_wr M6 176 ((a.toNat)) 1) := ⟨_, rfl⟩
      rw [← hM7] at hG
      have hpv_M7_172 : M7 172 = R := Eq.trans (by rw [hM7, wr_off _ _ _ (by omega)]) hpv_M6_172
      refine lv_aload_n hx hb dX6_save_31 rfl (lv_at hl 0 rfl) ?_
      refine g_get hx hb hts hinX6 hown hG (o := 169) (hdm 169 (by decide)) rfl rfl 5 (by decide) f16 (fun _ h => h) rfl dX6_save_32 ?_
      refine lv_iconst (v := iZ 0) hx hb dX6_save_35 rfl ?_
      refine lv_aload_n hx hb dX6_save_36 rfl (lv_at hl 0 rfl) ?_
      refine g_get hx hb hts hinX6 hown hG (o := 169) (hdm 169 (by decide)) rfl rfl 9 (by decide) f25 (fun _ h => h) rfl dX6_save_37 ?_
      refine lv_sipush (v := iZ (146)) hx hb dX6_save_40 (by decide) ?_
      refine lv_iload_n hx hb dX6_save_43 rfl (lv_at hl 1 rfl) ?_
      refine z_imul (z := (146 * a)) hx hb (by omega) dX6_save_44 ?_
      rw [show (146 * a) = ((146 * a.toNat : Nat) : Int) by omega]
      refine g_vcallS (As := [.ref (gad G 172), .int (iZ 0), .ref (gad G 175), .int (iZ ((146 * a.toNat : Nat) : Int))]) (rest := []) ⟨hx, hb, hml, hown, hts⟩ (c_X6_copyPage l G M7 hdm 172 175 146 292 0 (146 * a.toNat) (by decide) (by decide) (fun f => rfl) (fun f => rfl) (by decide) (by omega) (by decide) (by decide) (by decide)) (va_cwS 4 hts gX6_save_X6_copyPage rfl rfl rfl (by decide +kernel) ⟨Nat.le_of_ble_eq_true rfl, Nat.le_of_ble_eq_true rfl⟩) hG rfl hl.1 rfl (Nat.le_of_ble_eq_true rfl) dX6_save_45 ⟨Nat.zero_le _, Nat.zero_le _⟩ (fun M9 H locs hp_45 hG => ?_)
      rw [hpv_M7_172] at hp_45
      obtain ⟨hpa_M9, hpb_M9, hpo_M9⟩ := hp_45
      have hpv_M9_172 : M9 172 = R := Eq.trans (hpo_M9 172 (by decide)) hpv_M7_172
      refine lv_aload_n hx hb dX6_save_48 rfl (lv_at hl 0 rfl) ?_
      refine g_get hx hb hts hinX6 hown hG (o := 169) (hdm 169 (by decide)) rfl rfl 5 (by decide) f16 (fun _ h => h) rfl dX6_save_49 ?_
      refine g_callS (As := [.ref (gad G 172)]) (rest := []) ⟨hx, hb, hml, hown, hts⟩ (c_X6_runners l G M9 hdm 172 (Or.inr (Or.inl rfl)) (by rw [hpv_M9_172]; exact hI)) (va_cwS 1 hts gX6_save_X6_runners rfl rfl rfl (by decide +kernel) ⟨Nat.le_of_ble_eq_true rfl, Nat.le_of_ble_eq_true rfl⟩) hG rfl hl.1 rfl (Nat.le_of_ble_eq_true rfl) dX6_save_52 ⟨Nat.zero_le _, Nat.zero_le _⟩ (fun z10 M11 H locs hp_52 hG => ?_)
      rw [hpv_M9_172] at hp_52
      obtain ⟨hz_52, hM_52⟩ := hp_52; replace hz_52 := hz_52.symm; subst hz_52; replace hM_52 := hM_52.symm; subst hM_52
      exact g_iret (post := fun z M1 => ((if 0 ≤ a ∧ a ≤ 1 then (0 : Int) else 1) = 0 → z = q_nrun R ∧ (∀ k : Nat, k < 146 → M1 175 (146 * a.toNat + k) = M 172 k) ∧ (∀ b : Nat, (b < 146 * a.toNat ∨ 146 * a.toNat + 146 ≤ b) → M1 175 b = M 175 b) ∧ M1 176 a.toNat = 1 ∧ (∀ b : Nat, b ≠ a.toNat → M1 176 b = M 176 b) ∧ M1 169 2 = M 169 2 ∧ M1 169 8 = M 169 8 ∧ ∀ x, x ≠ 169 → x ≠ 175 → x ≠ 176 → M1 x = M x) ∧ ((if 0 ≤ a ∧ a ≤ 1 then (0 : Int) else 1) ≠ 0 → q_ms M M1) ∧ M1 169 0 = (if 0 ≤ a ∧ a ≤ 1 then (0 : Int) else 1)) (z := (q_nrun R)) hx hb hr hG hlocks (⟨fun _ => ⟨rfl, (q_msv hM6 hM7 (fun k9 hk9 => (hpa_M9 k9 hk9).trans (congrFun hpv_M7_172.symm _)) hpb_M9 hpo_M9).1⟩, fun h9 => absurd hcd9 h9, by rw [hcd9]; exact (q_msv hM6 hM7 (fun k9 hk9 => (hpa_M9 k9 hk9).trans (congrFun hpv_M7_172.symm _)) hpb_M9 hpo_M9).2⟩) dX6_save_55
    · exfalso; omega
set_option maxHeartbeats 4000000 in
set_option maxRecDepth 100000 in
theorem c_X6_restore (l : Launch) (G : gG) (M : Nat → Nat → Int) (hdm : ∀ k, k < 179 → gdm G k) (a : Int) (ha9 : -2147483648 ≤ a ∧ a < 2147483648) (hsv : ∀ j : Nat, j < 2 → M 176 j = 0 ∨ M 176 j = 1) (hK : M 176 a.toNat = 1 → q_inv (fun k => M 175 (146 * a.toNat + k))) : gMi l yX6_restore wsX6_restore ({ frames := 3, cells := 0, slots := 0, locals := 63 } : Room) G M [.ref (gad G 169), .int (iZ a)] (fun z M1 => ((if ¬ (0 ≤ a ∧ a ≤ 1) then (1 : Int) else if M 176 a.toNat = 0 then 2 else 0) = 0 → z = q_nrun (fun k => M 175 (146 * a.toNat + k)) ∧ M1 172 = (fun k => M 175 (146 * a.toNat + k)) ∧ M1 169 8 = 0 ∧ M1 169 2 = M 169 2 ∧ ∀ x, x ≠ 169 → x ≠ 172 → M1 x = M x) ∧ ((if ¬ (0 ≤ a ∧ a ≤ 1) then (1 : Int) else if M 176 a.toNat = 0 then 2 else 0) ≠ 0 → q_ms M M1) ∧ M1 169 0 = (if ¬ (0 ≤ a ∧ a ≤ 1) then (1 : Int) else if M 176 a.toNat = 0 then 2 else 0)) := by
  refine gMi_of (cc := cX6_restore) (maxL := 2) (ret := some .int) (by decide) rfl (Nat.le_of_ble_eq_true rfl) ?_
  intro p e s m below meth c ls hx hb hr hml hown hts hlocks hl hG
  have hown : s.vm.findClass RX6 = some m.cls := hown
  have hl : lv_has ls 2 [(0, .ref (gad G 169)), (1, .int (iZ a))] := hl
  have hinX6 : ∀ w ∈ u_ws RX6 TX6 13, w ∈ wsX6_restore := by decide +kernel
  have f16 := hts (.fieldLink RX6 16 "DogTrialsModel" "now" "[I") (by decide +kernel)
  have f25 := hts (.fieldLink RX6 25 "DogTrialsModel" "kept" "[I") (by decide +kernel)
  have f28 := hts (.fieldLink RX6 28 "DogTrialsModel" "isKept" "[Z") (by decide +kernel)
  have f149 := hts (.fieldLink RX6 149 "DogTrialsModel" "acts" "I") (by decide +kernel)
  refine lv_aload_n hx hb dX6_restore_0 rfl (lv_at hl 0 rfl) ?_
  refine lv_iload_n hx hb dX6_restore_1 rfl (lv_at hl 1 rfl) ?_
  refine z_i2l hx hb (by omega) dX6_restore_2 ?_
  refine lv_lconst (v := lZ 0) hx hb dX6_restore_3 rfl ?_
  refine lv_lconst (v := lZ 1) hx hb dX6_restore_4 rfl ?_
  refine g_callS (As := [.long (lZ a), .long (lZ 0), .long (lZ 1)]) (rest := [.ref (gad G 169)]) ⟨hx, hb, hml, hown, hts⟩ (c_X6_in l G M a 0 1 (by omega) (by omega) (by omega)) (va_cwS 3 hts gX6_restore_X6_in rfl rfl rfl (by decide +kernel) ⟨Nat.le_of_ble_eq_true rfl, Nat.le_of_ble_eq_true rfl⟩) hG rfl hl.1 rfl (Nat.le_of_ble_eq_true rfl) dX6_restore_5 ⟨Nat.zero_le _, Nat.zero_le _⟩ (fun z1 M2 H locs hp_5 hG => ?_)
  obtain ⟨hz_5, hM_5⟩ := hp_5; replace hz_5 := hz_5.symm; subst hz_5; replace hM_5 := hM_5.symm; subst hM_5
  refine z_ifP_ne (tgt := 15) hx hb dX6_restore_8 (by decide) (fun c_8 => ?_) (fun c_8 => ?_)
  · skip
    have hna : a = ((a.toNat : Nat) : Int) := by omega
    have hs9 := hsv a.toNat (by omega)
    refine lv_aload_n hx hb dX6_restore_15 rfl (lv_at hl 0 rfl) ?_
    refine g_get hx hb hts hinX6 hown hG (o := 169) (hdm 169 (by decide)) rfl rfl 10 (by decide) f28 (fun _ h => h) rfl dX6_restore_16 ?_
    refine lv_iload_n hx hb dX6_restore_19 rfl (lv_at hl 1 rfl) ?_
    refine g_zald (z := (M 176 ((a.toNat)))) (j := ((a.toNat))) hx hb hG (o := 176) (hdm 176 (by decide)) rfl (by omega) (by omega) (by omega) rfl dX6_restore_20 ?_
    refine z_if_ne (tgt := 28) hx hb (by omega) dX6_restore_21 (by decide) (fun c_21 => ?_) (fun c_21 => ?_)
    · skip
      refine lv_iconst (v := iZ 0) hx hb dX6_restore_28 rfl ?_
      refine g_callV (b := 169) (As := [.int (iZ 0)]) (rest := []) ⟨hx, hb, hml, hown, hts⟩ (c_X6_refused l G M hdm 0 (by omega)) (cwV 1 hts gX6_restore_X6_refused rfl rfl rfl (by decide +kernel) ⟨Nat.le_of_ble_eq_true rfl, Nat.le_of_ble_eq_true rfl⟩) hG (g_recv hG (b := 169) (hdm 169 (by decide)) rfl rfl) rfl hl.1 rfl (Nat.le_of_ble_eq_true rfl) dX6_restore_29 ⟨Nat.zero_le _, Nat.zero_le _⟩ (fun z3 M4 H locs hp_29 hG => ?_)
      obtain ⟨hz_29, hM4⟩ := hp_29; rw [if_neg (by decide)] at hz_29; replace hz_29 := hz_29.symm; subst hz_29
      have hcd9 : (if ¬ (0 ≤ a ∧ a ≤ 1) then (1 : Int) else if M 176 a.toNat = 0 then 2 else 0) = (0 : Int) := by (repeat' split) <;> first | rfl | omega | (exfalso; omega) | contradiction
      refine z_if_eq (tgt := 37) hx hb (by decide) dX6_restore_32 (by decide) (fun c_32 => ?_) (fun c_32 => ?_)
      · skip
        refine lv_aload_n hx hb dX6_restore_37 rfl (lv_at hl 0 rfl) ?_
        refine g_get hx hb hts hinX6 hown hG (o := 169) (hdm 169 (by decide)) rfl rfl 9 (by decide) f25 (fun _ h => h) rfl dX6_restore_38 ?_
        refine lv_sipush (v := iZ (146)) hx hb dX6_restore_41 (by decide) ?_
        refine lv_iload_n hx hb dX6_restore_44 rfl (lv_at hl 1 rfl) ?_
        refine z_imul (z := (146 * a)) hx hb (by omega) dX6_restore_45 ?_
        refine lv_aload_n hx hb dX6_restore_46 rfl (lv_at hl 0 rfl) ?_
        refine g_get hx hb hts hinX6 hown hG (o := 169) (hdm 169 (by decide)) rfl rfl 5 (by decide) f16 (fun _ h => h) rfl dX6_restore_47 ?_
        refine lv_iconst (v := iZ 0) hx hb dX6_restore_50 rfl ?_
        rw [show (146 * a) = ((146 * a.toNat : Nat) : Int) by omega]
        refine g_vcallS (As := [.ref (gad G 175), .int (iZ ((146 * a.toNat : Nat) : Int)), .ref (gad G 172), .int (iZ 0)]) (rest := []) ⟨hx, hb, hml, hown, hts⟩ (c_copyTo l G M4 hdm 175 292 (146 * a.toNat) 172 (by decide) (fun f => rfl) (by omega) (by decide) (Or.inr (Or.inl rfl)) (by decide)) (va_cwS 4 hts gX6_restore_X6_copyPage rfl rfl rfl (by decide +kernel) ⟨Nat.le_of_ble_eq_true rfl, Nat.le_of_ble_eq_true rfl⟩) hG rfl hl.1 rfl (Nat.le_of_ble_eq_true rfl) dX6_restore_51 ⟨Nat.zero_le _, Nat.zero_le _⟩ (fun M6 H locs hp_51 hG => ?_)
        have hpv_M6_172 : M6 172 = (fun k => M4 175 ((146 * a.toNat) + k)) := by rw [hp_51, q_set_at]
        have hpg9 : M6 172 = (fun k => M 175 (146 * a.toNat + k)) := by rw [hp_51, q_set_at, hM4, wr_off _ _ _ (by decide)]
        have hKI9 : q_inv (fun k => M 175 (146 * a.toNat + k)) := hK (by omega)
        have hst9 : M6 = q_set M4 172 (fun k => M 175 (146 * a.toNat + k)) := by rw [hp_51, show M4 175 = M 175 from by rw [hM4, wr_off _ _ _ (by decide)]]
        refine lv_aload_n hx hb dX6_restore_54 rfl (lv_at hl 0 rfl) ?_
        refine lv_iconst (v := iZ 0) hx hb dX6_restore_55 rfl ?_
        refine g_put (F := (oR G)) hx hb hts hinX6 tyX6 tyX6_ok nmX6 hown hG (o := 169) (hdm 169 (by decide)) (fun f => rfl) rfl 8 (by decide) f149 (fun _ h => h) rfl rfl (fun _ => Nat.lt_of_lt_of_le (by decide) (Nat.le_refl 13)) (fun _ => rfl) dX6_restore_56 (fun H locs hG => ?_)
        obtain ⟨M7, hM7⟩ : ∃ X, X = (q_wr M6 169 8 0) := ⟨_, rfl⟩
        rw [← hM7] at hG
        have hpv_M7_172 : M7 172 = (fun k => M 175 (146 * a.toNat + k)) := Eq.trans (by rw [hM7, wr_off _ _ _ (by omega)]) hpg9
        refine lv_aload_n hx hb dX6_restore_59 rfl (lv_at hl 0 rfl) ?_
        refine g_get hx hb hts hinX6 hown hG (o := 169) (hdm 169 (by decide)) rfl rfl 5 (by decide) f16 (fun _ h => h) rfl dX6_restore_60 ?_
        refine g_callS (As := [.ref (gad G 172)]) (rest := []) ⟨hx, hb, hml, hown, hts⟩ (c_X6_runners l G M7 hdm 172 (Or.inr (Or.inl rfl)) (by rw [hpv_M7_172]; exact hKI9)) (va_cwS 1 hts gX6_restore_X6_runners rfl rfl rfl (by decide +kernel) ⟨Nat.le_of_ble_eq_true rfl, Nat.le_of_ble_eq_true rfl⟩) hG rfl hl.1 rfl (Nat.le_of_ble_eq_true rfl) dX6_restore_63 ⟨Nat.zero_le _, Nat.zero_le _⟩ (fun z8 M9 H locs hp_63 hG => ?_)
        rw [hpv_M7_172] at hp_63
        obtain ⟨hz_63, hM_63⟩ := hp_63; replace hz_63 := hz_63.symm; subst hz_63; replace hM_63 := hM_63.symm; subst hM_63
        exact g_iret (post := fun z M1 => ((if ¬ (0 ≤ a ∧ a ≤ 1) then (1 : Int) else if M 176 a.toNat = 0 then 2 else 0) = 0 → z = q_nrun (fun k => M 175 (146 * a.toNat + k)) ∧ M1 172 = (fun k => M 175 (146 * a.toNat + k)) ∧ M1 169 8 = 0 ∧ M1 169 2 = M 169 2 ∧ ∀ x, x ≠ 169 → x ≠ 172 → M1 x = M x) ∧ ((if ¬ (0 ≤ a ∧ a ≤ 1) then (1 : Int) else if M 176 a.toNat = 0 then 2 else 0) ≠ 0 → q_ms M M1) ∧ M1 169 0 = (if ¬ (0 ≤ a ∧ a ≤ 1) then (1 : Int) else if M 176 a.toNat = 0 then 2 else 0)) (z := (q_nrun (fun k => M 175 (146 * a.toNat + k)))) hx hb hr hG hlocks (⟨fun _ => ⟨rfl, (q_mrs hM4 hst9 hM7).1⟩, fun h9 => absurd hcd9 h9, by rw [hcd9]; exact (q_mrs hM4 hst9 hM7).2⟩) dX6_restore_66
      · exfalso; omega
    · skip
      refine lv_iconst (v := iZ 2) hx hb dX6_restore_24 rfl ?_
      refine lv_goto (tgt := 29) hx hb dX6_restore_25 (by decide) ?_
      refine g_callV (b := 169) (As := [.int (iZ 2)]) (rest := []) ⟨hx, hb, hml, hown, hts⟩ (c_X6_refused l G M hdm 2 (by omega)) (cwV 1 hts gX6_restore_X6_refused rfl rfl rfl (by decide +kernel) ⟨Nat.le_of_ble_eq_true rfl, Nat.le_of_ble_eq_true rfl⟩) hG (g_recv hG (b := 169) (hdm 169 (by decide)) rfl rfl) rfl hl.1 rfl (Nat.le_of_ble_eq_true rfl) dX6_restore_29 ⟨Nat.zero_le _, Nat.zero_le _⟩ (fun z10 M11 H locs hp_29 hG => ?_)
      obtain ⟨hz_29, hM11⟩ := hp_29; rw [if_pos (by decide)] at hz_29; replace hz_29 := hz_29.symm; subst hz_29
      have hcd9 : (if ¬ (0 ≤ a ∧ a ≤ 1) then (1 : Int) else if M 176 a.toNat = 0 then 2 else 0) = (2 : Int) := by (repeat' split) <;> first | rfl | omega | (exfalso; omega) | contradiction
      refine z_if_eq (tgt := 37) hx hb (by decide) dX6_restore_32 (by decide) (fun c_32 => ?_) (fun c_32 => ?_)
      · exfalso; omega
      · skip
        refine lv_iconst (v := iZ 0) hx hb dX6_restore_35 rfl ?_
        exact g_iret (post := fun z M1 => ((if ¬ (0 ≤ a ∧ a ≤ 1) then (1 : Int) else if M 176 a.toNat = 0 then 2 else 0) = 0 → z = q_nrun (fun k => M 175 (146 * a.toNat + k)) ∧ M1 172 = (fun k => M 175 (146 * a.toNat + k)) ∧ M1 169 8 = 0 ∧ M1 169 2 = M 169 2 ∧ ∀ x, x ≠ 169 → x ≠ 172 → M1 x = M x) ∧ ((if ¬ (0 ≤ a ∧ a ≤ 1) then (1 : Int) else if M 176 a.toNat = 0 then 2 else 0) ≠ 0 → q_ms M M1) ∧ M1 169 0 = (if ¬ (0 ≤ a ∧ a ≤ 1) then (1 : Int) else if M 176 a.toNat = 0 then 2 else 0)) (z := 0) hx hb hr hG hlocks (⟨fun h9 => absurd h9 (by rw [hcd9]; decide), fun _ => (q_mq.rf hM11).2, by rw [hcd9]; exact (q_mq.rf hM11).1⟩) dX6_restore_36
  · skip
    refine lv_iconst (v := iZ 1) hx hb dX6_restore_11 rfl ?_
    refine lv_goto (tgt := 29) hx hb dX6_restore_12 (by decide) ?_
    refine g_callV (b := 169) (As := [.int (iZ 1)]) (rest := []) ⟨hx, hb, hml, hown, hts⟩ (c_X6_refused l G M hdm 1 (by omega)) (cwV 1 hts gX6_restore_X6_refused rfl rfl rfl (by decide +kernel) ⟨Nat.le_of_ble_eq_true rfl, Nat.le_of_ble_eq_true rfl⟩) hG (g_recv hG (b := 169) (hdm 169 (by decide)) rfl rfl) rfl hl.1 rfl (Nat.le_of_ble_eq_true rfl) dX6_restore_29 ⟨Nat.zero_le _, Nat.zero_le _⟩ (fun z12 M13 H locs hp_29 hG => ?_)
    obtain ⟨hz_29, hM13⟩ := hp_29; rw [if_pos (by decide)] at hz_29; replace hz_29 := hz_29.symm; subst hz_29
    have hcd9 : (if ¬ (0 ≤ a ∧ a ≤ 1) then (1 : Int) else if M 176 a.toNat = 0 then 2 else 0) = (1 : Int) := by (repeat' split) <;> first | rfl | omega | (exfalso; omega) | contradiction
    refine z_if_eq (tgt := 37) hx hb (by decide) dX6_restore_32 (by decide) (fun c_32 => ?_) (fun c_32 => ?_)
    · exfalso; omega
    · skip
      refine lv_iconst (v := iZ 0) hx hb dX6_restore_35 rfl ?_
      exact g_iret (post := fun z M1 => ((if ¬ (0 ≤ a ∧ a ≤ 1) then (1 : Int) else if M 176 a.toNat = 0 then 2 else 0) = 0 → z = q_nrun (fun k => M 175 (146 * a.toNat + k)) ∧ M1 172 = (fun k => M 175 (146 * a.toNat + k)) ∧ M1 169 8 = 0 ∧ M1 169 2 = M 169 2 ∧ ∀ x, x ≠ 169 → x ≠ 172 → M1 x = M x) ∧ ((if ¬ (0 ≤ a ∧ a ≤ 1) then (1 : Int) else if M 176 a.toNat = 0 then 2 else 0) ≠ 0 → q_ms M M1) ∧ M1 169 0 = (if ¬ (0 ≤ a ∧ a ≤ 1) then (1 : Int) else if M 176 a.toNat = 0 then 2 else 0)) (z := 0) hx hb hr hG hlocks (⟨fun h9 => absurd h9 (by rw [hcd9]; decide), fun _ => (q_mq.rf hM13).2, by rw [hcd9]; exact (q_mq.rf hM13).1⟩) dX6_restore_36
