set_option maxHeartbeats 4000000 in
set_option maxRecDepth 100000 in
theorem c_X6_mayLose (l : Launch) (G : gG) (M : Nat → Nat → Int) (hdm : ∀ k, k < 179 → gdm G k) (R : Nat → Int) (hRM : M 172 = R) (hI : q_inv R) (hI2 : q_in2 R) (a : Int) (ha9 : -2147483648 ≤ a ∧ a < 2147483648) (b : Int) (hb9 : -2147483648 ≤ b ∧ b < 2147483648) : gMi l yX6_mayLose wsX6_mayLose ({ frames := 3, cells := 0, slots := 0, locals := 65 } : Room) G M [.ref (gad G 169), .int (iZ a), .int (iZ b)] (fun z M1 => ((if ¬ (0 ≤ a ∧ a < q_nd R) then (1 : Int) else if ¬ (1 ≤ b ∧ b ≤ 12) then 2 else 0) = 0 → z = q_ml R a.toNat b) ∧ q_mq (if ¬ (0 ≤ a ∧ a < q_nd R) then (1 : Int) else if ¬ (1 ≤ b ∧ b ≤ 12) then 2 else 0) M M1) := by
  refine gMi_of (cc := cX6_mayLose) (maxL := 9) (ret := some .int) (by decide) rfl (Nat.le_of_ble_eq_true rfl) ?_
  intro p e s m below meth c ls hx hb hr hml hown hts hlocks hl hG
  have hown : s.vm.findClass RX6 = some m.cls := hown
  have hl : lv_has ls 9 [(0, .ref (gad G 169)), (1, .int (iZ a)), (2, .int (iZ b))] := hl
  have hinX6 : ∀ w ∈ u_ws RX6 TX6 13, w ∈ wsX6_mayLose := by decide +kernel
  have f16 := hts (.fieldLink RX6 16 "DogTrialsModel" "now" "[I") (by decide +kernel)
  have hnd := hI.1
  refine lv_aload_n hx hb dX6_mayLose_0 rfl (lv_at hl 0 rfl) ?_
  refine lv_aload_n hx hb dX6_mayLose_1 rfl (lv_at hl 0 rfl) ?_
  refine g_get hx hb hts hinX6 hown hG (o := 169) (hdm 169 (by decide)) rfl rfl 5 (by decide) f16 (fun _ h => h) rfl dX6_mayLose_2 ?_
  refine lv_iload_n hx hb dX6_mayLose_5 rfl (lv_at hl 1 rfl) ?_
  refine g_callS (As := [.ref (gad G 172), .int (iZ a)]) (rest := [.ref (gad G 169)]) ⟨hx, hb, hml, hown, hts⟩ (c_X6_isDog l G M hdm 172 (Or.inr (Or.inl rfl)) (by rw [hRM]; exact hI) a (by omega)) (va_cwS 2 hts gX6_mayLose_X6_isDog rfl rfl rfl (by decide +kernel) ⟨Nat.le_of_ble_eq_true rfl, Nat.le_of_ble_eq_true rfl⟩) hG rfl hl.1 rfl (Nat.le_of_ble_eq_true rfl) dX6_mayLose_6 ⟨Nat.zero_le _, Nat.zero_le _⟩ (fun z1 M2 H locs hp_6 hG => ?_)
  rw [hRM] at hp_6
  obtain ⟨hz_6, hM_6⟩ := hp_6; replace hz_6 := hz_6.symm; subst hz_6; replace hM_6 := hM_6.symm; subst hM_6
  refine z_ifP_ne (tgt := 16) hx hb dX6_mayLose_9 (by decide) (fun c_9 => ?_) (fun c_9 => ?_)
  · skip
    have hna : a = ((a.toNat : Nat) : Int) := by omega
    refine lv_iload_n hx hb dX6_mayLose_16 rfl (lv_at hl 2 rfl) ?_
    refine z_i2l hx hb (by omega) dX6_mayLose_17 ?_
    refine lv_lconst (v := lZ 1) hx hb dX6_mayLose_18 rfl ?_
    refine lv_ldc2 (v := lZ 12) hx hb hown (by rw [show lZ 12 = (12 : Int64) from by decide]; exact hts (.constantLong RX6 219 12) (by decide +kernel)) dX6_mayLose_19 ?_
    refine g_callS (As := [.long (lZ b), .long (lZ 1), .long (lZ 12)]) (rest := [.ref (gad G 169)]) ⟨hx, hb, hml, hown, hts⟩ (c_X6_in l G M b 1 12 (by omega) (by omega) (by omega)) (va_cwS 3 hts gX6_mayLose_X6_in rfl rfl rfl (by decide +kernel) ⟨Nat.le_of_ble_eq_true rfl, Nat.le_of_ble_eq_true rfl⟩) hG rfl hl.1 rfl (Nat.le_of_ble_eq_true rfl) dX6_mayLose_22 ⟨Nat.zero_le _, Nat.zero_le _⟩ (fun z3 M4 H locs hp_22 hG => ?_)
    obtain ⟨hz_22, hM_22⟩ := hp_22; replace hz_22 := hz_22.symm; subst hz_22; replace hM_22 := hM_22.symm; subst hM_22
    refine z_ifP_ne (tgt := 32) hx hb dX6_mayLose_25 (by decide) (fun c_25 => ?_) (fun c_25 => ?_)
    · skip
      refine lv_iconst (v := iZ 0) hx hb dX6_mayLose_32 rfl ?_
      refine g_callV (b := 169) (As := [.int (iZ 0)]) (rest := []) ⟨hx, hb, hml, hown, hts⟩ (c_X6_refused l G M hdm 0 (by omega)) (cwV 1 hts gX6_mayLose_X6_refused rfl rfl rfl (by decide +kernel) ⟨Nat.le_of_ble_eq_true rfl, Nat.le_of_ble_eq_true rfl⟩) hG (g_recv hG (b := 169) (hdm 169 (by decide)) rfl rfl) rfl hl.1 rfl (Nat.le_of_ble_eq_true rfl) dX6_mayLose_33 ⟨Nat.zero_le _, Nat.zero_le _⟩ (fun z5 M6 H locs hp_33 hG => ?_)
      obtain ⟨hz_33, hM6⟩ := hp_33; rw [if_neg (by decide)] at hz_33; replace hz_33 := hz_33.symm; subst hz_33
      have hpv_M6_172 : M6 172 = R := Eq.trans (by rw [hM6]; exact wr_off _ _ _ (by decide)) hRM
      have hcd9 : (if ¬ (0 ≤ a ∧ a < q_nd R) then (1 : Int) else if ¬ (1 ≤ b ∧ b ≤ 12) then 2 else 0) = (0 : Int) := by (repeat' split) <;> first | rfl | omega | (exfalso; omega) | contradiction
      refine z_if_eq (tgt := 41) hx hb (by decide) dX6_mayLose_36 (by decide) (fun c_36 => ?_) (fun c_36 => ?_)
      · skip
        have hna : a = ((a.toNat : Nat) : Int) := by omega
        have hdo := dok5 hI a.toNat (by omega)
        have hs0 := sc_in (hI.2.1 a.toNat (by omega))
        have htw9 := q_tw_in hI (i := a.toNat) (by omega)
        refine lv_aload_n hx hb dX6_mayLose_41 rfl (lv_at hl 0 rfl) ?_
        refine g_get hx hb hts hinX6 hown hG (o := 169) (hdm 169 (by decide)) rfl rfl 5 (by decide) f16 (fun _ h => h) rfl dX6_mayLose_42 ?_
        refine lv_iload_n hx hb dX6_mayLose_45 rfl (lv_at hl 1 rfl) ?_
        refine g_callS (As := [.ref (gad G 172), .int (iZ ((a.toNat) : Int))]) (rest := []) ⟨hx, hb, hml, hown, hts⟩ (c_X6_isToRun l G M6 hdm 172 (Or.inr (Or.inl rfl)) (by rw [hpv_M6_172]; exact hI) ((a.toNat)) (by first | omega | (rw [hpv_M6_172]; omega))) (va_cwS 2 hts gX6_mayLose_X6_isToRun rfl rfl rfl (by decide +kernel) ⟨Nat.le_of_ble_eq_true rfl, Nat.le_of_ble_eq_true rfl⟩) hG rfl hl.1 (by rw [← hna]; rfl) (Nat.le_of_ble_eq_true rfl) dX6_mayLose_46 ⟨Nat.zero_le _, Nat.zero_le _⟩ (fun z7 M8 H locs hp_46 hG => ?_)
        rw [hpv_M6_172] at hp_46
        obtain ⟨hz_46, hM_46⟩ := hp_46; replace hz_46 := hz_46.symm; subst hz_46; replace hM_46 := hM_46.symm; subst hM_46
        refine z_ifP_ne (tgt := 55) hx hb dX6_mayLose_49 (by decide) (fun c_49 => ?_) (fun c_49 => ?_)
        · skip
          refine lv_aload_n hx hb dX6_mayLose_55 rfl (lv_at hl 0 rfl) ?_
          refine g_get hx hb hts hinX6 hown hG (o := 169) (hdm 169 (by decide)) rfl rfl 5 (by decide) f16 (fun _ h => h) rfl dX6_mayLose_56 ?_
          refine lv_iload_n hx hb dX6_mayLose_59 rfl (lv_at hl 1 rfl) ?_
          refine g_callS (As := [.ref (gad G 172), .int (iZ ((a.toNat) : Int))]) (rest := []) ⟨hx, hb, hml, hown, hts⟩ (c_X6_score l G M6 hdm 172 (Or.inr (Or.inl rfl)) (by rw [hpv_M6_172]; exact hI) ((a.toNat)) (by first | omega | (rw [hpv_M6_172]; omega))) (va_cwS 2 hts gX6_mayLose_X6_score rfl rfl rfl (by decide +kernel) ⟨Nat.le_of_ble_eq_true rfl, Nat.le_of_ble_eq_true rfl⟩) hG rfl hl.1 (by rw [← hna]; rfl) (Nat.le_of_ble_eq_true rfl) dX6_mayLose_60 ⟨Nat.zero_le _, Nat.zero_le _⟩ (fun z9 M10 H locs hp_60 hG => ?_)
          rw [hpv_M6_172] at hp_60
          obtain ⟨hz_60, hM_60⟩ := hp_60; replace hz_60 := hz_60.symm; subst hz_60; replace hM_60 := hM_60.symm; subst hM_60
          refine lv_istore_n (lv' := [(3, .int (iZ (q_sc R ((a.toNat))))), (0, .ref (gad G 169)), (1, .int (iZ a)), (2, .int (iZ b))]) hx hb dX6_mayLose_63 rfl hl (by decide) rfl (fun ls hl => ?_)
          refine lv_iconst (v := iZ 0) hx hb dX6_mayLose_64 rfl ?_
          refine lv_istore (lv' := [(4, .int (iZ 0)), (3, .int (iZ (q_sc R ((a.toNat))))), (0, .ref (gad G 169)), (1, .int (iZ a)), (2, .int (iZ b))]) hx hb dX6_mayLose_65 hl (by decide) rfl (fun ls hl => ?_)
          refine lv_aload_n hx hb dX6_mayLose_67 rfl (lv_at hl 2 rfl) ?_
          refine g_get hx hb hts hinX6 hown hG (o := 169) (hdm 169 (by decide)) rfl rfl 5 (by decide) f16 (fun _ h => h) rfl dX6_mayLose_68 ?_
          refine lv_iload_n hx hb dX6_mayLose_71 rfl (lv_at hl 3 rfl) ?_
          refine g_callS (As := [.ref (gad G 172), .int (iZ ((a.toNat) : Int))]) (rest := []) ⟨hx, hb, hml, hown, hts⟩ (c_X6_stateOf l G M6 hdm 172 (Or.inr (Or.inl rfl)) (by rw [hpv_M6_172]; exact hI) ((a.toNat)) (by first | omega | (rw [hpv_M6_172]; omega))) (va_cwS 2 hts gX6_mayLose_X6_stateOf rfl rfl rfl (by decide +kernel) ⟨Nat.le_of_ble_eq_true rfl, Nat.le_of_ble_eq_true rfl⟩) hG rfl hl.1 (by rw [← hna]; rfl) (Nat.le_of_ble_eq_true rfl) dX6_mayLose_72 ⟨Nat.zero_le _, Nat.zero_le _⟩ (fun z11 M12 H locs hp_72 hG => ?_)
          rw [hpv_M6_172] at hp_72
          obtain ⟨hz_72, hM_72⟩ := hp_72; replace hz_72 := hz_72.symm; subst hz_72; replace hM_72 := hM_72.symm; subst hM_72
          refine lv_iconst (v := iZ 2) hx hb dX6_mayLose_75 rfl ?_
          refine z_icmp_ne (tgt := 93) hx hb (by omega) (by decide) dX6_mayLose_76 (by decide) (fun c_76 => ?_) (fun c_76 => ?_)
          · skip
            refine lv_iconst (v := iZ 0) hx hb dX6_mayLose_93 rfl ?_
            have hfv : 0 = q_fp R a.toNat := by unfold q_fp; first | (rw [if_pos (by omega)]; done) | (rw [if_neg (by omega)]; done)
            have hfr9 : 0 ≤ q_fp R a.toNat ∧ q_fp R a.toNat ≤ 6 := by omega
            refine lv_istore (lv' := [(5, .int (iZ 0)), (4, .int (iZ 0)), (3, .int (iZ (q_sc R ((a.toNat))))), (0, .ref (gad G 169)), (1, .int (iZ a)), (2, .int (iZ b))]) hx hb dX6_mayLose_94 hl (by decide) rfl (fun ls hl => ?_)
            refine lv_iload hx hb dX6_mayLose_96 (lv_at hl 0 rfl) ?_
            refine lv_istore (lv' := [(6, .int (iZ 0)), (5, .int (iZ 0)), (4, .int (iZ 0)), (3, .int (iZ (q_sc R ((a.toNat))))), (0, .ref (gad G 169)), (1, .int (iZ a)), (2, .int (iZ b))]) hx hb dX6_mayLose_98 hl (by decide) rfl (fun ls hl => ?_)
            have L_100 : ∀ (n_100 : Nat) (k : Nat) (x_i : Int) (x_c : Int), (x_i = (k : Int)) → (x_c = ((q_sm q_wth k) - (q_sm q_wth (q_fp R a.toNat).toNat))) → (k ≤ 6) → ((q_fp R a.toNat).toNat ≤ k) → 6 - k < n_100 → ∀ (H : Heap) (locs : List Loc) (ls : Array Slot), gH G M6 s H locs → lv_has ls 9 [(6, .int (iZ x_i)), (5, .int (iZ 0)), (4, .int (iZ x_c)), (3, .int (iZ (q_sc R ((a.toNat))))), (0, .ref (gad G 169)), (1, .int (iZ a)), (2, .int (iZ b))] → W p l e ({ frames := 3, cells := 0, slots := 0, locals := 65 } : Room) s m [.ref (gad G 169), .int (iZ a), .int (iZ b)].toArray below meth c H locs 0 0 (MQ below (va_Qi (fun r (u : Int × (Nat → Nat → Int)) => r = iZ u.1 ∧ (fun z M1 => ((if ¬ (0 ≤ a ∧ a < q_nd R) then (1 : Int) else if ¬ (1 ≤ b ∧ b ≤ 12) then 2 else 0) = 0 → z = q_ml R a.toNat b) ∧ q_mq (if ¬ (0 ≤ a ∧ a < q_nd R) then (1 : Int) else if ¬ (1 ≤ b ∧ b ≤ 12) then 2 else 0) M M1) u.1 u.2) (fun u U => gB G u.2 U) (gA G)) [.ref (gad G 169), .int (iZ a), .int (iZ b)].toArray s 0 0 (gA G)) (F0 m 100 ls []) := by
              intro n_100
              induction n_100 with
              | zero => intro k x_i x_c he_x_i he_x_c hk hk2 hm_100; exact absurd hm_100 (Nat.not_lt_zero _)
              | succ n_100 ih_100 =>
                intro k x_i x_c he_x_i he_x_c hk hk2 hm_100 H locs ls hG hl
                subst he_x_i
                subst he_x_c
                refine lv_iload hx hb dX6_mayLose_100 (lv_at hl 0 rfl) ?_
                refine lv_bipush (v := iZ (6)) hx hb dX6_mayLose_102 (by decide) ?_
                refine z_icmp_ge (tgt := 123) hx hb (by omega) (by decide) dX6_mayLose_104 (by decide) (fun c_104 => ?_) (fun c_104 => ?_)
                · skip
                  have htw0 : q_sm q_wth k - q_sm q_wth (q_fp R a.toNat).toNat = q_tw R a.toNat := by unfold q_tw; rw [show (6 : Nat) = k by omega]
                  rw [htw0] at hl
                  refine lv_iload hx hb dX6_mayLose_123 (lv_at hl 2 rfl) ?_
                  refine lv_istore (lv' := [(6, .int (iZ (q_tw R a.toNat))), (5, .int (iZ 0)), (4, .int (iZ (q_tw R a.toNat))), (3, .int (iZ (q_sc R ((a.toNat))))), (0, .ref (gad G 169)), (1, .int (iZ a)), (2, .int (iZ b))]) hx hb dX6_mayLose_125 hl (by decide) rfl (fun ls hl => ?_)
                  have L_127 : ∀ (n_127 : Nat) (k : Nat) (x_j : Int), (x_j = ((k : Int) - 1)) → ((k : Int) ≤ q_tw R a.toNat + 1) → (q_dsc (fun x => decide (q_ab R (q_sc R a.toNat + q_tw R a.toNat - (x : Int)) ≤ b - 1)) (q_tw R a.toNat).toNat = if k = 0 then -9 else q_dsc (fun x => decide (q_ab R (q_sc R a.toNat + q_tw R a.toNat - (x : Int)) ≤ b - 1)) (k - 1)) → k + 1 < n_127 → ∀ (H : Heap) (locs : List Loc) (ls : Array Slot), gH G M6 s H locs → lv_has ls 9 [(6, .int (iZ x_j)), (5, .int (iZ 0)), (4, .int (iZ (q_tw R a.toNat))), (3, .int (iZ (q_sc R ((a.toNat))))), (0, .ref (gad G 169)), (1, .int (iZ a)), (2, .int (iZ b))] → W p l e ({ frames := 3, cells := 0, slots := 0, locals := 65 } : Room) s m [.ref (gad G 169), .int (iZ a), .int (iZ b)].toArray below meth c H locs 0 0 (MQ below (va_Qi (fun r (u : Int × (Nat → Nat → Int)) => r = iZ u.1 ∧ (fun z M1 => ((if ¬ (0 ≤ a ∧ a < q_nd R) then (1 : Int) else if ¬ (1 ≤ b ∧ b ≤ 12) then 2 else 0) = 0 → z = q_ml R a.toNat b) ∧ q_mq (if ¬ (0 ≤ a ∧ a < q_nd R) then (1 : Int) else if ¬ (1 ≤ b ∧ b ≤ 12) then 2 else 0) M M1) u.1 u.2) (fun u U => gB G u.2 U) (gA G)) [.ref (gad G 169), .int (iZ a), .int (iZ b)].toArray s 0 0 (gA G)) (F0 m 127 ls []) := by
                    intro n_127
                    induction n_127 with
                    | zero => intro k x_j he_x_j hkk hds hm_127; exact absurd hm_127 (Nat.not_lt_zero _)
                    | succ n_127 ih_127 =>
                      intro k x_j he_x_j hkk hds hm_127 H locs ls hG hl
                      subst he_x_j
                      have hcn9 : 0 < k → q_ct (fun o => decide ((o : Int) ≠ ((a.toNat : Nat) : Int)) && decide (q_sc R a.toNat + q_tw R a.toNat - ((k : Int) - 1) < q_sc R o)) (q_nd R).toNat = q_ab R (q_sc R a.toNat + q_tw R a.toNat - ((k : Int) - 1)) := fun _ => q_ml_cnt (by omega)
                      refine lv_iload hx hb dX6_mayLose_127 (lv_at hl 0 rfl) ?_
                      refine z_if_lt (tgt := 206) hx hb (by omega) dX6_mayLose_129 (by decide) (fun c_129 => ?_) (fun c_129 => ?_)
                      · skip
                        refine lv_bipush (v := iZ (-9)) hx hb dX6_mayLose_206 (by decide) ?_
                        exact g_iret (post := fun z M1 => ((if ¬ (0 ≤ a ∧ a < q_nd R) then (1 : Int) else if ¬ (1 ≤ b ∧ b ≤ 12) then 2 else 0) = 0 → z = q_ml R a.toNat b) ∧ q_mq (if ¬ (0 ≤ a ∧ a < q_nd R) then (1 : Int) else if ¬ (1 ≤ b ∧ b ≤ 12) then 2 else 0) M M1) (z := (-9)) hx hb hr hG hlocks (⟨fun _ => by unfold q_ml; rw [if_pos (by assumption), q_best_eq hI hI2 (i := a.toNat) (by omega) (by assumption), hds, if_pos (by omega)], by rw [hcd9]; exact (q_mq.rf hM6)⟩) dX6_mayLose_208
                      · skip
                        refine lv_iconst (v := iZ 0) hx hb dX6_mayLose_132 rfl ?_
                        refine lv_istore (lv' := [(7, .int (iZ 0)), (6, .int (iZ ((k : Int) - 1))), (5, .int (iZ 0)), (4, .int (iZ (q_tw R a.toNat))), (3, .int (iZ (q_sc R ((a.toNat))))), (0, .ref (gad G 169)), (1, .int (iZ a)), (2, .int (iZ b))]) hx hb dX6_mayLose_133 hl (by decide) rfl (fun ls hl => ?_)
                        refine lv_iconst (v := iZ 0) hx hb dX6_mayLose_135 rfl ?_
                        refine lv_istore (lv' := [(8, .int (iZ 0)), (7, .int (iZ 0)), (6, .int (iZ ((k : Int) - 1))), (5, .int (iZ 0)), (4, .int (iZ (q_tw R a.toNat))), (3, .int (iZ (q_sc R ((a.toNat))))), (0, .ref (gad G 169)), (1, .int (iZ a)), (2, .int (iZ b))]) hx hb dX6_mayLose_136 hl (by decide) rfl (fun ls hl => ?_)
                        have L_138 : ∀ (n_138 : Nat) (k2 : Nat) (x_o : Int) (x_n : Int), (x_o = (k2 : Int)) → (x_n = (q_ct (fun o => decide ((o : Int) ≠ ((a.toNat : Nat) : Int)) && decide (q_sc R a.toNat + q_tw R a.toNat - ((k : Int) - 1) < q_sc R o)) k2)) → ((k2 : Int) ≤ q_nd R) → 12 - k2 < n_138 → ∀ (H : Heap) (locs : List Loc) (ls : Array Slot), gH G M6 s H locs → lv_has ls 9 [(8, .int (iZ x_o)), (7, .int (iZ x_n)), (6, .int (iZ ((k : Int) - 1))), (5, .int (iZ 0)), (4, .int (iZ (q_tw R a.toNat))), (3, .int (iZ (q_sc R ((a.toNat))))), (0, .ref (gad G 169)), (1, .int (iZ a)), (2, .int (iZ b))] → W p l e ({ frames := 3, cells := 0, slots := 0, locals := 65 } : Room) s m [.ref (gad G 169), .int (iZ a), .int (iZ b)].toArray below meth c H locs 0 0 (MQ below (va_Qi (fun r (u : Int × (Nat → Nat → Int)) => r = iZ u.1 ∧ (fun z M1 => ((if ¬ (0 ≤ a ∧ a < q_nd R) then (1 : Int) else if ¬ (1 ≤ b ∧ b ≤ 12) then 2 else 0) = 0 → z = q_ml R a.toNat b) ∧ q_mq (if ¬ (0 ≤ a ∧ a < q_nd R) then (1 : Int) else if ¬ (1 ≤ b ∧ b ≤ 12) then 2 else 0) M M1) u.1 u.2) (fun u U => gB G u.2 U) (gA G)) [.ref (gad G 169), .int (iZ a), .int (iZ b)].toArray s 0 0 (gA G)) (F0 m 138 ls []) := by
                          intro n_138
                          induction n_138 with
                          | zero => intro k2 x_o x_n he_x_o he_x_n hk3 hm_138; exact absurd hm_138 (Nat.not_lt_zero _)
                          | succ n_138 ih_138 =>
                            intro k2 x_o x_n he_x_o he_x_n hk3 hm_138 H locs ls hG hl
                            subst he_x_o
                            subst he_x_n
                            have hcc := ct_in (fun o => decide ((o : Int) ≠ ((a.toNat : Nat) : Int)) && decide (q_sc R a.toNat + q_tw R a.toNat - ((k : Int) - 1) < q_sc R o)) k2
                            refine lv_iload hx hb dX6_mayLose_138 (lv_at hl 0 rfl) ?_
                            refine lv_aload_n hx hb dX6_mayLose_140 rfl (lv_at hl 6 rfl) ?_
                            refine g_get hx hb hts hinX6 hown hG (o := 169) (hdm 169 (by decide)) rfl rfl 5 (by decide) f16 (fun _ h => h) rfl dX6_mayLose_141 ?_
                            refine lv_bipush (v := iZ (7)) hx hb dX6_mayLose_144 (by decide) ?_
                            refine g_iald (z := (q_nd R)) (j := 7) hx hb hG (o := 172) (hdm 172 (by decide)) rfl (by omega) (by omega) (by omega) (by rw [hpv_M6_172] <;> rfl) dX6_mayLose_146 ?_
                            refine z_icmp_ge (tgt := 191) hx hb (by omega) (by omega) dX6_mayLose_147 (by decide) (fun c_147 => ?_) (fun c_147 => ?_)
                            · skip
                              have hk9 : (q_nd R).toNat = k2 := by omega
                              have hcn8 := hcn9 (by omega)
                              rw [hk9] at hcn8
                              refine lv_iload hx hb dX6_mayLose_191 (lv_at hl 1 rfl) ?_
                              refine lv_iload_n hx hb dX6_mayLose_193 rfl (lv_at hl 8 rfl) ?_
                              refine z_icmp_ge (tgt := 200) hx hb (by omega) (by omega) dX6_mayLose_194 (by decide) (fun c_194 => ?_) (fun c_194 => ?_)
                              · skip
                                refine z_iinc (z := ((k : Int) - 2)) (lv' := [(6, .int (iZ ((k : Int) - 2))), (8, .int (iZ (k2 : Int))), (7, .int (iZ (q_ct (fun o => decide ((o : Int) ≠ ((a.toNat : Nat) : Int)) && decide (q_sc R a.toNat + q_tw R a.toNat - ((k : Int) - 1) < q_sc R o)) k2))), (5, .int (iZ 0)), (4, .int (iZ (q_tw R a.toNat))), (3, .int (iZ (q_sc R ((a.toNat))))), (0, .ref (gad G 169)), (1, .int (iZ a)), (2, .int (iZ b))]) hx hb dX6_mayLose_200 hl (k := 2) rfl (by omega) (by decide) rfl (fun ls hl => ?_)
                                refine lv_goto (tgt := 127) hx hb dX6_mayLose_203 (by decide) ?_
                                exact ih_127 (k - 1) ((k : Int) - 2)  (by omega) (by omega) (by rw [hds, if_neg (by omega)]; exact q_ml_step (P := (fun x => decide (q_ab R (q_sc R a.toNat + q_tw R a.toNat - (x : Int)) ≤ b - 1))) (by omega) (fun h9 => by have h8 := of_decide_eq_true h9; have h7 := hcn9 (by omega); rw [show ((k - 1 : Nat) : Int) = (k : Int) - 1 by omega] at h8; omega)) (by omega) _ _ _ hG (lv_sub hl [0, 3, 4, 5, 6, 7, 8] rfl)
                              · skip
                                refine lv_iload hx hb dX6_mayLose_197 (lv_at hl 2 rfl) ?_
                                exact g_iret (post := fun z M1 => ((if ¬ (0 ≤ a ∧ a < q_nd R) then (1 : Int) else if ¬ (1 ≤ b ∧ b ≤ 12) then 2 else 0) = 0 → z = q_ml R a.toNat b) ∧ q_mq (if ¬ (0 ≤ a ∧ a < q_nd R) then (1 : Int) else if ¬ (1 ≤ b ∧ b ≤ 12) then 2 else 0) M M1) (z := ((k : Int) - 1)) hx hb hr hG hlocks (⟨fun _ => by unfold q_ml; rw [if_pos (by assumption), q_best_eq hI hI2 (i := a.toNat) (by omega) (by assumption), hds, if_neg (by omega), q_dsc_yes (P := (fun x => decide (q_ab R (q_sc R a.toNat + q_tw R a.toNat - (x : Int)) ≤ b - 1))) (decide_eq_true (by rw [show ((k - 1 : Nat) : Int) = (k : Int) - 1 by omega]; omega))]; omega, by rw [hcd9]; exact (q_mq.rf hM6)⟩) dX6_mayLose_199
                            · skip
                              have hdk2 := sc_in (hI.2.1 k2 (by omega))
                              refine lv_iload hx hb dX6_mayLose_150 (lv_at hl 1 rfl) ?_
                              refine lv_iload hx hb dX6_mayLose_152 (lv_at hl 0 rfl) ?_
                              refine lv_iload_n hx hb dX6_mayLose_154 rfl (lv_at hl 7 rfl) ?_
                              refine z_icmp_eq (tgt := 181) hx hb (by omega) (by omega) dX6_mayLose_155 (by decide) (fun c_155 => ?_) (fun c_155 => ?_)
                              · skip
                                refine lv_iconst (v := iZ 0) hx hb dX6_mayLose_181 rfl ?_
                                refine z_iadd (z := (q_ct (fun o => decide ((o : Int) ≠ ((a.toNat : Nat) : Int)) && decide (q_sc R a.toNat + q_tw R a.toNat - ((k : Int) - 1) < q_sc R o)) k2)) hx hb (by omega) dX6_mayLose_182 ?_
                                refine lv_istore (lv' := [(7, .int (iZ (q_ct (fun o => decide ((o : Int) ≠ ((a.toNat : Nat) : Int)) && decide (q_sc R a.toNat + q_tw R a.toNat - ((k : Int) - 1) < q_sc R o)) k2))), (8, .int (iZ (k2 : Int))), (6, .int (iZ ((k : Int) - 1))), (5, .int (iZ 0)), (4, .int (iZ (q_tw R a.toNat))), (3, .int (iZ (q_sc R ((a.toNat))))), (0, .ref (gad G 169)), (1, .int (iZ a)), (2, .int (iZ b))]) hx hb dX6_mayLose_183 hl (by decide) rfl (fun ls hl => ?_)
                                refine z_iinc (z := ((k2 : Int) + 1)) (lv' := [(8, .int (iZ ((k2 : Int) + 1))), (7, .int (iZ (q_ct (fun o => decide ((o : Int) ≠ ((a.toNat : Nat) : Int)) && decide (q_sc R a.toNat + q_tw R a.toNat - ((k : Int) - 1) < q_sc R o)) k2))), (6, .int (iZ ((k : Int) - 1))), (5, .int (iZ 0)), (4, .int (iZ (q_tw R a.toNat))), (3, .int (iZ (q_sc R ((a.toNat))))), (0, .ref (gad G 169)), (1, .int (iZ a)), (2, .int (iZ b))]) hx hb dX6_mayLose_185 hl (k := 1) rfl (by omega) (by decide) rfl (fun ls hl => ?_)
                                refine lv_goto (tgt := 138) hx hb dX6_mayLose_188 (by decide) ?_
                                exact ih_138 (k2 + 1) ((k2 : Int) + 1) (q_ct (fun o => decide ((o : Int) ≠ ((a.toNat : Nat) : Int)) && decide (q_sc R a.toNat + q_tw R a.toNat - ((k : Int) - 1) < q_sc R o)) k2)  (by omega) (by rw [q_ct]; first | (rw [if_pos (by (try dsimp only); rw [decide_eq_true (show (k2 : Int) ≠ ((a.toNat : Nat) : Int) by omega), decide_eq_true (show q_sc R a.toNat + q_tw R a.toNat - ((k : Int) - 1) < q_sc R k2 by omega)]; rfl)] <;> omega) | (rw [if_neg (by (try dsimp only); first | (rw [decide_eq_false (show ¬ (k2 : Int) ≠ ((a.toNat : Nat) : Int) by omega)]; simp; done) | (rw [decide_eq_false (show ¬ q_sc R a.toNat + q_tw R a.toNat - ((k : Int) - 1) < q_sc R k2 by omega)]; simp; done))] <;> omega)) (by omega) (by omega) _ _ _ hG (lv_sub hl [0, 1, 2, 3, 4, 5, 6, 7, 8] rfl)
                              · skip
                                refine lv_aload_n hx hb dX6_mayLose_158 rfl (lv_at hl 6 rfl) ?_
                                refine g_get hx hb hts hinX6 hown hG (o := 169) (hdm 169 (by decide)) rfl rfl 5 (by decide) f16 (fun _ h => h) rfl dX6_mayLose_159 ?_
                                refine lv_iload hx hb dX6_mayLose_162 (lv_at hl 0 rfl) ?_
                                refine g_callS (As := [.ref (gad G 172), .int (iZ (k2 : Int))]) (rest := [.int (iZ (q_ct (fun o => decide ((o : Int) ≠ ((a.toNat : Nat) : Int)) && decide (q_sc R a.toNat + q_tw R a.toNat - ((k : Int) - 1) < q_sc R o)) k2))]) ⟨hx, hb, hml, hown, hts⟩ (c_X6_score l G M6 hdm 172 (Or.inr (Or.inl rfl)) (by rw [hpv_M6_172]; exact hI) k2 (by first | omega | (rw [hpv_M6_172]; omega))) (va_cwS 2 hts gX6_mayLose_X6_score rfl rfl rfl (by decide +kernel) ⟨Nat.le_of_ble_eq_true rfl, Nat.le_of_ble_eq_true rfl⟩) hG rfl hl.1 rfl (Nat.le_of_ble_eq_true rfl) dX6_mayLose_164 ⟨Nat.zero_le _, Nat.zero_le _⟩ (fun z13 M14 H locs hp_164 hG => ?_)
                                rw [hpv_M6_172] at hp_164
                                obtain ⟨hz_164, hM_164⟩ := hp_164; replace hz_164 := hz_164.symm; subst hz_164; replace hM_164 := hM_164.symm; subst hM_164
                                refine lv_iload_n hx hb dX6_mayLose_167 rfl (lv_at hl 5 rfl) ?_
                                refine lv_iload hx hb dX6_mayLose_168 (lv_at hl 4 rfl) ?_
                                refine z_iadd (z := ((q_sc R ((a.toNat))) + (q_tw R a.toNat))) hx hb (by omega) dX6_mayLose_170 ?_
                                refine lv_iload hx hb dX6_mayLose_171 (lv_at hl 2 rfl) ?_
                                refine z_isub (z := ((q_sc R ((a.toNat))) + (q_tw R a.toNat) + 1 - (k : Int))) hx hb (by omega) dX6_mayLose_173 ?_
                                refine z_icmp_le (tgt := 181) hx hb (by omega) (by omega) dX6_mayLose_174 (by decide) (fun c_174 => ?_) (fun c_174 => ?_)
                                · skip
                                  refine lv_iconst (v := iZ 0) hx hb dX6_mayLose_181 rfl ?_
                                  refine z_iadd (z := (q_ct (fun o => decide ((o : Int) ≠ ((a.toNat : Nat) : Int)) && decide (q_sc R a.toNat + q_tw R a.toNat - ((k : Int) - 1) < q_sc R o)) k2)) hx hb (by omega) dX6_mayLose_182 ?_
                                  refine lv_istore (lv' := [(7, .int (iZ (q_ct (fun o => decide ((o : Int) ≠ ((a.toNat : Nat) : Int)) && decide (q_sc R a.toNat + q_tw R a.toNat - ((k : Int) - 1) < q_sc R o)) k2))), (8, .int (iZ (k2 : Int))), (6, .int (iZ ((k : Int) - 1))), (5, .int (iZ 0)), (4, .int (iZ (q_tw R a.toNat))), (3, .int (iZ (q_sc R ((a.toNat))))), (0, .ref (gad G 169)), (1, .int (iZ a)), (2, .int (iZ b))]) hx hb dX6_mayLose_183 hl (by decide) rfl (fun ls hl => ?_)
                                  refine z_iinc (z := ((k2 : Int) + 1)) (lv' := [(8, .int (iZ ((k2 : Int) + 1))), (7, .int (iZ (q_ct (fun o => decide ((o : Int) ≠ ((a.toNat : Nat) : Int)) && decide (q_sc R a.toNat + q_tw R a.toNat - ((k : Int) - 1) < q_sc R o)) k2))), (6, .int (iZ ((k : Int) - 1))), (5, .int (iZ 0)), (4, .int (iZ (q_tw R a.toNat))), (3, .int (iZ (q_sc R ((a.toNat))))), (0, .ref (gad G 169)), (1, .int (iZ a)), (2, .int (iZ b))]) hx hb dX6_mayLose_185 hl (k := 1) rfl (by omega) (by decide) rfl (fun ls hl => ?_)
                                  refine lv_goto (tgt := 138) hx hb dX6_mayLose_188 (by decide) ?_
                                  exact ih_138 (k2 + 1) ((k2 : Int) + 1) (q_ct (fun o => decide ((o : Int) ≠ ((a.toNat : Nat) : Int)) && decide (q_sc R a.toNat + q_tw R a.toNat - ((k : Int) - 1) < q_sc R o)) k2)  (by omega) (by rw [q_ct]; first | (rw [if_pos (by (try dsimp only); rw [decide_eq_true (show (k2 : Int) ≠ ((a.toNat : Nat) : Int) by omega), decide_eq_true (show q_sc R a.toNat + q_tw R a.toNat - ((k : Int) - 1) < q_sc R k2 by omega)]; rfl)] <;> omega) | (rw [if_neg (by (try dsimp only); first | (rw [decide_eq_false (show ¬ (k2 : Int) ≠ ((a.toNat : Nat) : Int) by omega)]; simp; done) | (rw [decide_eq_false (show ¬ q_sc R a.toNat + q_tw R a.toNat - ((k : Int) - 1) < q_sc R k2 by omega)]; simp; done))] <;> omega)) (by omega) (by omega) _ _ _ hG (lv_sub hl [0, 1, 2, 3, 4, 5, 6, 7, 8] rfl)
                                · skip
                                  refine lv_iconst (v := iZ 1) hx hb dX6_mayLose_177 rfl ?_
                                  refine lv_goto (tgt := 182) hx hb dX6_mayLose_178 (by decide) ?_
                                  refine z_iadd (z := ((q_ct (fun o => decide ((o : Int) ≠ ((a.toNat : Nat) : Int)) && decide (q_sc R a.toNat + q_tw R a.toNat - ((k : Int) - 1) < q_sc R o)) k2) + 1)) hx hb (by omega) dX6_mayLose_182 ?_
                                  refine lv_istore (lv' := [(7, .int (iZ ((q_ct (fun o => decide ((o : Int) ≠ ((a.toNat : Nat) : Int)) && decide (q_sc R a.toNat + q_tw R a.toNat - ((k : Int) - 1) < q_sc R o)) k2) + 1))), (8, .int (iZ (k2 : Int))), (6, .int (iZ ((k : Int) - 1))), (5, .int (iZ 0)), (4, .int (iZ (q_tw R a.toNat))), (3, .int (iZ (q_sc R ((a.toNat))))), (0, .ref (gad G 169)), (1, .int (iZ a)), (2, .int (iZ b))]) hx hb dX6_mayLose_183 hl (by decide) rfl (fun ls hl => ?_)
                                  refine z_iinc (z := ((k2 : Int) + 1)) (lv' := [(8, .int (iZ ((k2 : Int) + 1))), (7, .int (iZ ((q_ct (fun o => decide ((o : Int) ≠ ((a.toNat : Nat) : Int)) && decide (q_sc R a.toNat + q_tw R a.toNat - ((k : Int) - 1) < q_sc R o)) k2) + 1))), (6, .int (iZ ((k : Int) - 1))), (5, .int (iZ 0)), (4, .int (iZ (q_tw R a.toNat))), (3, .int (iZ (q_sc R ((a.toNat))))), (0, .ref (gad G 169)), (1, .int (iZ a)), (2, .int (iZ b))]) hx hb dX6_mayLose_185 hl (k := 1) rfl (by omega) (by decide) rfl (fun ls hl => ?_)
                                  refine lv_goto (tgt := 138) hx hb dX6_mayLose_188 (by decide) ?_
                                  exact ih_138 (k2 + 1) ((k2 : Int) + 1) ((q_ct (fun o => decide ((o : Int) ≠ ((a.toNat : Nat) : Int)) && decide (q_sc R a.toNat + q_tw R a.toNat - ((k : Int) - 1) < q_sc R o)) k2) + 1)  (by omega) (by rw [q_ct]; first | (rw [if_pos (by (try dsimp only); rw [decide_eq_true (show (k2 : Int) ≠ ((a.toNat : Nat) : Int) by omega), decide_eq_true (show q_sc R a.toNat + q_tw R a.toNat - ((k : Int) - 1) < q_sc R k2 by omega)]; rfl)] <;> omega) | (rw [if_neg (by (try dsimp only); first | (rw [decide_eq_false (show ¬ (k2 : Int) ≠ ((a.toNat : Nat) : Int) by omega)]; simp; done) | (rw [decide_eq_false (show ¬ q_sc R a.toNat + q_tw R a.toNat - ((k : Int) - 1) < q_sc R k2 by omega)]; simp; done))] <;> omega)) (by omega) (by omega) _ _ _ hG (lv_sub hl [0, 1, 2, 3, 4, 5, 6, 7, 8] rfl)
                        exact L_138 _ 0 0 0  rfl rfl (by omega) (Nat.lt_succ_self _) _ _ _ hG (lv_sub hl [0, 1, 2, 3, 4, 5, 6, 7, 8] rfl)
                  exact L_127 _ ((q_tw R a.toNat).toNat + 1) (q_tw R a.toNat)  (by omega) (by omega) (by rw [if_neg (by omega), show (q_tw R a.toNat).toNat + 1 - 1 = (q_tw R a.toNat).toNat by omega]) (Nat.lt_succ_self _) _ _ _ hG (lv_sub hl [0, 1, 2, 3, 4, 5, 6] rfl)
                · skip
                  refine lv_iload hx hb dX6_mayLose_107 (lv_at hl 2 rfl) ?_
                  refine lv_iload hx hb dX6_mayLose_109 (lv_at hl 0 rfl) ?_
                  refine g_callS (As := [.int (iZ (k : Int))]) (rest := [.int (iZ ((q_sm q_wth k) - (q_sm q_wth (q_fp R a.toNat).toNat)))]) ⟨hx, hb, hml, hown, hts⟩ (c_X6_worth l G M6 k (by omega)) (va_cwS 1 hts gX6_mayLose_X6_worth rfl rfl rfl (by decide +kernel) ⟨Nat.le_of_ble_eq_true rfl, Nat.le_of_ble_eq_true rfl⟩) hG rfl hl.1 rfl (Nat.le_of_ble_eq_true rfl) dX6_mayLose_111 ⟨Nat.zero_le _, Nat.zero_le _⟩ (fun z15 M16 H locs hp_111 hG => ?_)
                  obtain ⟨hz_111, hM_111⟩ := hp_111; replace hz_111 := hz_111.symm; subst hz_111; replace hM_111 := hM_111.symm; subst hM_111
                  refine z_iadd (z := ((q_sm q_wth k) + (q_wth k) - (q_sm q_wth (q_fp R a.toNat).toNat))) hx hb (by omega) dX6_mayLose_114 ?_
                  refine lv_istore (lv' := [(4, .int (iZ ((q_sm q_wth k) + (q_wth k) - (q_sm q_wth (q_fp R a.toNat).toNat)))), (6, .int (iZ (k : Int))), (5, .int (iZ 0)), (3, .int (iZ (q_sc R ((a.toNat))))), (0, .ref (gad G 169)), (1, .int (iZ a)), (2, .int (iZ b))]) hx hb dX6_mayLose_115 hl (by decide) rfl (fun ls hl => ?_)
                  refine z_iinc (z := ((k : Int) + 1)) (lv' := [(6, .int (iZ ((k : Int) + 1))), (4, .int (iZ ((q_sm q_wth k) + (q_wth k) - (q_sm q_wth (q_fp R a.toNat).toNat)))), (5, .int (iZ 0)), (3, .int (iZ (q_sc R ((a.toNat))))), (0, .ref (gad G 169)), (1, .int (iZ a)), (2, .int (iZ b))]) hx hb dX6_mayLose_117 hl (k := 1) rfl (by omega) (by decide) rfl (fun ls hl => ?_)
                  refine lv_goto (tgt := 100) hx hb dX6_mayLose_120 (by decide) ?_
                  exact ih_100 (k + 1) ((k : Int) + 1) ((q_sm q_wth k) + (q_wth k) - (q_sm q_wth (q_fp R a.toNat).toNat))  (by omega) (by rw [q_sm] <;> omega) (by omega) (by omega) (by omega) _ _ _ hG (lv_sub hl [0, 2, 1, 3, 4, 5, 6] rfl)
            exact L_100 _ ((q_fp R a.toNat).toNat) 0 0  (by omega) (by omega) (by omega) (by omega) (Nat.lt_succ_self _) _ _ _ hG (lv_sub hl [0, 1, 2, 3, 4, 5, 6] rfl)
          · skip
            refine lv_aload_n hx hb dX6_mayLose_79 rfl (lv_at hl 2 rfl) ?_
            refine g_get hx hb hts hinX6 hown hG (o := 169) (hdm 169 (by decide)) rfl rfl 5 (by decide) f16 (fun _ h => h) rfl dX6_mayLose_80 ?_
            refine lv_iload_n hx hb dX6_mayLose_83 rfl (lv_at hl 3 rfl) ?_
            refine g_callS (As := [.int (iZ ((a.toNat) : Int))]) (rest := [.ref (gad G 172)]) ⟨hx, hb, hml, hown, hts⟩ (c_X6_dogAt l G M6 ((a.toNat) : Int)) (va_cwS 1 hts gX6_mayLose_X6_dogAt rfl rfl rfl (by decide +kernel) ⟨Nat.le_of_ble_eq_true rfl, Nat.le_of_ble_eq_true rfl⟩) hG rfl hl.1 (by rw [← hna]; rfl) (Nat.le_of_ble_eq_true rfl) dX6_mayLose_84 ⟨Nat.zero_le _, Nat.zero_le _⟩ (fun z17 M18 H locs hp_84 hG => ?_)
            obtain ⟨hz_84, hM_84⟩ := hp_84; replace hz_84 := hz_84.symm; subst hz_84; replace hM_84 := hM_84.symm; subst hM_84
            rw [show (14 + 11 * ((a.toNat) : Int) : Int) = (11 * ((a.toNat) : Int) + 14) from by omega]
            refine lv_iconst (v := iZ 4) hx hb dX6_mayLose_87 rfl ?_
            refine z_iadd (z := (11 * ((a.toNat) : Int) + 18)) hx hb (by omega) dX6_mayLose_88 ?_
            refine g_iald (z := (q_fr R ((a.toNat)))) (j := (14 + 11 * ((a.toNat)) + 4)) hx hb hG (o := 172) (hdm 172 (by decide)) rfl (by omega) (by omega) (by omega) (by rw [hpv_M6_172] <;> rfl) dX6_mayLose_89 ?_
            refine lv_goto (tgt := 94) hx hb dX6_mayLose_90 (by decide) ?_
            have hfv : (q_fr R ((a.toNat))) = q_fp R a.toNat := by unfold q_fp; first | (rw [if_pos (by omega)]; done) | (rw [if_neg (by omega)]; done)
            have hfr9 : 0 ≤ q_fp R a.toNat ∧ q_fp R a.toNat ≤ 6 := by omega
            refine lv_istore (lv' := [(5, .int (iZ (q_fr R ((a.toNat))))), (4, .int (iZ 0)), (3, .int (iZ (q_sc R ((a.toNat))))), (0, .ref (gad G 169)), (1, .int (iZ a)), (2, .int (iZ b))]) hx hb dX6_mayLose_94 hl (by decide) rfl (fun ls hl => ?_)
            refine lv_iload hx hb dX6_mayLose_96 (lv_at hl 0 rfl) ?_
            refine lv_istore (lv' := [(6, .int (iZ (q_fr R ((a.toNat))))), (5, .int (iZ (q_fr R ((a.toNat))))), (4, .int (iZ 0)), (3, .int (iZ (q_sc R ((a.toNat))))), (0, .ref (gad G 169)), (1, .int (iZ a)), (2, .int (iZ b))]) hx hb dX6_mayLose_98 hl (by decide) rfl (fun ls hl => ?_)
            have L_100 : ∀ (n_100 : Nat) (k : Nat) (x_i : Int) (x_c : Int), (x_i = (k : Int)) → (x_c = ((q_sm q_wth k) - (q_sm q_wth (q_fp R a.toNat).toNat))) → (k ≤ 6) → ((q_fp R a.toNat).toNat ≤ k) → 6 - k < n_100 → ∀ (H : Heap) (locs : List Loc) (ls : Array Slot), gH G M6 s H locs → lv_has ls 9 [(6, .int (iZ x_i)), (5, .int (iZ (q_fr R ((a.toNat))))), (4, .int (iZ x_c)), (3, .int (iZ (q_sc R ((a.toNat))))), (0, .ref (gad G 169)), (1, .int (iZ a)), (2, .int (iZ b))] → W p l e ({ frames := 3, cells := 0, slots := 0, locals := 65 } : Room) s m [.ref (gad G 169), .int (iZ a), .int (iZ b)].toArray below meth c H locs 0 0 (MQ below (va_Qi (fun r (u : Int × (Nat → Nat → Int)) => r = iZ u.1 ∧ (fun z M1 => ((if ¬ (0 ≤ a ∧ a < q_nd R) then (1 : Int) else if ¬ (1 ≤ b ∧ b ≤ 12) then 2 else 0) = 0 → z = q_ml R a.toNat b) ∧ q_mq (if ¬ (0 ≤ a ∧ a < q_nd R) then (1 : Int) else if ¬ (1 ≤ b ∧ b ≤ 12) then 2 else 0) M M1) u.1 u.2) (fun u U => gB G u.2 U) (gA G)) [.ref (gad G 169), .int (iZ a), .int (iZ b)].toArray s 0 0 (gA G)) (F0 m 100 ls []) := by
              intro n_100
              induction n_100 with
              | zero => intro k x_i x_c he_x_i he_x_c hk hk2 hm_100; exact absurd hm_100 (Nat.not_lt_zero _)
              | succ n_100 ih_100 =>
                intro k x_i x_c he_x_i he_x_c hk hk2 hm_100 H locs ls hG hl
                subst he_x_i
                subst he_x_c
                refine lv_iload hx hb dX6_mayLose_100 (lv_at hl 0 rfl) ?_
                refine lv_bipush (v := iZ (6)) hx hb dX6_mayLose_102 (by decide) ?_
                refine z_icmp_ge (tgt := 123) hx hb (by omega) (by decide) dX6_mayLose_104 (by decide) (fun c_104 => ?_) (fun c_104 => ?_)
                · skip
                  have htw0 : q_sm q_wth k - q_sm q_wth (q_fp R a.toNat).toNat = q_tw R a.toNat := by unfold q_tw; rw [show (6 : Nat) = k by omega]
                  rw [htw0] at hl
                  refine lv_iload hx hb dX6_mayLose_123 (lv_at hl 2 rfl) ?_
                  refine lv_istore (lv' := [(6, .int (iZ (q_tw R a.toNat))), (5, .int (iZ (q_fr R ((a.toNat))))), (4, .int (iZ (q_tw R a.toNat))), (3, .int (iZ (q_sc R ((a.toNat))))), (0, .ref (gad G 169)), (1, .int (iZ a)), (2, .int (iZ b))]) hx hb dX6_mayLose_125 hl (by decide) rfl (fun ls hl => ?_)
                  have L_127 : ∀ (n_127 : Nat) (k : Nat) (x_j : Int), (x_j = ((k : Int) - 1)) → ((k : Int) ≤ q_tw R a.toNat + 1) → (q_dsc (fun x => decide (q_ab R (q_sc R a.toNat + q_tw R a.toNat - (x : Int)) ≤ b - 1)) (q_tw R a.toNat).toNat = if k = 0 then -9 else q_dsc (fun x => decide (q_ab R (q_sc R a.toNat + q_tw R a.toNat - (x : Int)) ≤ b - 1)) (k - 1)) → k + 1 < n_127 → ∀ (H : Heap) (locs : List Loc) (ls : Array Slot), gH G M6 s H locs → lv_has ls 9 [(6, .int (iZ x_j)), (5, .int (iZ (q_fr R ((a.toNat))))), (4, .int (iZ (q_tw R a.toNat))), (3, .int (iZ (q_sc R ((a.toNat))))), (0, .ref (gad G 169)), (1, .int (iZ a)), (2, .int (iZ b))] → W p l e ({ frames := 3, cells := 0, slots := 0, locals := 65 } : Room) s m [.ref (gad G 169), .int (iZ a), .int (iZ b)].toArray below meth c H locs 0 0 (MQ below (va_Qi (fun r (u : Int × (Nat → Nat → Int)) => r = iZ u.1 ∧ (fun z M1 => ((if ¬ (0 ≤ a ∧ a < q_nd R) then (1 : Int) else if ¬ (1 ≤ b ∧ b ≤ 12) then 2 else 0) = 0 → z = q_ml R a.toNat b) ∧ q_mq (if ¬ (0 ≤ a ∧ a < q_nd R) then (1 : Int) else if ¬ (1 ≤ b ∧ b ≤ 12) then 2 else 0) M M1) u.1 u.2) (fun u U => gB G u.2 U) (gA G)) [.ref (gad G 169), .int (iZ a), .int (iZ b)].toArray s 0 0 (gA G)) (F0 m 127 ls []) := by
                    intro n_127
                    induction n_127 with
                    | zero => intro k x_j he_x_j hkk hds hm_127; exact absurd hm_127 (Nat.not_lt_zero _)
                    | succ n_127 ih_127 =>
                      intro k x_j he_x_j hkk hds hm_127 H locs ls hG hl
                      subst he_x_j
                      have hcn9 : 0 < k → q_ct (fun o => decide ((o : Int) ≠ ((a.toNat : Nat) : Int)) && decide (q_sc R a.toNat + q_tw R a.toNat - ((k : Int) - 1) < q_sc R o)) (q_nd R).toNat = q_ab R (q_sc R a.toNat + q_tw R a.toNat - ((k : Int) - 1)) := fun _ => q_ml_cnt (by omega)
                      refine lv_iload hx hb dX6_mayLose_127 (lv_at hl 0 rfl) ?_
                      refine z_if_lt (tgt := 206) hx hb (by omega) dX6_mayLose_129 (by decide) (fun c_129 => ?_) (fun c_129 => ?_)
                      · skip
                        refine lv_bipush (v := iZ (-9)) hx hb dX6_mayLose_206 (by decide) ?_
                        exact g_iret (post := fun z M1 => ((if ¬ (0 ≤ a ∧ a < q_nd R) then (1 : Int) else if ¬ (1 ≤ b ∧ b ≤ 12) then 2 else 0) = 0 → z = q_ml R a.toNat b) ∧ q_mq (if ¬ (0 ≤ a ∧ a < q_nd R) then (1 : Int) else if ¬ (1 ≤ b ∧ b ≤ 12) then 2 else 0) M M1) (z := (-9)) hx hb hr hG hlocks (⟨fun _ => by unfold q_ml; rw [if_pos (by assumption), q_best_eq hI hI2 (i := a.toNat) (by omega) (by assumption), hds, if_pos (by omega)], by rw [hcd9]; exact (q_mq.rf hM6)⟩) dX6_mayLose_208
                      · skip
                        refine lv_iconst (v := iZ 0) hx hb dX6_mayLose_132 rfl ?_
                        refine lv_istore (lv' := [(7, .int (iZ 0)), (6, .int (iZ ((k : Int) - 1))), (5, .int (iZ (q_fr R ((a.toNat))))), (4, .int (iZ (q_tw R a.toNat))), (3, .int (iZ (q_sc R ((a.toNat))))), (0, .ref (gad G 169)), (1, .int (iZ a)), (2, .int (iZ b))]) hx hb dX6_mayLose_133 hl (by decide) rfl (fun ls hl => ?_)
                        refine lv_iconst (v := iZ 0) hx hb dX6_mayLose_135 rfl ?_
                        refine lv_istore (lv' := [(8, .int (iZ 0)), (7, .int (iZ 0)), (6, .int (iZ ((k : Int) - 1))), (5, .int (iZ (q_fr R ((a.toNat))))), (4, .int (iZ (q_tw R a.toNat))), (3, .int (iZ (q_sc R ((a.toNat))))), (0, .ref (gad G 169)), (1, .int (iZ a)), (2, .int (iZ b))]) hx hb dX6_mayLose_136 hl (by decide) rfl (fun ls hl => ?_)
                        have L_138 : ∀ (n_138 : Nat) (k2 : Nat) (x_o : Int) (x_n : Int), (x_o = (k2 : Int)) → (x_n = (q_ct (fun o => decide ((o : Int) ≠ ((a.toNat : Nat) : Int)) && decide (q_sc R a.toNat + q_tw R a.toNat - ((k : Int) - 1) < q_sc R o)) k2)) → ((k2 : Int) ≤ q_nd R) → 12 - k2 < n_138 → ∀ (H : Heap) (locs : List Loc) (ls : Array Slot), gH G M6 s H locs → lv_has ls 9 [(8, .int (iZ x_o)), (7, .int (iZ x_n)), (6, .int (iZ ((k : Int) - 1))), (5, .int (iZ (q_fr R ((a.toNat))))), (4, .int (iZ (q_tw R a.toNat))), (3, .int (iZ (q_sc R ((a.toNat))))), (0, .ref (gad G 169)), (1, .int (iZ a)), (2, .int (iZ b))] → W p l e ({ frames := 3, cells := 0, slots := 0, locals := 65 } : Room) s m [.ref (gad G 169), .int (iZ a), .int (iZ b)].toArray below meth c H locs 0 0 (MQ below (va_Qi (fun r (u : Int × (Nat → Nat → Int)) => r = iZ u.1 ∧ (fun z M1 => ((if ¬ (0 ≤ a ∧ a < q_nd R) then (1 : Int) else if ¬ (1 ≤ b ∧ b ≤ 12) then 2 else 0) = 0 → z = q_ml R a.toNat b) ∧ q_mq (if ¬ (0 ≤ a ∧ a < q_nd R) then (1 : Int) else if ¬ (1 ≤ b ∧ b ≤ 12) then 2 else 0) M M1) u.1 u.2) (fun u U => gB G u.2 U) (gA G)) [.ref (gad G 169), .int (iZ a), .int (iZ b)].toArray s 0 0 (gA G)) (F0 m 138 ls []) := by
                          intro n_138
                          induction n_138 with
                          | zero => intro k2 x_o x_n he_x_o he_x_n hk3 hm_138; exact absurd hm_138 (Nat.not_lt_zero _)
                          | succ n_138 ih_138 =>
                            intro k2 x_o x_n he_x_o he_x_n hk3 hm_138 H locs ls hG hl
                            subst he_x_o
                            subst he_x_n
                            have hcc := ct_in (fun o => decide ((o : Int) ≠ ((a.toNat : Nat) : Int)) && decide (q_sc R a.toNat + q_tw R a.toNat - ((k : Int) - 1) < q_sc R o)) k2
                            refine lv_iload hx hb dX6_mayLose_138 (lv_at hl 0 rfl) ?_
                            refine lv_aload_n hx hb dX6_mayLose_140 rfl (lv_at hl 6 rfl) ?_
                            refine g_get hx hb hts hinX6 hown hG (o := 169) (hdm 169 (by decide)) rfl rfl 5 (by decide) f16 (fun _ h => h) rfl dX6_mayLose_141 ?_
                            refine lv_bipush (v := iZ (7)) hx hb dX6_mayLose_144 (by decide) ?_
                            refine g_iald (z := (q_nd R)) (j := 7) hx hb hG (o := 172) (hdm 172 (by decide)) rfl (by omega) (by omega) (by omega) (by rw [hpv_M6_172] <;> rfl) dX6_mayLose_146 ?_
                            refine z_icmp_ge (tgt := 191) hx hb (by omega) (by omega) dX6_mayLose_147 (by decide) (fun c_147 => ?_) (fun c_147 => ?_)
                            · skip
                              have hk9 : (q_nd R).toNat = k2 := by omega
                              have hcn8 := hcn9 (by omega)
                              rw [hk9] at hcn8
                              refine lv_iload hx hb dX6_mayLose_191 (lv_at hl 1 rfl) ?_
                              refine lv_iload_n hx hb dX6_mayLose_193 rfl (lv_at hl 8 rfl) ?_
                              refine z_icmp_ge (tgt := 200) hx hb (by omega) (by omega) dX6_mayLose_194 (by decide) (fun c_194 => ?_) (fun c_194 => ?_)
                              · skip
                                refine z_iinc (z := ((k : Int) - 2)) (lv' := [(6, .int (iZ ((k : Int) - 2))), (8, .int (iZ (k2 : Int))), (7, .int (iZ (q_ct (fun o => decide ((o : Int) ≠ ((a.toNat : Nat) : Int)) && decide (q_sc R a.toNat + q_tw R a.toNat - ((k : Int) - 1) < q_sc R o)) k2))), (5, .int (iZ (q_fr R ((a.toNat))))), (4, .int (iZ (q_tw R a.toNat))), (3, .int (iZ (q_sc R ((a.toNat))))), (0, .ref (gad G 169)), (1, .int (iZ a)), (2, .int (iZ b))]) hx hb dX6_mayLose_200 hl (k := 2) rfl (by omega) (by decide) rfl (fun ls hl => ?_)
                                refine lv_goto (tgt := 127) hx hb dX6_mayLose_203 (by decide) ?_
                                exact ih_127 (k - 1) ((k : Int) - 2)  (by omega) (by omega) (by rw [hds, if_neg (by omega)]; exact q_ml_step (P := (fun x => decide (q_ab R (q_sc R a.toNat + q_tw R a.toNat - (x : Int)) ≤ b - 1))) (by omega) (fun h9 => by have h8 := of_decide_eq_true h9; have h7 := hcn9 (by omega); rw [show ((k - 1 : Nat) : Int) = (k : Int) - 1 by omega] at h8; omega)) (by omega) _ _ _ hG (lv_sub hl [0, 3, 4, 5, 6, 7, 8] rfl)
                              · skip
                                refine lv_iload hx hb dX6_mayLose_197 (lv_at hl 2 rfl) ?_
                                exact g_iret (post := fun z M1 => ((if ¬ (0 ≤ a ∧ a < q_nd R) then (1 : Int) else if ¬ (1 ≤ b ∧ b ≤ 12) then 2 else 0) = 0 → z = q_ml R a.toNat b) ∧ q_mq (if ¬ (0 ≤ a ∧ a < q_nd R) then (1 : Int) else if ¬ (1 ≤ b ∧ b ≤ 12) then 2 else 0) M M1) (z := ((k : Int) - 1)) hx hb hr hG hlocks (⟨fun _ => by unfold q_ml; rw [if_pos (by assumption), q_best_eq hI hI2 (i := a.toNat) (by omega) (by assumption), hds, if_neg (by omega), q_dsc_yes (P := (fun x => decide (q_ab R (q_sc R a.toNat + q_tw R a.toNat - (x : Int)) ≤ b - 1))) (decide_eq_true (by rw [show ((k - 1 : Nat) : Int) = (k : Int) - 1 by omega]; omega))]; omega, by rw [hcd9]; exact (q_mq.rf hM6)⟩) dX6_mayLose_199
                            · skip
                              have hdk2 := sc_in (hI.2.1 k2 (by omega))
                              refine lv_iload hx hb dX6_mayLose_150 (lv_at hl 1 rfl) ?_
                              refine lv_iload hx hb dX6_mayLose_152 (lv_at hl 0 rfl) ?_
                              refine lv_iload_n hx hb dX6_mayLose_154 rfl (lv_at hl 7 rfl) ?_
                              refine z_icmp_eq (tgt := 181) hx hb (by omega) (by omega) dX6_mayLose_155 (by decide) (fun c_155 => ?_) (fun c_155 => ?_)
                              · skip
                                refine lv_iconst (v := iZ 0) hx hb dX6_mayLose_181 rfl ?_
                                refine z_iadd (z := (q_ct (fun o => decide ((o : Int) ≠ ((a.toNat : Nat) : Int)) && decide (q_sc R a.toNat + q_tw R a.toNat - ((k : Int) - 1) < q_sc R o)) k2)) hx hb (by omega) dX6_mayLose_182 ?_
                                refine lv_istore (lv' := [(7, .int (iZ (q_ct (fun o => decide ((o : Int) ≠ ((a.toNat : Nat) : Int)) && decide (q_sc R a.toNat + q_tw R a.toNat - ((k : Int) - 1) < q_sc R o)) k2))), (8, .int (iZ (k2 : Int))), (6, .int (iZ ((k : Int) - 1))), (5, .int (iZ (q_fr R ((a.toNat))))), (4, .int (iZ (q_tw R a.toNat))), (3, .int (iZ (q_sc R ((a.toNat))))), (0, .ref (gad G 169)), (1, .int (iZ a)), (2, .int (iZ b))]) hx hb dX6_mayLose_183 hl (by decide) rfl (fun ls hl => ?_)
                                refine z_iinc (z := ((k2 : Int) + 1)) (lv' := [(8, .int (iZ ((k2 : Int) + 1))), (7, .int (iZ (q_ct (fun o => decide ((o : Int) ≠ ((a.toNat : Nat) : Int)) && decide (q_sc R a.toNat + q_tw R a.toNat - ((k : Int) - 1) < q_sc R o)) k2))), (6, .int (iZ ((k : Int) - 1))), (5, .int (iZ (q_fr R ((a.toNat))))), (4, .int (iZ (q_tw R a.toNat))), (3, .int (iZ (q_sc R ((a.toNat))))), (0, .ref (gad G 169)), (1, .int (iZ a)), (2, .int (iZ b))]) hx hb dX6_mayLose_185 hl (k := 1) rfl (by omega) (by decide) rfl (fun ls hl => ?_)
                                refine lv_goto (tgt := 138) hx hb dX6_mayLose_188 (by decide) ?_
                                exact ih_138 (k2 + 1) ((k2 : Int) + 1) (q_ct (fun o => decide ((o : Int) ≠ ((a.toNat : Nat) : Int)) && decide (q_sc R a.toNat + q_tw R a.toNat - ((k : Int) - 1) < q_sc R o)) k2)  (by omega) (by rw [q_ct]; first | (rw [if_pos (by (try dsimp only); rw [decide_eq_true (show (k2 : Int) ≠ ((a.toNat : Nat) : Int) by omega), decide_eq_true (show q_sc R a.toNat + q_tw R a.toNat - ((k : Int) - 1) < q_sc R k2 by omega)]; rfl)] <;> omega) | (rw [if_neg (by (try dsimp only); first | (rw [decide_eq_false (show ¬ (k2 : Int) ≠ ((a.toNat : Nat) : Int) by omega)]; simp; done) | (rw [decide_eq_false (show ¬ q_sc R a.toNat + q_tw R a.toNat - ((k : Int) - 1) < q_sc R k2 by omega)]; simp; done))] <;> omega)) (by omega) (by omega) _ _ _ hG (lv_sub hl [0, 1, 2, 3, 4, 5, 6, 7, 8] rfl)
                              · skip
                                refine lv_aload_n hx hb dX6_mayLose_158 rfl (lv_at hl 6 rfl) ?_
                                refine g_get hx hb hts hinX6 hown hG (o := 169) (hdm 169 (by decide)) rfl rfl 5 (by decide) f16 (fun _ h => h) rfl dX6_mayLose_159 ?_
                                refine lv_iload hx hb dX6_mayLose_162 (lv_at hl 0 rfl) ?_
                                refine g_callS (As := [.ref (gad G 172), .int (iZ (k2 : Int))]) (rest := [.int (iZ (q_ct (fun o => decide ((o : Int) ≠ ((a.toNat : Nat) : Int)) && decide (q_sc R a.toNat + q_tw R a.toNat - ((k : Int) - 1) < q_sc R o)) k2))]) ⟨hx, hb, hml, hown, hts⟩ (c_X6_score l G M6 hdm 172 (Or.inr (Or.inl rfl)) (by rw [hpv_M6_172]; exact hI) k2 (by first | omega | (rw [hpv_M6_172]; omega))) (va_cwS 2 hts gX6_mayLose_X6_score rfl rfl rfl (by decide +kernel) ⟨Nat.le_of_ble_eq_true rfl, Nat.le_of_ble_eq_true rfl⟩) hG rfl hl.1 rfl (Nat.le_of_ble_eq_true rfl) dX6_mayLose_164 ⟨Nat.zero_le _, Nat.zero_le _⟩ (fun z19 M20 H locs hp_164 hG => ?_)
                                rw [hpv_M6_172] at hp_164
                                obtain ⟨hz_164, hM_164⟩ := hp_164; replace hz_164 := hz_164.symm; subst hz_164; replace hM_164 := hM_164.symm; subst hM_164
                                refine lv_iload_n hx hb dX6_mayLose_167 rfl (lv_at hl 5 rfl) ?_
                                refine lv_iload hx hb dX6_mayLose_168 (lv_at hl 4 rfl) ?_
                                refine z_iadd (z := ((q_sc R ((a.toNat))) + (q_tw R a.toNat))) hx hb (by omega) dX6_mayLose_170 ?_
                                refine lv_iload hx hb dX6_mayLose_171 (lv_at hl 2 rfl) ?_
                                refine z_isub (z := ((q_sc R ((a.toNat))) + (q_tw R a.toNat) + 1 - (k : Int))) hx hb (by omega) dX6_mayLose_173 ?_
                                refine z_icmp_le (tgt := 181) hx hb (by omega) (by omega) dX6_mayLose_174 (by decide) (fun c_174 => ?_) (fun c_174 => ?_)
                                · skip
                                  refine lv_iconst (v := iZ 0) hx hb dX6_mayLose_181 rfl ?_
                                  refine z_iadd (z := (q_ct (fun o => decide ((o : Int) ≠ ((a.toNat : Nat) : Int)) && decide (q_sc R a.toNat + q_tw R a.toNat - ((k : Int) - 1) < q_sc R o)) k2)) hx hb (by omega) dX6_mayLose_182 ?_
                                  refine lv_istore (lv' := [(7, .int (iZ (q_ct (fun o => decide ((o : Int) ≠ ((a.toNat : Nat) : Int)) && decide (q_sc R a.toNat + q_tw R a.toNat - ((k : Int) - 1) < q_sc R o)) k2))), (8, .int (iZ (k2 : Int))), (6, .int (iZ ((k : Int) - 1))), (5, .int (iZ (q_fr R ((a.toNat))))), (4, .int (iZ (q_tw R a.toNat))), (3, .int (iZ (q_sc R ((a.toNat))))), (0, .ref (gad G 169)), (1, .int (iZ a)), (2, .int (iZ b))]) hx hb dX6_mayLose_183 hl (by decide) rfl (fun ls hl => ?_)
                                  refine z_iinc (z := ((k2 : Int) + 1)) (lv' := [(8, .int (iZ ((k2 : Int) + 1))), (7, .int (iZ (q_ct (fun o => decide ((o : Int) ≠ ((a.toNat : Nat) : Int)) && decide (q_sc R a.toNat + q_tw R a.toNat - ((k : Int) - 1) < q_sc R o)) k2))), (6, .int (iZ ((k : Int) - 1))), (5, .int (iZ (q_fr R ((a.toNat))))), (4, .int (iZ (q_tw R a.toNat))), (3, .int (iZ (q_sc R ((a.toNat))))), (0, .ref (gad G 169)), (1, .int (iZ a)), (2, .int (iZ b))]) hx hb dX6_mayLose_185 hl (k := 1) rfl (by omega) (by decide) rfl (fun ls hl => ?_)
                                  refine lv_goto (tgt := 138) hx hb dX6_mayLose_188 (by decide) ?_
                                  exact ih_138 (k2 + 1) ((k2 : Int) + 1) (q_ct (fun o => decide ((o : Int) ≠ ((a.toNat : Nat) : Int)) && decide (q_sc R a.toNat + q_tw R a.toNat - ((k : Int) - 1) < q_sc R o)) k2)  (by omega) (by rw [q_ct]; first | (rw [if_pos (by (try dsimp only); rw [decide_eq_true (show (k2 : Int) ≠ ((a.toNat : Nat) : Int) by omega), decide_eq_true (show q_sc R a.toNat + q_tw R a.toNat - ((k : Int) - 1) < q_sc R k2 by omega)]; rfl)] <;> omega) | (rw [if_neg (by (try dsimp only); first | (rw [decide_eq_false (show ¬ (k2 : Int) ≠ ((a.toNat : Nat) : Int) by omega)]; simp; done) | (rw [decide_eq_false (show ¬ q_sc R a.toNat + q_tw R a.toNat - ((k : Int) - 1) < q_sc R k2 by omega)]; simp; done))] <;> omega)) (by omega) (by omega) _ _ _ hG (lv_sub hl [0, 1, 2, 3, 4, 5, 6, 7, 8] rfl)
                                · skip
                                  refine lv_iconst (v := iZ 1) hx hb dX6_mayLose_177 rfl ?_
                                  refine lv_goto (tgt := 182) hx hb dX6_mayLose_178 (by decide) ?_
                                  refine z_iadd (z := ((q_ct (fun o => decide ((o : Int) ≠ ((a.toNat : Nat) : Int)) && decide (q_sc R a.toNat + q_tw R a.toNat - ((k : Int) - 1) < q_sc R o)) k2) + 1)) hx hb (by omega) dX6_mayLose_182 ?_
                                  refine lv_istore (lv' := [(7, .int (iZ ((q_ct (fun o => decide ((o : Int) ≠ ((a.toNat : Nat) : Int)) && decide (q_sc R a.toNat + q_tw R a.toNat - ((k : Int) - 1) < q_sc R o)) k2) + 1))), (8, .int (iZ (k2 : Int))), (6, .int (iZ ((k : Int) - 1))), (5, .int (iZ (q_fr R ((a.toNat))))), (4, .int (iZ (q_tw R a.toNat))), (3, .int (iZ (q_sc R ((a.toNat))))), (0, .ref (gad G 169)), (1, .int (iZ a)), (2, .int (iZ b))]) hx hb dX6_mayLose_183 hl (by decide) rfl (fun ls hl => ?_)
                                  refine z_iinc (z := ((k2 : Int) + 1)) (lv' := [(8, .int (iZ ((k2 : Int) + 1))), (7, .int (iZ ((q_ct (fun o => decide ((o : Int) ≠ ((a.toNat : Nat) : Int)) && decide (q_sc R a.toNat + q_tw R a.toNat - ((k : Int) - 1) < q_sc R o)) k2) + 1))), (6, .int (iZ ((k : Int) - 1))), (5, .int (iZ (q_fr R ((a.toNat))))), (4, .int (iZ (q_tw R a.toNat))), (3, .int (iZ (q_sc R ((a.toNat))))), (0, .ref (gad G 169)), (1, .int (iZ a)), (2, .int (iZ b))]) hx hb dX6_mayLose_185 hl (k := 1) rfl (by omega) (by decide) rfl (fun ls hl => ?_)
                                  refine lv_goto (tgt := 138) hx hb dX6_mayLose_188 (by decide) ?_
                                  exact ih_138 (k2 + 1) ((k2 : Int) + 1) ((q_ct (fun o => decide ((o : Int) ≠ ((a.toNat : Nat) : Int)) && decide (q_sc R a.toNat + q_tw R a.toNat - ((k : Int) - 1) < q_sc R o)) k2) + 1)  (by omega) (by rw [q_ct]; first | (rw [if_pos (by (try dsimp only); rw [decide_eq_true (show (k2 : Int) ≠ ((a.toNat : Nat) : Int) by omega), decide_eq_true (show q_sc R a.toNat + q_tw R a.toNat - ((k : Int) - 1) < q_sc R k2 by omega)]; rfl)] <;> omega) | (rw [if_neg (by (try dsimp only); first | (rw [decide_eq_false (show ¬ (k2 : Int) ≠ ((a.toNat : Nat) : Int) by omega)]; simp; done) | (rw [decide_eq_false (show ¬ q_sc R a.toNat + q_tw R a.toNat - ((k : Int) - 1) < q_sc R k2 by omega)]; simp; done))] <;> omega)) (by omega) (by omega) _ _ _ hG (lv_sub hl [0, 1, 2, 3, 4, 5, 6, 7, 8] rfl)
                        exact L_138 _ 0 0 0  rfl rfl (by omega) (Nat.lt_succ_self _) _ _ _ hG (lv_sub hl [0, 1, 2, 3, 4, 5, 6, 7, 8] rfl)
                  exact L_127 _ ((q_tw R a.toNat).toNat + 1) (q_tw R a.toNat)  (by omega) (by omega) (by rw [if_neg (by omega), show (q_tw R a.toNat).toNat + 1 - 1 = (q_tw R a.toNat).toNat by omega]) (Nat.lt_succ_self _) _ _ _ hG (lv_sub hl [0, 1, 2, 3, 4, 5, 6] rfl)
                · skip
                  refine lv_iload hx hb dX6_mayLose_107 (lv_at hl 2 rfl) ?_
                  refine lv_iload hx hb dX6_mayLose_109 (lv_at hl 0 rfl) ?_
                  refine g_callS (As := [.int (iZ (k : Int))]) (rest := [.int (iZ ((q_sm q_wth k) - (q_sm q_wth (q_fp R a.toNat).toNat)))]) ⟨hx, hb, hml, hown, hts⟩ (c_X6_worth l G M6 k (by omega)) (va_cwS 1 hts gX6_mayLose_X6_worth rfl rfl rfl (by decide +kernel) ⟨Nat.le_of_ble_eq_true rfl, Nat.le_of_ble_eq_true rfl⟩) hG rfl hl.1 rfl (Nat.le_of_ble_eq_true rfl) dX6_mayLose_111 ⟨Nat.zero_le _, Nat.zero_le _⟩ (fun z21 M22 H locs hp_111 hG => ?_)
                  obtain ⟨hz_111, hM_111⟩ := hp_111; replace hz_111 := hz_111.symm; subst hz_111; replace hM_111 := hM_111.symm; subst hM_111
                  refine z_iadd (z := ((q_sm q_wth k) + (q_wth k) - (q_sm q_wth (q_fp R a.toNat).toNat))) hx hb (by omega) dX6_mayLose_114 ?_
                  refine lv_istore (lv' := [(4, .int (iZ ((q_sm q_wth k) + (q_wth k) - (q_sm q_wth (q_fp R a.toNat).toNat)))), (6, .int (iZ (k : Int))), (5, .int (iZ (q_fr R ((a.toNat))))), (3, .int (iZ (q_sc R ((a.toNat))))), (0, .ref (gad G 169)), (1, .int (iZ a)), (2, .int (iZ b))]) hx hb dX6_mayLose_115 hl (by decide) rfl (fun ls hl => ?_)
                  refine z_iinc (z := ((k : Int) + 1)) (lv' := [(6, .int (iZ ((k : Int) + 1))), (4, .int (iZ ((q_sm q_wth k) + (q_wth k) - (q_sm q_wth (q_fp R a.toNat).toNat)))), (5, .int (iZ (q_fr R ((a.toNat))))), (3, .int (iZ (q_sc R ((a.toNat))))), (0, .ref (gad G 169)), (1, .int (iZ a)), (2, .int (iZ b))]) hx hb dX6_mayLose_117 hl (k := 1) rfl (by omega) (by decide) rfl (fun ls hl => ?_)
                  refine lv_goto (tgt := 100) hx hb dX6_mayLose_120 (by decide) ?_
                  exact ih_100 (k + 1) ((k : Int) + 1) ((q_sm q_wth k) + (q_wth k) - (q_sm q_wth (q_fp R a.toNat).toNat))  (by omega) (by rw [q_sm] <;> omega) (by omega) (by omega) (by omega) _ _ _ hG (lv_sub hl [0, 2, 1, 3, 4, 5, 6] rfl)
            exact L_100 _ ((q_fp R a.toNat).toNat) (q_fr R ((a.toNat))) 0  (by omega) (by omega) (by omega) (by omega) (Nat.lt_succ_self _) _ _ _ hG (lv_sub hl [0, 1, 2, 3, 4, 5, 6] rfl)
        · skip
          refine lv_bipush (v := iZ (-9)) hx hb dX6_mayLose_52 (by decide) ?_
          exact g_iret (post := fun z M1 => ((if ¬ (0 ≤ a ∧ a < q_nd R) then (1 : Int) else if ¬ (1 ≤ b ∧ b ≤ 12) then 2 else 0) = 0 → z = q_ml R a.toNat b) ∧ q_mq (if ¬ (0 ≤ a ∧ a < q_nd R) then (1 : Int) else if ¬ (1 ≤ b ∧ b ≤ 12) then 2 else 0) M M1) (z := (-9)) hx hb hr hG hlocks (⟨fun _ => by unfold q_ml; rw [if_neg (by assumption)], by rw [hcd9]; exact (q_mq.rf hM6)⟩) dX6_mayLose_54
      · exfalso; omega
    · skip
      refine lv_iconst (v := iZ 2) hx hb dX6_mayLose_28 rfl ?_
      refine lv_goto (tgt := 33) hx hb dX6_mayLose_29 (by decide) ?_
      refine g_callV (b := 169) (As := [.int (iZ 2)]) (rest := []) ⟨hx, hb, hml, hown, hts⟩ (c_X6_refused l G M hdm 2 (by omega)) (cwV 1 hts gX6_mayLose_X6_refused rfl rfl rfl (by decide +kernel) ⟨Nat.le_of_ble_eq_true rfl, Nat.le_of_ble_eq_true rfl⟩) hG (g_recv hG (b := 169) (hdm 169 (by decide)) rfl rfl) rfl hl.1 rfl (Nat.le_of_ble_eq_true rfl) dX6_mayLose_33 ⟨Nat.zero_le _, Nat.zero_le _⟩ (fun z23 M24 H locs hp_33 hG => ?_)
      obtain ⟨hz_33, hM24⟩ := hp_33; rw [if_pos (by decide)] at hz_33; replace hz_33 := hz_33.symm; subst hz_33
      have hpv_M24_172 : M24 172 = R := Eq.trans (by rw [hM24]; exact wr_off _ _ _ (by decide)) hRM
      have hcd9 : (if ¬ (0 ≤ a ∧ a < q_nd R) then (1 : Int) else if ¬ (1 ≤ b ∧ b ≤ 12) then 2 else 0) = (2 : Int) := by (repeat' split) <;> first | rfl | omega | (exfalso; omega) | contradiction
      refine z_if_eq (tgt := 41) hx hb (by decide) dX6_mayLose_36 (by decide) (fun c_36 => ?_) (fun c_36 => ?_)
      · exfalso; omega
      · skip
        refine lv_iconst (v := iZ 0) hx hb dX6_mayLose_39 rfl ?_
        exact g_iret (post := fun z M1 => ((if ¬ (0 ≤ a ∧ a < q_nd R) then (1 : Int) else if ¬ (1 ≤ b ∧ b ≤ 12) then 2 else 0) = 0 → z = q_ml R a.toNat b) ∧ q_mq (if ¬ (0 ≤ a ∧ a < q_nd R) then (1 : Int) else if ¬ (1 ≤ b ∧ b ≤ 12) then 2 else 0) M M1) (z := 0) hx hb hr hG hlocks (⟨fun h9 => absurd h9 (by rw [hcd9]; decide), by rw [hcd9]; exact (q_mq.rf hM24)⟩) dX6_mayLose_40
  · skip
    refine lv_iconst (v := iZ 1) hx hb dX6_mayLose_12 rfl ?_
    refine lv_goto (tgt := 33) hx hb dX6_mayLose_13 (by decide) ?_
    refine g_callV (b := 169) (As := [.int (iZ 1)]) (rest := []) ⟨hx, hb, hml, hown, hts⟩ (c_X6_refused l G M hdm 1 (by omega)) (cwV 1 hts gX6_mayLose_X6_refused rfl rfl rfl (by decide +kernel) ⟨Nat.le_of_ble_eq_true rfl, Nat.le_of_ble_eq_true rfl⟩) hG (g_recv hG (b := 169) (hdm 169 (by decide)) rfl rfl) rfl hl.1 rfl (Nat.le_of_ble_eq_true rfl) dX6_mayLose_33 ⟨Nat.zero_le _, Nat.zero_le _⟩ (fun z25 M26 H locs hp_33 hG => ?_)
    obtain ⟨hz_33, hM26⟩ := hp_33; rw [if_pos (by decide)] at hz_33; replace hz_33 := hz_33.symm; subst hz_33
    have hpv_M26_172 : M26 172 = R := Eq.trans (by rw [hM26]; exact wr_off _ _ _ (by decide)) hRM
    have hcd9 : (if ¬ (0 ≤ a ∧ a < q_nd R) then (1 : Int) else if ¬ (1 ≤ b ∧ b ≤ 12) then 2 else 0) = (1 : Int) := by (repeat' split) <;> first | rfl | omega | (exfalso; omega) | contradiction
    refine z_if_eq (tgt := 41) hx hb (by decide) dX6_mayLose_36 (by decide) (fun c_36 => ?_) (fun c_36 => ?_)
    · exfalso; omega
    · skip
      refine lv_iconst (v := iZ 0) hx hb dX6_mayLose_39 rfl ?_
      exact g_iret (post := fun z M1 => ((if ¬ (0 ≤ a ∧ a < q_nd R) then (1 : Int) else if ¬ (1 ≤ b ∧ b ≤ 12) then 2 else 0) = 0 → z = q_ml R a.toNat b) ∧ q_mq (if ¬ (0 ≤ a ∧ a < q_nd R) then (1 : Int) else if ¬ (1 ≤ b ∧ b ≤ 12) then 2 else 0) M M1) (z := 0) hx hb hr hG hlocks (⟨fun h9 => absurd h9 (by rw [hcd9]; decide), by rw [hcd9]; exact (q_mq.rf hM26)⟩) dX6_mayLose_40
set_option maxHeartbeats 4000000 in
set_option maxRecDepth 100000 in
theorem c_X6_runScript (l : Launch) (G : gG) (M : Nat → Nat → Int) (hdm : ∀ k, k < 179 → gdm G k) (R : Nat → Int) (hRM : M 172 = R) (hI : q_inv R) (a : Int) (ha9 : -2147483648 ≤ a ∧ a < 2147483648) (v : Int) (hv9 : -9223372036854775808 ≤ v ∧ v < 9223372036854775808) : gMi l yX6_runScript wsX6_runScript ({ frames := 6, cells := 0, slots := 0, locals := 137 } : Room) G M [.ref (gad G 169), .int (iZ a), .long (lZ v)] (fun z M1 => ((if (1 ≤ a ∧ a ≤ 4) ∧ 0 ≤ v ∧ v < q_p4 a.toNat then (0 : Int) else 1) = 0 → z = q_ff (q_cmd v a.toNat) R a.toNat) ∧ q_mq (if (1 ≤ a ∧ a ≤ 4) ∧ 0 ≤ v ∧ v < q_p4 a.toNat then (0 : Int) else 1) M M1) := by
  refine gMi_of (cc := cX6_runScript) (maxL := 10) (ret := some .int) (by decide) rfl (Nat.le_of_ble_eq_true rfl) ?_
  intro p e s m below meth c ls hx hb hr hml hown hts hlocks hl hG
  have hown : s.vm.findClass RX6 = some m.cls := hown
  have hl : lv_has ls 10 [(0, .ref (gad G 169)), (1, .int (iZ a)), (2, .long (lZ v))] := hl
  have hinX6 : ∀ w ∈ u_ws RX6 TX6 13, w ∈ wsX6_runScript := by decide +kernel
  have f16 := hts (.fieldLink RX6 16 "DogTrialsModel" "now" "[I") (by decide +kernel)
  have f19 := hts (.fieldLink RX6 19 "DogTrialsModel" "trial" "[I") (by decide +kernel)
  have hnd := hI.1
  refine lv_iload_n hx hb dX6_runScript_0 rfl (lv_at hl 1 rfl) ?_
  refine lv_iconst (v := iZ 1) hx hb dX6_runScript_1 rfl ?_
  refine z_icmp_ne (tgt := 11) hx hb (by omega) (by decide) dX6_runScript_2 (by decide) (fun c_2 => ?_) (fun c_2 => ?_)
  · skip
    refine lv_iload_n hx hb dX6_runScript_11 rfl (lv_at hl 1 rfl) ?_
    refine lv_iconst (v := iZ 2) hx hb dX6_runScript_12 rfl ?_
    refine z_icmp_ne (tgt := 22) hx hb (by omega) (by decide) dX6_runScript_13 (by decide) (fun c_13 => ?_) (fun c_13 => ?_)
    · skip
      refine lv_iload_n hx hb dX6_runScript_22 rfl (lv_at hl 1 rfl) ?_
      refine lv_iconst (v := iZ 3) hx hb dX6_runScript_23 rfl ?_
      refine z_icmp_ne (tgt := 33) hx hb (by omega) (by decide) dX6_runScript_24 (by decide) (fun c_24 => ?_) (fun c_24 => ?_)
      · skip
        refine lv_ldc2 (v := lZ 10000000000000000) hx hb hown (by rw [show lZ 10000000000000000 = (10000000000000000 : Int64) from by decide]; exact hts (.constantLong RX6 229 10000000000000000) (by decide +kernel)) dX6_runScript_33 ?_
        have hal9 : 1 ≤ a ∧ a ≤ 4 → q_p4 a.toNat = 10000000000000000 := fun h9 => by rw [show a.toNat = 4 by omega]; rfl
        refine lv_lstore (lv' := [(4, .long (lZ 10000000000000000)), (0, .ref (gad G 169)), (1, .int (iZ a)), (2, .long (lZ v))]) hx hb dX6_runScript_36 hl (by decide) rfl (fun ls hl => ?_)
        refine lv_aload_n hx hb dX6_runScript_38 rfl (lv_at hl 1 rfl) ?_
        refine lv_iload_n hx hb dX6_runScript_39 rfl (lv_at hl 2 rfl) ?_
        refine z_i2l hx hb (by omega) dX6_runScript_40 ?_
        refine lv_lconst (v := lZ 1) hx hb dX6_runScript_41 rfl ?_
        refine lv_ldc2 (v := lZ 4) hx hb hown (by rw [show lZ 4 = (4 : Int64) from by decide]; exact hts (.constantLong RX6 231 4) (by decide +kernel)) dX6_runScript_42 ?_
        refine g_callS (As := [.long (lZ a), .long (lZ 1), .long (lZ 4)]) (rest := [.ref (gad G 169)]) ⟨hx, hb, hml, hown, hts⟩ (c_X6_in l G M a 1 4 (by omega) (by omega) (by omega)) (va_cwS 3 hts gX6_runScript_X6_in rfl rfl rfl (by decide +kernel) ⟨Nat.le_of_ble_eq_true rfl, Nat.le_of_ble_eq_true rfl⟩) hG rfl hl.1 rfl (Nat.le_of_ble_eq_true rfl) dX6_runScript_45 ⟨Nat.zero_le _, Nat.zero_le _⟩ (fun z1 M2 H locs hp_45 hG => ?_)
        obtain ⟨hz_45, hM_45⟩ := hp_45; replace hz_45 := hz_45.symm; subst hz_45; replace hM_45 := hM_45.symm; subst hM_45
        refine z_ifP_eq (tgt := 67) hx hb dX6_runScript_48 (by decide) (fun c_48 => ?_) (fun c_48 => ?_)
        · skip
          refine lv_iconst (v := iZ 1) hx hb dX6_runScript_67 rfl ?_
          refine g_callV (b := 169) (As := [.int (iZ 1)]) (rest := []) ⟨hx, hb, hml, hown, hts⟩ (c_X6_refused l G M hdm 1 (by omega)) (cwV 1 hts gX6_runScript_X6_refused rfl rfl rfl (by decide +kernel) ⟨Nat.le_of_ble_eq_true rfl, Nat.le_of_ble_eq_true rfl⟩) hG (g_recv hG (b := 169) (hdm 169 (by decide)) rfl rfl) rfl hl.1 rfl (Nat.le_of_ble_eq_true rfl) dX6_runScript_68 ⟨Nat.zero_le _, Nat.zero_le _⟩ (fun z3 M4 H locs hp_68 hG => ?_)
          obtain ⟨hz_68, hM4⟩ := hp_68; rw [if_pos (by decide)] at hz_68; replace hz_68 := hz_68.symm; subst hz_68
          have hpv_M4_172 : M4 172 = R := Eq.trans (by rw [hM4]; exact wr_off _ _ _ (by decide)) hRM
          have hcd9 : (if (1 ≤ a ∧ a ≤ 4) ∧ 0 ≤ v ∧ v < q_p4 a.toNat then (0 : Int) else 1) = (1 : Int) := by (repeat' split) <;> first | rfl | omega | (exfalso; omega) | contradiction
          refine z_if_eq (tgt := 76) hx hb (by decide) dX6_runScript_71 (by decide) (fun c_71 => ?_) (fun c_71 => ?_)
          · exfalso; omega
          · skip
            refine lv_iconst (v := iZ 0) hx hb dX6_runScript_74 rfl ?_
            exact g_iret (post := fun z M1 => ((if (1 ≤ a ∧ a ≤ 4) ∧ 0 ≤ v ∧ v < q_p4 a.toNat then (0 : Int) else 1) = 0 → z = q_ff (q_cmd v a.toNat) R a.toNat) ∧ q_mq (if (1 ≤ a ∧ a ≤ 4) ∧ 0 ≤ v ∧ v < q_p4 a.toNat then (0 : Int) else 1) M M1) (z := 0) hx hb hr hG hlocks (⟨fun h9 => absurd h9 (by rw [hcd9]; decide), by rw [hcd9]; exact (q_mq.rf hM4)⟩) dX6_runScript_75
        · skip
          refine lv_lload_n hx hb dX6_runScript_51 rfl (lv_at hl 3 rfl) ?_
          refine lv_lconst (v := lZ 0) hx hb dX6_runScript_52 rfl ?_
          refine lv_lload hx hb dX6_runScript_53 (lv_at hl 0 rfl) ?_
          refine lv_lconst (v := lZ 1) hx hb dX6_runScript_55 rfl ?_
          refine z_lsub (z := 9999999999999999) hx hb (by omega) dX6_runScript_56 ?_
          refine g_callS (As := [.long (lZ v), .long (lZ 0), .long (lZ 9999999999999999)]) (rest := [.ref (gad G 169)]) ⟨hx, hb, hml, hown, hts⟩ (c_X6_in l G M v 0 9999999999999999 (by omega) (by omega) (by omega)) (va_cwS 3 hts gX6_runScript_X6_in rfl rfl rfl (by decide +kernel) ⟨Nat.le_of_ble_eq_true rfl, Nat.le_of_ble_eq_true rfl⟩) hG rfl hl.1 rfl (Nat.le_of_ble_eq_true rfl) dX6_runScript_57 ⟨Nat.zero_le _, Nat.zero_le _⟩ (fun z5 M6 H locs hp_57 hG => ?_)
          obtain ⟨hz_57, hM_57⟩ := hp_57; replace hz_57 := hz_57.symm; subst hz_57; replace hM_57 := hM_57.symm; subst hM_57
          refine z_ifP_eq (tgt := 67) hx hb dX6_runScript_60 (by decide) (fun c_60 => ?_) (fun c_60 => ?_)
          · skip
            refine lv_iconst (v := iZ 1) hx hb dX6_runScript_67 rfl ?_
            refine g_callV (b := 169) (As := [.int (iZ 1)]) (rest := []) ⟨hx, hb, hml, hown, hts⟩ (c_X6_refused l G M hdm 1 (by omega)) (cwV 1 hts gX6_runScript_X6_refused rfl rfl rfl (by decide +kernel) ⟨Nat.le_of_ble_eq_true rfl, Nat.le_of_ble_eq_true rfl⟩) hG (g_recv hG (b := 169) (hdm 169 (by decide)) rfl rfl) rfl hl.1 rfl (Nat.le_of_ble_eq_true rfl) dX6_runScript_68 ⟨Nat.zero_le _, Nat.zero_le _⟩ (fun z7 M8 H locs hp_68 hG => ?_)
            obtain ⟨hz_68, hM8⟩ := hp_68; rw [if_pos (by decide)] at hz_68; replace hz_68 := hz_68.symm; subst hz_68
            have hpv_M8_172 : M8 172 = R := Eq.trans (by rw [hM8]; exact wr_off _ _ _ (by decide)) hRM
            have hcd9 : (if (1 ≤ a ∧ a ≤ 4) ∧ 0 ≤ v ∧ v < q_p4 a.toNat then (0 : Int) else 1) = (1 : Int) := by (repeat' split) <;> first | rfl | omega | (exfalso; omega) | contradiction
            refine z_if_eq (tgt := 76) hx hb (by decide) dX6_runScript_71 (by decide) (fun c_71 => ?_) (fun c_71 => ?_)
            · exfalso; omega
            · skip
              refine lv_iconst (v := iZ 0) hx hb dX6_runScript_74 rfl ?_
              exact g_iret (post := fun z M1 => ((if (1 ≤ a ∧ a ≤ 4) ∧ 0 ≤ v ∧ v < q_p4 a.toNat then (0 : Int) else 1) = 0 → z = q_ff (q_cmd v a.toNat) R a.toNat) ∧ q_mq (if (1 ≤ a ∧ a ≤ 4) ∧ 0 ≤ v ∧ v < q_p4 a.toNat then (0 : Int) else 1) M M1) (z := 0) hx hb hr hG hlocks (⟨fun h9 => absurd h9 (by rw [hcd9]; decide), by rw [hcd9]; exact (q_mq.rf hM8)⟩) dX6_runScript_75
          · skip
            refine lv_iconst (v := iZ 0) hx hb dX6_runScript_63 rfl ?_
            refine lv_goto (tgt := 68) hx hb dX6_runScript_64 (by decide) ?_
            refine g_callV (b := 169) (As := [.int (iZ 0)]) (rest := []) ⟨hx, hb, hml, hown, hts⟩ (c_X6_refused l G M hdm 0 (by omega)) (cwV 1 hts gX6_runScript_X6_refused rfl rfl rfl (by decide +kernel) ⟨Nat.le_of_ble_eq_true rfl, Nat.le_of_ble_eq_true rfl⟩) hG (g_recv hG (b := 169) (hdm 169 (by decide)) rfl rfl) rfl hl.1 rfl (Nat.le_of_ble_eq_true rfl) dX6_runScript_68 ⟨Nat.zero_le _, Nat.zero_le _⟩ (fun z9 M10 H locs hp_68 hG => ?_)
            obtain ⟨hz_68, hM10⟩ := hp_68; rw [if_neg (by decide)] at hz_68; replace hz_68 := hz_68.symm; subst hz_68
            have hpv_M10_172 : M10 172 = R := Eq.trans (by rw [hM10]; exact wr_off _ _ _ (by decide)) hRM
            have hcd9 : (if (1 ≤ a ∧ a ≤ 4) ∧ 0 ≤ v ∧ v < q_p4 a.toNat then (0 : Int) else 1) = (0 : Int) := by (repeat' split) <;> first | rfl | omega | (exfalso; omega) | contradiction
            refine z_if_eq (tgt := 76) hx hb (by decide) dX6_runScript_71 (by decide) (fun c_71 => ?_) (fun c_71 => ?_)
            · skip
              have hna : a = ((a.toNat : Nat) : Int) := by omega
              have hp9 := hal9 (by omega)
              refine lv_aload_n hx hb dX6_runScript_76 rfl (lv_at hl 1 rfl) ?_
              refine g_get hx hb hts hinX6 hown hG (o := 169) (hdm 169 (by decide)) rfl rfl 5 (by decide) f16 (fun _ h => h) rfl dX6_runScript_77 ?_
              refine lv_iconst (v := iZ 0) hx hb dX6_runScript_80 rfl ?_
              refine lv_aload_n hx hb dX6_runScript_81 rfl (lv_at hl 1 rfl) ?_
              refine g_get hx hb hts hinX6 hown hG (o := 169) (hdm 169 (by decide)) rfl rfl 6 (by decide) f19 (fun _ h => h) rfl dX6_runScript_82 ?_
              refine lv_iconst (v := iZ 0) hx hb dX6_runScript_85 rfl ?_
              refine g_vcallS (As := [.ref (gad G 172), .int (iZ 0), .ref (gad G 173), .int (iZ 0)]) (rest := []) ⟨hx, hb, hml, hown, hts⟩ (c_copyTo l G M10 hdm 172 146 0 173 (by decide) (fun f => rfl) (by omega) (by decide) (Or.inr (Or.inr rfl)) (by decide)) (va_cwS 4 hts gX6_runScript_X6_copyPage rfl rfl rfl (by decide +kernel) ⟨Nat.le_of_ble_eq_true rfl, Nat.le_of_ble_eq_true rfl⟩) hG rfl hl.1 rfl (Nat.le_of_ble_eq_true rfl) dX6_runScript_86 ⟨Nat.zero_le _, Nat.zero_le _⟩ (fun M12 H locs hp_86 hG => ?_)
              rw [hpv_M10_172] at hp_86
              replace hp_86 : M12 = q_set M10 173 R := by rw [hp_86]; congr 1; funext k9; rw [Nat.zero_add]
              have hpv_M12_173 : M12 173 = R := by rw [hp_86, q_set_at]
              have hpv_M12_172 : M12 172 = R := Eq.trans (by rw [hp_86]; exact q_set_off _ _ (by decide)) hpv_M10_172
              refine lv_lload_n hx hb dX6_runScript_89 rfl (lv_at hl 3 rfl) ?_
              refine lv_lstore (lv' := [(6, .long (lZ v)), (4, .long (lZ 10000000000000000)), (0, .ref (gad G 169)), (1, .int (iZ a)), (2, .long (lZ v))]) hx hb dX6_runScript_90 hl (by decide) rfl (fun ls hl => ?_)
              refine lv_iconst (v := iZ 0) hx hb dX6_runScript_92 rfl ?_
              refine lv_istore (lv' := [(8, .int (iZ 0)), (6, .long (lZ v)), (4, .long (lZ 10000000000000000)), (0, .ref (gad G 169)), (1, .int (iZ a)), (2, .long (lZ v))]) hx hb dX6_runScript_93 hl (by decide) rfl (fun ls hl => ?_)
              have L_95 : ∀ (n_95 : Nat) (k : Nat) (x_i : Int) (x_l : Int) (x_a : Int) (Mk : Nat → Nat → Int), (x_i = (k : Int)) → (x_l = (v % q_p4 (a.toNat - k))) → (x_a = (q_p4 (a.toNat - k))) → (k ≤ a.toNat) → ((∀ j, j < k → q_okc (q_cmd v a.toNat) R j = true)) → (Mk 173 = (q_run (q_cmd v a.toNat) R k)) → (q_mq 0 M Mk) → 5 - k < n_95 → ∀ (H : Heap) (locs : List Loc) (ls : Array Slot), gH G Mk s H locs → lv_has ls 10 [(8, .int (iZ x_i)), (6, .long (lZ x_l)), (4, .long (lZ x_a)), (0, .ref (gad G 169)), (1, .int (iZ a)), (2, .long (lZ v))] → W p l e ({ frames := 6, cells := 0, slots := 0, locals := 137 } : Room) s m [.ref (gad G 169), .int (iZ a), .long (lZ v)].toArray below meth c H locs 0 0 (MQ below (va_Qi (fun r (u : Int × (Nat → Nat → Int)) => r = iZ u.1 ∧ (fun z M1 => ((if (1 ≤ a ∧ a ≤ 4) ∧ 0 ≤ v ∧ v < q_p4 a.toNat then (0 : Int) else 1) = 0 → z = q_ff (q_cmd v a.toNat) R a.toNat) ∧ q_mq (if (1 ≤ a ∧ a ≤ 4) ∧ 0 ≤ v ∧ v < q_p4 a.toNat then (0 : Int) else 1) M M1) u.1 u.2) (fun u U => gB G u.2 U) (gA G)) [.ref (gad G 169), .int (iZ a), .long (lZ v)].toArray s 0 0 (gA G)) (F0 m 95 ls []) := by
                intro n_95
                induction n_95 with
                | zero => intro k x_i x_l x_a Mk he_x_i he_x_l he_x_a hk hok hRk hmqk hm_95; exact absurd hm_95 (Nat.not_lt_zero _)
                | succ n_95 ih_95 =>
                  intro k x_i x_l x_a Mk he_x_i he_x_l he_x_a hk hok hRk hmqk hm_95 H locs ls hG hl
                  subst he_x_i
                  subst he_x_l
                  subst he_x_a
                  have hIk := inv_run (C := q_cmd v a.toNat) hI k hok
                  have hcm9 := q_cmd_in v a.toNat k
                  refine lv_iload hx hb dX6_runScript_95 (lv_at hl 0 rfl) ?_
                  refine lv_iload_n hx hb dX6_runScript_97 rfl (lv_at hl 4 rfl) ?_
                  refine z_icmp_ge (tgt := 152) hx hb (by omega) (by omega) dX6_runScript_98 (by decide) (fun c_98 => ?_) (fun c_98 => ?_)
                  · skip
                    refine lv_bipush (v := iZ (-9)) hx hb dX6_runScript_152 (by decide) ?_
                    exact g_iret (post := fun z M1 => ((if (1 ≤ a ∧ a ≤ 4) ∧ 0 ≤ v ∧ v < q_p4 a.toNat then (0 : Int) else 1) = 0 → z = q_ff (q_cmd v a.toNat) R a.toNat) ∧ q_mq (if (1 ≤ a ∧ a ≤ 4) ∧ 0 ≤ v ∧ v < q_p4 a.toNat then (0 : Int) else 1) M M1) (z := (-9)) hx hb hr hG hlocks (⟨fun _ => (q_ff_no (fun j hj => hok j (by omega))).symm, by rw [hcd9]; exact hmqk⟩) dX6_runScript_154
                  · skip
                    have he9 : a.toNat - k = (a.toNat - 1 - k) + 1 := by omega
                    have hst9 := q_p4_step (a.toNat - 1 - k) (by omega)
                    have hgr9 := q_grp (v := v) (by omega) (a.toNat - 1 - k) (by omega)
                    rw [← he9] at hst9 hgr9
                    have hq9 : (v % q_p4 (a.toNat - k)) / q_p4 (a.toNat - 1 - k) = q_cmd v a.toNat k := hgr9.1
                    refine lv_lload hx hb dX6_runScript_101 (lv_at hl 2 rfl) ?_
                    refine lv_ldc2 (v := lZ 10000) hx hb hown (by rw [show lZ 10000 = (10000 : Int64) from by decide]; exact hts (.constantLong RX6 223 10000) (by decide +kernel)) dX6_runScript_103 ?_
                    refine z_ldiv (z := (q_p4 (a.toNat - 1 - k))) hx hb (by omega) (by omega) ((Int.tdiv_eq_ediv_of_nonneg (by omega)).trans hst9.1) dX6_runScript_106 ?_
                    refine lv_lstore (lv' := [(4, .long (lZ (q_p4 (a.toNat - 1 - k)))), (8, .int (iZ (k : Int))), (6, .long (lZ (v % q_p4 (a.toNat - k)))), (0, .ref (gad G 169)), (1, .int (iZ a)), (2, .long (lZ v))]) hx hb dX6_runScript_107 hl (by decide) rfl (fun ls hl => ?_)
                    refine lv_lload hx hb dX6_runScript_109 (lv_at hl 2 rfl) ?_
                    refine lv_lload hx hb dX6_runScript_111 (lv_at hl 0 rfl) ?_
                    refine z_ldiv (z := (q_cmd v a.toNat k)) hx hb (by omega) (by omega) ((Int.tdiv_eq_ediv_of_nonneg (by omega)).trans hq9) dX6_runScript_113 ?_
                    refine z_l2i hx hb dX6_runScript_114 ?_
                    refine lv_istore (lv' := [(9, .int (iZ (q_cmd v a.toNat k))), (4, .long (lZ (q_p4 (a.toNat - 1 - k)))), (8, .int (iZ (k : Int))), (6, .long (lZ (v % q_p4 (a.toNat - k)))), (0, .ref (gad G 169)), (1, .int (iZ a)), (2, .long (lZ v))]) hx hb dX6_runScript_115 hl (by decide) rfl (fun ls hl => ?_)
                    refine lv_lload hx hb dX6_runScript_117 (lv_at hl 3 rfl) ?_
                    refine lv_lload hx hb dX6_runScript_119 (lv_at hl 1 rfl) ?_
                    refine z_lrem (z := (v % q_p4 (a.toNat - k) % q_p4 (a.toNat - 1 - k))) hx hb (by omega) (by omega) (Int.tmod_eq_emod_of_nonneg (by omega)) dX6_runScript_121 ?_
                    refine lv_lstore (lv' := [(6, .long (lZ (v % q_p4 (a.toNat - k) % q_p4 (a.toNat - 1 - k)))), (9, .int (iZ (q_cmd v a.toNat k))), (4, .long (lZ (q_p4 (a.toNat - 1 - k)))), (8, .int (iZ (k : Int))), (0, .ref (gad G 169)), (1, .int (iZ a)), (2, .long (lZ v))]) hx hb dX6_runScript_122 hl (by decide) rfl (fun ls hl => ?_)
                    refine lv_aload_n hx hb dX6_runScript_124 rfl (lv_at hl 4 rfl) ?_
                    refine lv_iload hx hb dX6_runScript_125 (lv_at hl 1 rfl) ?_
                    refine lv_sipush (v := iZ (1000)) hx hb dX6_runScript_127 (by decide) ?_
                    refine z_idiv (z := (q_cmd v a.toNat k / 1000)) hx hb (by omega) (by omega) rfl dX6_runScript_130 ?_
                    refine lv_iload hx hb dX6_runScript_131 (lv_at hl 1 rfl) ?_
                    refine lv_sipush (v := iZ (1000)) hx hb dX6_runScript_133 (by decide) ?_
                    refine z_irem (z := (q_cmd v a.toNat k % 1000)) hx hb (by omega) (by omega) rfl dX6_runScript_136 ?_
                    refine g_callV (b := 169) (As := [.int (iZ (q_cmd v a.toNat k / 1000)), .int (iZ (q_cmd v a.toNat k % 1000))]) (rest := []) ⟨hx, hb, hml, hown, hts⟩ (c_X6_does l G Mk hdm (by rw [hRk]; exact hIk) (q_cmd v a.toNat k / 1000) (q_cmd v a.toNat k % 1000) (by omega) (by omega)) (cwV 2 hts gX6_runScript_X6_does rfl rfl rfl (by decide +kernel) ⟨Nat.le_of_ble_eq_true rfl, Nat.le_of_ble_eq_true rfl⟩) hG (g_recv hG (b := 169) (hdm 169 (by decide)) rfl rfl) rfl hl.1 rfl (Nat.le_of_ble_eq_true rfl) dX6_runScript_137 ⟨Nat.zero_le _, Nat.zero_le _⟩ (fun z13 M14 H locs hp_137 hG => ?_)
                    obtain ⟨hz_137, hpg_M14, hrf_M14⟩ := hp_137; rw [hRk] at hz_137 hpg_M14; replace hz_137 := hz_137.symm; subst hz_137
                    refine z_ifP_ne (tgt := 146) hx hb dX6_runScript_140 (by decide) (fun c_140 => ?_) (fun c_140 => ?_)
                    · skip
                      refine z_iinc (z := ((k : Int) + 1)) (lv' := [(8, .int (iZ ((k : Int) + 1))), (6, .long (lZ (v % q_p4 (a.toNat - k) % q_p4 (a.toNat - 1 - k)))), (9, .int (iZ (q_cmd v a.toNat k))), (4, .long (lZ (q_p4 (a.toNat - 1 - k)))), (0, .ref (gad G 169)), (1, .int (iZ a)), (2, .long (lZ v))]) hx hb dX6_runScript_146 hl (k := 3) rfl (by omega) (by decide) rfl (fun ls hl => ?_)
                      refine lv_goto (tgt := 95) hx hb dX6_runScript_149 (by decide) ?_
                      exact ih_95 (k + 1) ((k : Int) + 1) (v % q_p4 (a.toNat - k) % q_p4 (a.toNat - 1 - k)) (q_p4 (a.toNat - 1 - k)) M14 (by omega) (by rw [hgr9.2.1, show a.toNat - (k + 1) = a.toNat - 1 - k by omega]) (by rw [show a.toNat - (k + 1) = a.toNat - 1 - k by omega]) (by omega) (fun j hj => by rcases (show j < k ∨ j = k by omega) with h9 | h9; exact hok j h9; (subst h9; assumption)) (hpg_M14 (by assumption)) (q_mq.rfr hmqk hrf_M14) (by omega) _ _ _ hG (lv_sub hl [0, 1, 3, 4, 5, 6] rfl)
                    · skip
                      refine lv_iload hx hb dX6_runScript_143 (lv_at hl 3 rfl) ?_
                      exact g_iret (post := fun z M1 => ((if (1 ≤ a ∧ a ≤ 4) ∧ 0 ≤ v ∧ v < q_p4 a.toNat then (0 : Int) else 1) = 0 → z = q_ff (q_cmd v a.toNat) R a.toNat) ∧ q_mq (if (1 ≤ a ∧ a ≤ 4) ∧ 0 ≤ v ∧ v < q_p4 a.toNat then (0 : Int) else 1) M M1) (z := (k : Int)) hx hb hr hG hlocks (⟨fun _ => (q_ff_hit (by assumption) hok (by omega)).symm, by rw [hcd9]; exact (q_mq.rfr hmqk hrf_M14)⟩) dX6_runScript_145
              exact L_95 _ 0 0 v 10000000000000000 M12 rfl (by rw [Nat.sub_zero]; exact (Int.emod_eq_of_lt (by omega) (by omega)).symm) (by rw [Nat.sub_zero]; exact hp9.symm) (by omega) (fun j h => absurd h (Nat.not_lt_zero _)) (hpv_M12_173) (q_mq.set (q_mq.rf hM10) hp_86) (Nat.lt_succ_self _) _ _ _ hG (lv_sub hl [0, 1, 2, 3, 4, 5] rfl)
            · exfalso; omega
      · skip
        refine lv_ldc2 (v := lZ 1000000000000) hx hb hown (by rw [show lZ 1000000000000 = (1000000000000 : Int64) from by decide]; exact hts (.constantLong RX6 227 1000000000000) (by decide +kernel)) dX6_runScript_27 ?_
        refine lv_goto (tgt := 36) hx hb dX6_runScript_30 (by decide) ?_
        have hal9 : 1 ≤ a ∧ a ≤ 4 → q_p4 a.toNat = 1000000000000 := fun h9 => by rw [show a.toNat = 3 by omega]; rfl
        refine lv_lstore (lv' := [(4, .long (lZ 1000000000000)), (0, .ref (gad G 169)), (1, .int (iZ a)), (2, .long (lZ v))]) hx hb dX6_runScript_36 hl (by decide) rfl (fun ls hl => ?_)
        refine lv_aload_n hx hb dX6_runScript_38 rfl (lv_at hl 1 rfl) ?_
        refine lv_iload_n hx hb dX6_runScript_39 rfl (lv_at hl 2 rfl) ?_
        refine z_i2l hx hb (by omega) dX6_runScript_40 ?_
        refine lv_lconst (v := lZ 1) hx hb dX6_runScript_41 rfl ?_
        refine lv_ldc2 (v := lZ 4) hx hb hown (by rw [show lZ 4 = (4 : Int64) from by decide]; exact hts (.constantLong RX6 231 4) (by decide +kernel)) dX6_runScript_42 ?_
        refine g_callS (As := [.long (lZ a), .long (lZ 1), .long (lZ 4)]) (rest := [.ref (gad G 169)]) ⟨hx, hb, hml, hown, hts⟩ (c_X6_in l G M a 1 4 (by omega) (by omega) (by omega)) (va_cwS 3 hts gX6_runScript_X6_in rfl rfl rfl (by decide +kernel) ⟨Nat.le_of_ble_eq_true rfl, Nat.le_of_ble_eq_true rfl⟩) hG rfl hl.1 rfl (Nat.le_of_ble_eq_true rfl) dX6_runScript_45 ⟨Nat.zero_le _, Nat.zero_le _⟩ (fun z15 M16 H locs hp_45 hG => ?_)
        obtain ⟨hz_45, hM_45⟩ := hp_45; replace hz_45 := hz_45.symm; subst hz_45; replace hM_45 := hM_45.symm; subst hM_45
        refine z_ifP_eq (tgt := 67) hx hb dX6_runScript_48 (by decide) (fun c_48 => ?_) (fun c_48 => ?_)
        · skip
          refine lv_iconst (v := iZ 1) hx hb dX6_runScript_67 rfl ?_
          refine g_callV (b := 169) (As := [.int (iZ 1)]) (rest := []) ⟨hx, hb, hml, hown, hts⟩ (c_X6_refused l G M hdm 1 (by omega)) (cwV 1 hts gX6_runScript_X6_refused rfl rfl rfl (by decide +kernel) ⟨Nat.le_of_ble_eq_true rfl, Nat.le_of_ble_eq_true rfl⟩) hG (g_recv hG (b := 169) (hdm 169 (by decide)) rfl rfl) rfl hl.1 rfl (Nat.le_of_ble_eq_true rfl) dX6_runScript_68 ⟨Nat.zero_le _, Nat.zero_le _⟩ (fun z17 M18 H locs hp_68 hG => ?_)
          obtain ⟨hz_68, hM18⟩ := hp_68; rw [if_pos (by decide)] at hz_68; replace hz_68 := hz_68.symm; subst hz_68
          have hpv_M18_172 : M18 172 = R := Eq.trans (by rw [hM18]; exact wr_off _ _ _ (by decide)) hRM
          have hcd9 : (if (1 ≤ a ∧ a ≤ 4) ∧ 0 ≤ v ∧ v < q_p4 a.toNat then (0 : Int) else 1) = (1 : Int) := by (repeat' split) <;> first | rfl | omega | (exfalso; omega) | contradiction
          refine z_if_eq (tgt := 76) hx hb (by decide) dX6_runScript_71 (by decide) (fun c_71 => ?_) (fun c_71 => ?_)
          · exfalso; omega
          · skip
            refine lv_iconst (v := iZ 0) hx hb dX6_runScript_74 rfl ?_
            exact g_iret (post := fun z M1 => ((if (1 ≤ a ∧ a ≤ 4) ∧ 0 ≤ v ∧ v < q_p4 a.toNat then (0 : Int) else 1) = 0 → z = q_ff (q_cmd v a.toNat) R a.toNat) ∧ q_mq (if (1 ≤ a ∧ a ≤ 4) ∧ 0 ≤ v ∧ v < q_p4 a.toNat then (0 : Int) else 1) M M1) (z := 0) hx hb hr hG hlocks (⟨fun h9 => absurd h9 (by rw [hcd9]; decide), by rw [hcd9]; exact (q_mq.rf hM18)⟩) dX6_runScript_75
        · skip
          refine lv_lload_n hx hb dX6_runScript_51 rfl (lv_at hl 3 rfl) ?_
          refine lv_lconst (v := lZ 0) hx hb dX6_runScript_52 rfl ?_
          refine lv_lload hx hb dX6_runScript_53 (lv_at hl 0 rfl) ?_
          refine lv_lconst (v := lZ 1) hx hb dX6_runScript_55 rfl ?_
          refine z_lsub (z := 999999999999) hx hb (by omega) dX6_runScript_56 ?_
          refine g_callS (As := [.long (lZ v), .long (lZ 0), .long (lZ 999999999999)]) (rest := [.ref (gad G 169)]) ⟨hx, hb, hml, hown, hts⟩ (c_X6_in l G M v 0 999999999999 (by omega) (by omega) (by omega)) (va_cwS 3 hts gX6_runScript_X6_in rfl rfl rfl (by decide +kernel) ⟨Nat.le_of_ble_eq_true rfl, Nat.le_of_ble_eq_true rfl⟩) hG rfl hl.1 rfl (Nat.le_of_ble_eq_true rfl) dX6_runScript_57 ⟨Nat.zero_le _, Nat.zero_le _⟩ (fun z19 M20 H locs hp_57 hG => ?_)
          obtain ⟨hz_57, hM_57⟩ := hp_57; replace hz_57 := hz_57.symm; subst hz_57; replace hM_57 := hM_57.symm; subst hM_57
          refine z_ifP_eq (tgt := 67) hx hb dX6_runScript_60 (by decide) (fun c_60 => ?_) (fun c_60 => ?_)
          · skip
            refine lv_iconst (v := iZ 1) hx hb dX6_runScript_67 rfl ?_
            refine g_callV (b := 169) (As := [.int (iZ 1)]) (rest := []) ⟨hx, hb, hml, hown, hts⟩ (c_X6_refused l G M hdm 1 (by omega)) (cwV 1 hts gX6_runScript_X6_refused rfl rfl rfl (by decide +kernel) ⟨Nat.le_of_ble_eq_true rfl, Nat.le_of_ble_eq_true rfl⟩) hG (g_recv hG (b := 169) (hdm 169 (by decide)) rfl rfl) rfl hl.1 rfl (Nat.le_of_ble_eq_true rfl) dX6_runScript_68 ⟨Nat.zero_le _, Nat.zero_le _⟩ (fun z21 M22 H locs hp_68 hG => ?_)
            obtain ⟨hz_68, hM22⟩ := hp_68; rw [if_pos (by decide)] at hz_68; replace hz_68 := hz_68.symm; subst hz_68
            have hpv_M22_172 : M22 172 = R := Eq.trans (by rw [hM22]; exact wr_off _ _ _ (by decide)) hRM
            have hcd9 : (if (1 ≤ a ∧ a ≤ 4) ∧ 0 ≤ v ∧ v < q_p4 a.toNat then (0 : Int) else 1) = (1 : Int) := by (repeat' split) <;> first | rfl | omega | (exfalso; omega) | contradiction
            refine z_if_eq (tgt := 76) hx hb (by decide) dX6_runScript_71 (by decide) (fun c_71 => ?_) (fun c_71 => ?_)
            · exfalso; omega
            · skip
              refine lv_iconst (v := iZ 0) hx hb dX6_runScript_74 rfl ?_
              exact g_iret (post := fun z M1 => ((if (1 ≤ a ∧ a ≤ 4) ∧ 0 ≤ v ∧ v < q_p4 a.toNat then (0 : Int) else 1) = 0 → z = q_ff (q_cmd v a.toNat) R a.toNat) ∧ q_mq (if (1 ≤ a ∧ a ≤ 4) ∧ 0 ≤ v ∧ v < q_p4 a.toNat then (0 : Int) else 1) M M1) (z := 0) hx hb hr hG hlocks (⟨fun h9 => absurd h9 (by rw [hcd9]; decide), by rw [hcd9]; exact (q_mq.rf hM22)⟩) dX6_runScript_75
          · skip
            refine lv_iconst (v := iZ 0) hx hb dX6_runScript_63 rfl ?_
            refine lv_goto (tgt := 68) hx hb dX6_runScript_64 (by decide) ?_
            refine g_callV (b := 169) (As := [.int (iZ 0)]) (rest := []) ⟨hx, hb, hml, hown, hts⟩ (c_X6_refused l G M hdm 0 (by omega)) (cwV 1 hts gX6_runScript_X6_refused rfl rfl rfl (by decide +kernel) ⟨Nat.le_of_ble_eq_true rfl, Nat.le_of_ble_eq_true rfl⟩) hG (g_recv hG (b := 169) (hdm 169 (by decide)) rfl rfl) rfl hl.1 rfl (Nat.le_of_ble_eq_true rfl) dX6_runScript_68 ⟨Nat.zero_le _, Nat.zero_le _⟩ (fun z23 M24 H locs hp_68 hG => ?_)
            obtain ⟨hz_68, hM24⟩ := hp_68; rw [if_neg (by decide)] at hz_68; replace hz_68 := hz_68.symm; subst hz_68
            have hpv_M24_172 : M24 172 = R := Eq.trans (by rw [hM24]; exact wr_off _ _ _ (by decide)) hRM
            have hcd9 : (if (1 ≤ a ∧ a ≤ 4) ∧ 0 ≤ v ∧ v < q_p4 a.toNat then (0 : Int) else 1) = (0 : Int) := by (repeat' split) <;> first | rfl | omega | (exfalso; omega) | contradiction
            refine z_if_eq (tgt := 76) hx hb (by decide) dX6_runScript_71 (by decide) (fun c_71 => ?_) (fun c_71 => ?_)
            · skip
              have hna : a = ((a.toNat : Nat) : Int) := by omega
              have hp9 := hal9 (by omega)
              refine lv_aload_n hx hb dX6_runScript_76 rfl (lv_at hl 1 rfl) ?_
              refine g_get hx hb hts hinX6 hown hG (o := 169) (hdm 169 (by decide)) rfl rfl 5 (by decide) f16 (fun _ h => h) rfl dX6_runScript_77 ?_
              refine lv_iconst (v := iZ 0) hx hb dX6_runScript_80 rfl ?_
              refine lv_aload_n hx hb dX6_runScript_81 rfl (lv_at hl 1 rfl) ?_
              refine g_get hx hb hts hinX6 hown hG (o := 169) (hdm 169 (by decide)) rfl rfl 6 (by decide) f19 (fun _ h => h) rfl dX6_runScript_82 ?_
              refine lv_iconst (v := iZ 0) hx hb dX6_runScript_85 rfl ?_
              refine g_vcallS (As := [.ref (gad G 172), .int (iZ 0), .ref (gad G 173), .int (iZ 0)]) (rest := []) ⟨hx, hb, hml, hown, hts⟩ (c_copyTo l G M24 hdm 172 146 0 173 (by decide) (fun f => rfl) (by omega) (by decide) (Or.inr (Or.inr rfl)) (by decide)) (va_cwS 4 hts gX6_runScript_X6_copyPage rfl rfl rfl (by decide +kernel) ⟨Nat.le_of_ble_eq_true rfl, Nat.le_of_ble_eq_true rfl⟩) hG rfl hl.1 rfl (Nat.le_of_ble_eq_true rfl) dX6_runScript_86 ⟨Nat.zero_le _, Nat.zero_le _⟩ (fun M26 H locs hp_86 hG => ?_)
              rw [hpv_M24_172] at hp_86
              replace hp_86 : M26 = q_set M24 173 R := by rw [hp_86]; congr 1; funext k9; rw [Nat.zero_add]
              have hpv_M26_173 : M26 173 = R := by rw [hp_86, q_set_at]
              have hpv_M26_172 : M26 172 = R := Eq.trans (by rw [hp_86]; exact q_set_off _ _ (by decide)) hpv_M24_172
              refine lv_lload_n hx hb dX6_runScript_89 rfl (lv_at hl 3 rfl) ?_
              refine lv_lstore (lv' := [(6, .long (lZ v)), (4, .long (lZ 1000000000000)), (0, .ref (gad G 169)), (1, .int (iZ a)), (2, .long (lZ v))]) hx hb dX6_runScript_90 hl (by decide) rfl (fun ls hl => ?_)
              refine lv_iconst (v := iZ 0) hx hb dX6_runScript_92 rfl ?_
              refine lv_istore (lv' := [(8, .int (iZ 0)), (6, .long (lZ v)), (4, .long (lZ 1000000000000)), (0, .ref (gad G 169)), (1, .int (iZ a)), (2, .long (lZ v))]) hx hb dX6_runScript_93 hl (by decide) rfl (fun ls hl => ?_)
              have L_95 : ∀ (n_95 : Nat) (k : Nat) (x_i : Int) (x_l : Int) (x_a : Int) (Mk : Nat → Nat → Int), (x_i = (k : Int)) → (x_l = (v % q_p4 (a.toNat - k))) → (x_a = (q_p4 (a.toNat - k))) → (k ≤ a.toNat) → ((∀ j, j < k → q_okc (q_cmd v a.toNat) R j = true)) → (Mk 173 = (q_run (q_cmd v a.toNat) R k)) → (q_mq 0 M Mk) → 5 - k < n_95 → ∀ (H : Heap) (locs : List Loc) (ls : Array Slot), gH G Mk s H locs → lv_has ls 10 [(8, .int (iZ x_i)), (6, .long (lZ x_l)), (4, .long (lZ x_a)), (0, .ref (gad G 169)), (1, .int (iZ a)), (2, .long (lZ v))] → W p l e ({ frames := 6, cells := 0, slots := 0, locals := 137 } : Room) s m [.ref (gad G 169), .int (iZ a), .long (lZ v)].toArray below meth c H locs 0 0 (MQ below (va_Qi (fun r (u : Int × (Nat → Nat → Int)) => r = iZ u.1 ∧ (fun z M1 => ((if (1 ≤ a ∧ a ≤ 4) ∧ 0 ≤ v ∧ v < q_p4 a.toNat then (0 : Int) else 1) = 0 → z = q_ff (q_cmd v a.toNat) R a.toNat) ∧ q_mq (if (1 ≤ a ∧ a ≤ 4) ∧ 0 ≤ v ∧ v < q_p4 a.toNat then (0 : Int) else 1) M M1) u.1 u.2) (fun u U => gB G u.2 U) (gA G)) [.ref (gad G 169), .int (iZ a), .long (lZ v)].toArray s 0 0 (gA G)) (F0 m 95 ls []) := by
                intro n_95
                induction n_95 with
                | zero => intro k x_i x_l x_a Mk he_x_i he_x_l he_x_a hk hok hRk hmqk hm_95; exact absurd hm_95 (Nat.not_lt_zero _)
                | succ n_95 ih_95 =>
                  intro k x_i x_l x_a Mk he_x_i he_x_l he_x_a hk hok hRk hmqk hm_95 H locs ls hG hl
                  subst he_x_i
                  subst he_x_l
                  subst he_x_a
                  have hIk := inv_run (C := q_cmd v a.toNat) hI k hok
                  have hcm9 := q_cmd_in v a.toNat k
                  refine lv_iload hx hb dX6_runScript_95 (lv_at hl 0 rfl) ?_
                  refine lv_iload_n hx hb dX6_runScript_97 rfl (lv_at hl 4 rfl) ?_
                  refine z_icmp_ge (tgt := 152) hx hb (by omega) (by omega) dX6_runScript_98 (by decide) (fun c_98 => ?_) (fun c_98 => ?_)
                  · skip
                    refine lv_bipush (v := iZ (-9)) hx hb dX6_runScript_152 (by decide) ?_
                    exact g_iret (post := fun z M1 => ((if (1 ≤ a ∧ a ≤ 4) ∧ 0 ≤ v ∧ v < q_p4 a.toNat then (0 : Int) else 1) = 0 → z = q_ff (q_cmd v a.toNat) R a.toNat) ∧ q_mq (if (1 ≤ a ∧ a ≤ 4) ∧ 0 ≤ v ∧ v < q_p4 a.toNat then (0 : Int) else 1) M M1) (z := (-9)) hx hb hr hG hlocks (⟨fun _ => (q_ff_no (fun j hj => hok j (by omega))).symm, by rw [hcd9]; exact hmqk⟩) dX6_runScript_154
                  · skip
                    have he9 : a.toNat - k = (a.toNat - 1 - k) + 1 := by omega
                    have hst9 := q_p4_step (a.toNat - 1 - k) (by omega)
                    have hgr9 := q_grp (v := v) (by omega) (a.toNat - 1 - k) (by omega)
                    rw [← he9] at hst9 hgr9
                    have hq9 : (v % q_p4 (a.toNat - k)) / q_p4 (a.toNat - 1 - k) = q_cmd v a.toNat k := hgr9.1
                    refine lv_lload hx hb dX6_runScript_101 (lv_at hl 2 rfl) ?_
                    refine lv_ldc2 (v := lZ 10000) hx hb hown (by rw [show lZ 10000 = (10000 : Int64) from by decide]; exact hts (.constantLong RX6 223 10000) (by decide +kernel)) dX6_runScript_103 ?_
                    refine z_ldiv (z := (q_p4 (a.toNat - 1 - k))) hx hb (by omega) (by omega) ((Int.tdiv_eq_ediv_of_nonneg (by omega)).trans hst9.1) dX6_runScript_106 ?_
                    refine lv_lstore (lv' := [(4, .long (lZ (q_p4 (a.toNat - 1 - k)))), (8, .int (iZ (k : Int))), (6, .long (lZ (v % q_p4 (a.toNat - k)))), (0, .ref (gad G 169)), (1, .int (iZ a)), (2, .long (lZ v))]) hx hb dX6_runScript_107 hl (by decide) rfl (fun ls hl => ?_)
                    refine lv_lload hx hb dX6_runScript_109 (lv_at hl 2 rfl) ?_
                    refine lv_lload hx hb dX6_runScript_111 (lv_at hl 0 rfl) ?_
                    refine z_ldiv (z := (q_cmd v a.toNat k)) hx hb (by omega) (by omega) ((Int.tdiv_eq_ediv_of_nonneg (by omega)).trans hq9) dX6_runScript_113 ?_
                    refine z_l2i hx hb dX6_runScript_114 ?_
                    refine lv_istore (lv' := [(9, .int (iZ (q_cmd v a.toNat k))), (4, .long (lZ (q_p4 (a.toNat - 1 - k)))), (8, .int (iZ (k : Int))), (6, .long (lZ (v % q_p4 (a.toNat - k)))), (0, .ref (gad G 169)), (1, .int (iZ a)), (2, .long (lZ v))]) hx hb dX6_runScript_115 hl (by decide) rfl (fun ls hl => ?_)
                    refine lv_lload hx hb dX6_runScript_117 (lv_at hl 3 rfl) ?_
                    refine lv_lload hx hb dX6_runScript_119 (lv_at hl 1 rfl) ?_
                    refine z_lrem (z := (v % q_p4 (a.toNat - k) % q_p4 (a.toNat - 1 - k))) hx hb (by omega) (by omega) (Int.tmod_eq_emod_of_nonneg (by omega)) dX6_runScript_121 ?_
                    refine lv_lstore (lv' := [(6, .long (lZ (v % q_p4 (a.toNat - k) % q_p4 (a.toNat - 1 - k)))), (9, .int (iZ (q_cmd v a.toNat k))), (4, .long (lZ (q_p4 (a.toNat - 1 - k)))), (8, .int (iZ (k : Int))), (0, .ref (gad G 169)), (1, .int (iZ a)), (2, .long (lZ v))]) hx hb dX6_runScript_122 hl (by decide) rfl (fun ls hl => ?_)
                    refine lv_aload_n hx hb dX6_runScript_124 rfl (lv_at hl 4 rfl) ?_
                    refine lv_iload hx hb dX6_runScript_125 (lv_at hl 1 rfl) ?_
                    refine lv_sipush (v := iZ (1000)) hx hb dX6_runScript_127 (by decide) ?_
                    refine z_idiv (z := (q_cmd v a.toNat k / 1000)) hx hb (by omega) (by omega) rfl dX6_runScript_130 ?_
                    refine lv_iload hx hb dX6_runScript_131 (lv_at hl 1 rfl) ?_
                    refine lv_sipush (v := iZ (1000)) hx hb dX6_runScript_133 (by decide) ?_
                    refine z_irem (z := (q_cmd v a.toNat k % 1000)) hx hb (by omega) (by omega) rfl dX6_runScript_136 ?_
                    refine g_callV (b := 169) (As := [.int (iZ (q_cmd v a.toNat k / 1000)), .int (iZ (q_cmd v a.toNat k % 1000))]) (rest := []) ⟨hx, hb, hml, hown, hts⟩ (c_X6_does l G Mk hdm (by rw [hRk]; exact hIk) (q_cmd v a.toNat k / 1000) (q_cmd v a.toNat k % 1000) (by omega) (by omega)) (cwV 2 hts gX6_runScript_X6_does rfl rfl rfl (by decide +kernel) ⟨Nat.le_of_ble_eq_true rfl, Nat.le_of_ble_eq_true rfl⟩) hG (g_recv hG (b := 169) (hdm 169 (by decide)) rfl rfl) rfl hl.1 rfl (Nat.le_of_ble_eq_true rfl) dX6_runScript_137 ⟨Nat.zero_le _, Nat.zero_le _⟩ (fun z27 M28 H locs hp_137 hG => ?_)
                    obtain ⟨hz_137, hpg_M28, hrf_M28⟩ := hp_137; rw [hRk] at hz_137 hpg_M28; replace hz_137 := hz_137.symm; subst hz_137
                    refine z_ifP_ne (tgt := 146) hx hb dX6_runScript_140 (by decide) (fun c_140 => ?_) (fun c_140 => ?_)
                    · skip
                      refine z_iinc (z := ((k : Int) + 1)) (lv' := [(8, .int (iZ ((k : Int) + 1))), (6, .long (lZ (v % q_p4 (a.toNat - k) % q_p4 (a.toNat - 1 - k)))), (9, .int (iZ (q_cmd v a.toNat k))), (4, .long (lZ (q_p4 (a.toNat - 1 - k)))), (0, .ref (gad G 169)), (1, .int (iZ a)), (2, .long (lZ v))]) hx hb dX6_runScript_146 hl (k := 3) rfl (by omega) (by decide) rfl (fun ls hl => ?_)
                      refine lv_goto (tgt := 95) hx hb dX6_runScript_149 (by decide) ?_
                      exact ih_95 (k + 1) ((k : Int) + 1) (v % q_p4 (a.toNat - k) % q_p4 (a.toNat - 1 - k)) (q_p4 (a.toNat - 1 - k)) M28 (by omega) (by rw [hgr9.2.1, show a.toNat - (k + 1) = a.toNat - 1 - k by omega]) (by rw [show a.toNat - (k + 1) = a.toNat - 1 - k by omega]) (by omega) (fun j hj => by rcases (show j < k ∨ j = k by omega) with h9 | h9; exact hok j h9; (subst h9; assumption)) (hpg_M28 (by assumption)) (q_mq.rfr hmqk hrf_M28) (by omega) _ _ _ hG (lv_sub hl [0, 1, 3, 4, 5, 6] rfl)
                    · skip
                      refine lv_iload hx hb dX6_runScript_143 (lv_at hl 3 rfl) ?_
                      exact g_iret (post := fun z M1 => ((if (1 ≤ a ∧ a ≤ 4) ∧ 0 ≤ v ∧ v < q_p4 a.toNat then (0 : Int) else 1) = 0 → z = q_ff (q_cmd v a.toNat) R a.toNat) ∧ q_mq (if (1 ≤ a ∧ a ≤ 4) ∧ 0 ≤ v ∧ v < q_p4 a.toNat then (0 : Int) else 1) M M1) (z := (k : Int)) hx hb hr hG hlocks (⟨fun _ => (q_ff_hit (by assumption) hok (by omega)).symm, by rw [hcd9]; exact (q_mq.rfr hmqk hrf_M28)⟩) dX6_runScript_145
              exact L_95 _ 0 0 v 1000000000000 M26 rfl (by rw [Nat.sub_zero]; exact (Int.emod_eq_of_lt (by omega) (by omega)).symm) (by rw [Nat.sub_zero]; exact hp9.symm) (by omega) (fun j h => absurd h (Nat.not_lt_zero _)) (hpv_M26_173) (q_mq.set (q_mq.rf hM24) hp_86) (Nat.lt_succ_self _) _ _ _ hG (lv_sub hl [0, 1, 2, 3, 4, 5] rfl)
            · exfalso; omega
    · skip
      refine lv_ldc2 (v := lZ 100000000) hx hb hown (by rw [show lZ 100000000 = (100000000 : Int64) from by decide]; exact hts (.constantLong RX6 225 100000000) (by decide +kernel)) dX6_runScript_16 ?_
      refine lv_goto (tgt := 36) hx hb dX6_runScript_19 (by decide) ?_
      have hal9 : 1 ≤ a ∧ a ≤ 4 → q_p4 a.toNat = 100000000 := fun h9 => by rw [show a.toNat = 2 by omega]; rfl
      refine lv_lstore (lv' := [(4, .long (lZ 100000000)), (0, .ref (gad G 169)), (1, .int (iZ a)), (2, .long (lZ v))]) hx hb dX6_runScript_36 hl (by decide) rfl (fun ls hl => ?_)
      refine lv_aload_n hx hb dX6_runScript_38 rfl (lv_at hl 1 rfl) ?_
      refine lv_iload_n hx hb dX6_runScript_39 rfl (lv_at hl 2 rfl) ?_
      refine z_i2l hx hb (by omega) dX6_runScript_40 ?_
      refine lv_lconst (v := lZ 1) hx hb dX6_runScript_41 rfl ?_
      refine lv_ldc2 (v := lZ 4) hx hb hown (by rw [show lZ 4 = (4 : Int64) from by decide]; exact hts (.constantLong RX6 231 4) (by decide +kernel)) dX6_runScript_42 ?_
      refine g_callS (As := [.long (lZ a), .long (lZ 1), .long (lZ 4)]) (rest := [.ref (gad G 169)]) ⟨hx, hb, hml, hown, hts⟩ (c_X6_in l G M a 1 4 (by omega) (by omega) (by omega)) (va_cwS 3 hts gX6_runScript_X6_in rfl rfl rfl (by decide +kernel) ⟨Nat.le_of_ble_eq_true rfl, Nat.le_of_ble_eq_true rfl⟩) hG rfl hl.1 rfl (Nat.le_of_ble_eq_true rfl) dX6_runScript_45 ⟨Nat.zero_le _, Nat.zero_le _⟩ (fun z29 M30 H locs hp_45 hG => ?_)
      obtain ⟨hz_45, hM_45⟩ := hp_45; replace hz_45 := hz_45.symm; subst hz_45; replace hM_45 := hM_45.symm; subst hM_45
      refine z_ifP_eq (tgt := 67) hx hb dX6_runScript_48 (by decide) (fun c_48 => ?_) (fun c_48 => ?_)
      · skip
        refine lv_iconst (v := iZ 1) hx hb dX6_runScript_67 rfl ?_
        refine g_callV (b := 169) (As := [.int (iZ 1)]) (rest := []) ⟨hx, hb, hml, hown, hts⟩ (c_X6_refused l G M hdm 1 (by omega)) (cwV 1 hts gX6_runScript_X6_refused rfl rfl rfl (by decide +kernel) ⟨Nat.le_of_ble_eq_true rfl, Nat.le_of_ble_eq_true rfl⟩) hG (g_recv hG (b := 169) (hdm 169 (by decide)) rfl rfl) rfl hl.1 rfl (Nat.le_of_ble_eq_true rfl) dX6_runScript_68 ⟨Nat.zero_le _, Nat.zero_le _⟩ (fun z31 M32 H locs hp_68 hG => ?_)
        obtain ⟨hz_68, hM32⟩ := hp_68; rw [if_pos (by decide)] at hz_68; replace hz_68 := hz_68.symm; subst hz_68
        have hpv_M32_172 : M32 172 = R := Eq.trans (by rw [hM32]; exact wr_off _ _ _ (by decide)) hRM
        have hcd9 : (if (1 ≤ a ∧ a ≤ 4) ∧ 0 ≤ v ∧ v < q_p4 a.toNat then (0 : Int) else 1) = (1 : Int) := by (repeat' split) <;> first | rfl | omega | (exfalso; omega) | contradiction
        refine z_if_eq (tgt := 76) hx hb (by decide) dX6_runScript_71 (by decide) (fun c_71 => ?_) (fun c_71 => ?_)
        · exfalso; omega
        · skip
          refine lv_iconst (v := iZ 0) hx hb dX6_runScript_74 rfl ?_
          exact g_iret (post := fun z M1 => ((if (1 ≤ a ∧ a ≤ 4) ∧ 0 ≤ v ∧ v < q_p4 a.toNat then (0 : Int) else 1) = 0 → z = q_ff (q_cmd v a.toNat) R a.toNat) ∧ q_mq (if (1 ≤ a ∧ a ≤ 4) ∧ 0 ≤ v ∧ v < q_p4 a.toNat then (0 : Int) else 1) M M1) (z := 0) hx hb hr hG hlocks (⟨fun h9 => absurd h9 (by rw [hcd9]; decide), by rw [hcd9]; exact (q_mq.rf hM32)⟩) dX6_runScript_75
      · skip
        refine lv_lload_n hx hb dX6_runScript_51 rfl (lv_at hl 3 rfl) ?_
        refine lv_lconst (v := lZ 0) hx hb dX6_runScript_52 rfl ?_
        refine lv_lload hx hb dX6_runScript_53 (lv_at hl 0 rfl) ?_
        refine lv_lconst (v := lZ 1) hx hb dX6_runScript_55 rfl ?_
        refine z_lsub (z := 99999999) hx hb (by omega) dX6_runScript_56 ?_
        refine g_callS (As := [.long (lZ v), .long (lZ 0), .long (lZ 99999999)]) (rest := [.ref (gad G 169)]) ⟨hx, hb, hml, hown, hts⟩ (c_X6_in l G M v 0 99999999 (by omega) (by omega) (by omega)) (va_cwS 3 hts gX6_runScript_X6_in rfl rfl rfl (by decide +kernel) ⟨Nat.le_of_ble_eq_true rfl, Nat.le_of_ble_eq_true rfl⟩) hG rfl hl.1 rfl (Nat.le_of_ble_eq_true rfl) dX6_runScript_57 ⟨Nat.zero_le _, Nat.zero_le _⟩ (fun z33 M34 H locs hp_57 hG => ?_)
        obtain ⟨hz_57, hM_57⟩ := hp_57; replace hz_57 := hz_57.symm; subst hz_57; replace hM_57 := hM_57.symm; subst hM_57
        refine z_ifP_eq (tgt := 67) hx hb dX6_runScript_60 (by decide) (fun c_60 => ?_) (fun c_60 => ?_)
        · skip
          refine lv_iconst (v := iZ 1) hx hb dX6_runScript_67 rfl ?_
          refine g_callV (b := 169) (As := [.int (iZ 1)]) (rest := []) ⟨hx, hb, hml, hown, hts⟩ (c_X6_refused l G M hdm 1 (by omega)) (cwV 1 hts gX6_runScript_X6_refused rfl rfl rfl (by decide +kernel) ⟨Nat.le_of_ble_eq_true rfl, Nat.le_of_ble_eq_true rfl⟩) hG (g_recv hG (b := 169) (hdm 169 (by decide)) rfl rfl) rfl hl.1 rfl (Nat.le_of_ble_eq_true rfl) dX6_runScript_68 ⟨Nat.zero_le _, Nat.zero_le _⟩ (fun z35 M36 H locs hp_68 hG => ?_)
          obtain ⟨hz_68, hM36⟩ := hp_68; rw [if_pos (by decide)] at hz_68; replace hz_68 := hz_68.symm; subst hz_68
          have hpv_M36_172 : M36 172 = R := Eq.trans (by rw [hM36]; exact wr_off _ _ _ (by decide)) hRM
          have hcd9 : (if (1 ≤ a ∧ a ≤ 4) ∧ 0 ≤ v ∧ v < q_p4 a.toNat then (0 : Int) else 1) = (1 : Int) := by (repeat' split) <;> first | rfl | omega | (exfalso; omega) | contradiction
          refine z_if_eq (tgt := 76) hx hb (by decide) dX6_runScript_71 (by decide) (fun c_71 => ?_) (fun c_71 => ?_)
          · exfalso; omega
          · skip
            refine lv_iconst (v := iZ 0) hx hb dX6_runScript_74 rfl ?_
            exact g_iret (post := fun z M1 => ((if (1 ≤ a ∧ a ≤ 4) ∧ 0 ≤ v ∧ v < q_p4 a.toNat then (0 : Int) else 1) = 0 → z = q_ff (q_cmd v a.toNat) R a.toNat) ∧ q_mq (if (1 ≤ a ∧ a ≤ 4) ∧ 0 ≤ v ∧ v < q_p4 a.toNat then (0 : Int) else 1) M M1) (z := 0) hx hb hr hG hlocks (⟨fun h9 => absurd h9 (by rw [hcd9]; decide), by rw [hcd9]; exact (q_mq.rf hM36)⟩) dX6_runScript_75
        · skip
          refine lv_iconst (v := iZ 0) hx hb dX6_runScript_63 rfl ?_
          refine lv_goto (tgt := 68) hx hb dX6_runScript_64 (by decide) ?_
          refine g_callV (b := 169) (As := [.int (iZ 0)]) (rest := []) ⟨hx, hb, hml, hown, hts⟩ (c_X6_refused l G M hdm 0 (by omega)) (cwV 1 hts gX6_runScript_X6_refused rfl rfl rfl (by decide +kernel) ⟨Nat.le_of_ble_eq_true rfl, Nat.le_of_ble_eq_true rfl⟩) hG (g_recv hG (b := 169) (hdm 169 (by decide)) rfl rfl) rfl hl.1 rfl (Nat.le_of_ble_eq_true rfl) dX6_runScript_68 ⟨Nat.zero_le _, Nat.zero_le _⟩ (fun z37 M38 H locs hp_68 hG => ?_)
          obtain ⟨hz_68, hM38⟩ := hp_68; rw [if_neg (by decide)] at hz_68; replace hz_68 := hz_68.symm; subst hz_68
          have hpv_M38_172 : M38 172 = R := Eq.trans (by rw [hM38]; exact wr_off _ _ _ (by decide)) hRM
          have hcd9 : (if (1 ≤ a ∧ a ≤ 4) ∧ 0 ≤ v ∧ v < q_p4 a.toNat then (0 : Int) else 1) = (0 : Int) := by (repeat' split) <;> first | rfl | omega | (exfalso; omega) | contradiction
          refine z_if_eq (tgt := 76) hx hb (by decide) dX6_runScript_71 (by decide) (fun c_71 => ?_) (fun c_71 => ?_)
          · skip
            have hna : a = ((a.toNat : Nat) : Int) := by omega
            have hp9 := hal9 (by omega)
            refine lv_aload_n hx hb dX6_runScript_76 rfl (lv_at hl 1 rfl) ?_
            refine g_get hx hb hts hinX6 hown hG (o := 169) (hdm 169 (by decide)) rfl rfl 5 (by decide) f16 (fun _ h => h) rfl dX6_runScript_77 ?_
            refine lv_iconst (v := iZ 0) hx hb dX6_runScript_80 rfl ?_
            refine lv_aload_n hx hb dX6_runScript_81 rfl (lv_at hl 1 rfl) ?_
            refine g_get hx hb hts hinX6 hown hG (o := 169) (hdm 169 (by decide)) rfl rfl 6 (by decide) f19 (fun _ h => h) rfl dX6_runScript_82 ?_
            refine lv_iconst (v := iZ 0) hx hb dX6_runScript_85 rfl ?_
            refine g_vcallS (As := [.ref (gad G 172), .int (iZ 0), .ref (gad G 173), .int (iZ 0)]) (rest := []) ⟨hx, hb, hml, hown, hts⟩ (c_copyTo l G M38 hdm 172 146 0 173 (by decide) (fun f => rfl) (by omega) (by decide) (Or.inr (Or.inr rfl)) (by decide)) (va_cwS 4 hts gX6_runScript_X6_copyPage rfl rfl rfl (by decide +kernel) ⟨Nat.le_of_ble_eq_true rfl, Nat.le_of_ble_eq_true rfl⟩) hG rfl hl.1 rfl (Nat.le_of_ble_eq_true rfl) dX6_runScript_86 ⟨Nat.zero_le _, Nat.zero_le _⟩ (fun M40 H locs hp_86 hG => ?_)
            rw [hpv_M38_172] at hp_86
            replace hp_86 : M40 = q_set M38 173 R := by rw [hp_86]; congr 1; funext k9; rw [Nat.zero_add]
            have hpv_M40_173 : M40 173 = R := by rw [hp_86, q_set_at]
            have hpv_M40_172 : M40 172 = R := Eq.trans (by rw [hp_86]; exact q_set_off _ _ (by decide)) hpv_M38_172
            refine lv_lload_n hx hb dX6_runScript_89 rfl (lv_at hl 3 rfl) ?_
            refine lv_lstore (lv' := [(6, .long (lZ v)), (4, .long (lZ 100000000)), (0, .ref (gad G 169)), (1, .int (iZ a)), (2, .long (lZ v))]) hx hb dX6_runScript_90 hl (by decide) rfl (fun ls hl => ?_)
            refine lv_iconst (v := iZ 0) hx hb dX6_runScript_92 rfl ?_
            refine lv_istore (lv' := [(8, .int (iZ 0)), (6, .long (lZ v)), (4, .long (lZ 100000000)), (0, .ref (gad G 169)), (1, .int (iZ a)), (2, .long (lZ v))]) hx hb dX6_runScript_93 hl (by decide) rfl (fun ls hl => ?_)
            have L_95 : ∀ (n_95 : Nat) (k : Nat) (x_i : Int) (x_l : Int) (x_a : Int) (Mk : Nat → Nat → Int), (x_i = (k : Int)) → (x_l = (v % q_p4 (a.toNat - k))) → (x_a = (q_p4 (a.toNat - k))) → (k ≤ a.toNat) → ((∀ j, j < k → q_okc (q_cmd v a.toNat) R j = true)) → (Mk 173 = (q_run (q_cmd v a.toNat) R k)) → (q_mq 0 M Mk) → 5 - k < n_95 → ∀ (H : Heap) (locs : List Loc) (ls : Array Slot), gH G Mk s H locs → lv_has ls 10 [(8, .int (iZ x_i)), (6, .long (lZ x_l)), (4, .long (lZ x_a)), (0, .ref (gad G 169)), (1, .int (iZ a)), (2, .long (lZ v))] → W p l e ({ frames := 6, cells := 0, slots := 0, locals := 137 } : Room) s m [.ref (gad G 169), .int (iZ a), .long (lZ v)].toArray below meth c H locs 0 0 (MQ below (va_Qi (fun r (u : Int × (Nat → Nat → Int)) => r = iZ u.1 ∧ (fun z M1 => ((if (1 ≤ a ∧ a ≤ 4) ∧ 0 ≤ v ∧ v < q_p4 a.toNat then (0 : Int) else 1) = 0 → z = q_ff (q_cmd v a.toNat) R a.toNat) ∧ q_mq (if (1 ≤ a ∧ a ≤ 4) ∧ 0 ≤ v ∧ v < q_p4 a.toNat then (0 : Int) else 1) M M1) u.1 u.2) (fun u U => gB G u.2 U) (gA G)) [.ref (gad G 169), .int (iZ a), .long (lZ v)].toArray s 0 0 (gA G)) (F0 m 95 ls []) := by
              intro n_95
              induction n_95 with
              | zero => intro k x_i x_l x_a Mk he_x_i he_x_l he_x_a hk hok hRk hmqk hm_95; exact absurd hm_95 (Nat.not_lt_zero _)
              | succ n_95 ih_95 =>
                intro k x_i x_l x_a Mk he_x_i he_x_l he_x_a hk hok hRk hmqk hm_95 H locs ls hG hl
                subst he_x_i
                subst he_x_l
                subst he_x_a
                have hIk := inv_run (C := q_cmd v a.toNat) hI k hok
                have hcm9 := q_cmd_in v a.toNat k
                refine lv_iload hx hb dX6_runScript_95 (lv_at hl 0 rfl) ?_
                refine lv_iload_n hx hb dX6_runScript_97 rfl (lv_at hl 4 rfl) ?_
                refine z_icmp_ge (tgt := 152) hx hb (by omega) (by omega) dX6_runScript_98 (by decide) (fun c_98 => ?_) (fun c_98 => ?_)
                · skip
                  refine lv_bipush (v := iZ (-9)) hx hb dX6_runScript_152 (by decide) ?_
                  exact g_iret (post := fun z M1 => ((if (1 ≤ a ∧ a ≤ 4) ∧ 0 ≤ v ∧ v < q_p4 a.toNat then (0 : Int) else 1) = 0 → z = q_ff (q_cmd v a.toNat) R a.toNat) ∧ q_mq (if (1 ≤ a ∧ a ≤ 4) ∧ 0 ≤ v ∧ v < q_p4 a.toNat then (0 : Int) else 1) M M1) (z := (-9)) hx hb hr hG hlocks (⟨fun _ => (q_ff_no (fun j hj => hok j (by omega))).symm, by rw [hcd9]; exact hmqk⟩) dX6_runScript_154
                · skip
                  have he9 : a.toNat - k = (a.toNat - 1 - k) + 1 := by omega
                  have hst9 := q_p4_step (a.toNat - 1 - k) (by omega)
                  have hgr9 := q_grp (v := v) (by omega) (a.toNat - 1 - k) (by omega)
                  rw [← he9] at hst9 hgr9
                  have hq9 : (v % q_p4 (a.toNat - k)) / q_p4 (a.toNat - 1 - k) = q_cmd v a.toNat k := hgr9.1
                  refine lv_lload hx hb dX6_runScript_101 (lv_at hl 2 rfl) ?_
                  refine lv_ldc2 (v := lZ 10000) hx hb hown (by rw [show lZ 10000 = (10000 : Int64) from by decide]; exact hts (.constantLong RX6 223 10000) (by decide +kernel)) dX6_runScript_103 ?_
                  refine z_ldiv (z := (q_p4 (a.toNat - 1 - k))) hx hb (by omega) (by omega) ((Int.tdiv_eq_ediv_of_nonneg (by omega)).trans hst9.1) dX6_runScript_106 ?_
                  refine lv_lstore (lv' := [(4, .long (lZ (q_p4 (a.toNat - 1 - k)))), (8, .int (iZ (k : Int))), (6, .long (lZ (v % q_p4 (a.toNat - k)))), (0, .ref (gad G 169)), (1, .int (iZ a)), (2, .long (lZ v))]) hx hb dX6_runScript_107 hl (by decide) rfl (fun ls hl => ?_)
                  refine lv_lload hx hb dX6_runScript_109 (lv_at hl 2 rfl) ?_
                  refine lv_lload hx hb dX6_runScript_111 (lv_at hl 0 rfl) ?_
                  refine z_ldiv (z := (q_cmd v a.toNat k)) hx hb (by omega) (by omega) ((Int.tdiv_eq_ediv_of_nonneg (by omega)).trans hq9) dX6_runScript_113 ?_
                  refine z_l2i hx hb dX6_runScript_114 ?_
                  refine lv_istore (lv' := [(9, .int (iZ (q_cmd v a.toNat k))), (4, .long (lZ (q_p4 (a.toNat - 1 - k)))), (8, .int (iZ (k : Int))), (6, .long (lZ (v % q_p4 (a.toNat - k)))), (0, .ref (gad G 169)), (1, .int (iZ a)), (2, .long (lZ v))]) hx hb dX6_runScript_115 hl (by decide) rfl (fun ls hl => ?_)
                  refine lv_lload hx hb dX6_runScript_117 (lv_at hl 3 rfl) ?_
                  refine lv_lload hx hb dX6_runScript_119 (lv_at hl 1 rfl) ?_
                  refine z_lrem (z := (v % q_p4 (a.toNat - k) % q_p4 (a.toNat - 1 - k))) hx hb (by omega) (by omega) (Int.tmod_eq_emod_of_nonneg (by omega)) dX6_runScript_121 ?_
                  refine lv_lstore (lv' := [(6, .long (lZ (v % q_p4 (a.toNat - k) % q_p4 (a.toNat - 1 - k)))), (9, .int (iZ (q_cmd v a.toNat k))), (4, .long (lZ (q_p4 (a.toNat - 1 - k)))), (8, .int (iZ (k : Int))), (0, .ref (gad G 169)), (1, .int (iZ a)), (2, .long (lZ v))]) hx hb dX6_runScript_122 hl (by decide) rfl (fun ls hl => ?_)
                  refine lv_aload_n hx hb dX6_runScript_124 rfl (lv_at hl 4 rfl) ?_
                  refine lv_iload hx hb dX6_runScript_125 (lv_at hl 1 rfl) ?_
                  refine lv_sipush (v := iZ (1000)) hx hb dX6_runScript_127 (by decide) ?_
                  refine z_idiv (z := (q_cmd v a.toNat k / 1000)) hx hb (by omega) (by omega) rfl dX6_runScript_130 ?_
                  refine lv_iload hx hb dX6_runScript_131 (lv_at hl 1 rfl) ?_
                  refine lv_sipush (v := iZ (1000)) hx hb dX6_runScript_133 (by decide) ?_
                  refine z_irem (z := (q_cmd v a.toNat k % 1000)) hx hb (by omega) (by omega) rfl dX6_runScript_136 ?_
                  refine g_callV (b := 169) (As := [.int (iZ (q_cmd v a.toNat k / 1000)), .int (iZ (q_cmd v a.toNat k % 1000))]) (rest := []) ⟨hx, hb, hml, hown, hts⟩ (c_X6_does l G Mk hdm (by rw [hRk]; exact hIk) (q_cmd v a.toNat k / 1000) (q_cmd v a.toNat k % 1000) (by omega) (by omega)) (cwV 2 hts gX6_runScript_X6_does rfl rfl rfl (by decide +kernel) ⟨Nat.le_of_ble_eq_true rfl, Nat.le_of_ble_eq_true rfl⟩) hG (g_recv hG (b := 169) (hdm 169 (by decide)) rfl rfl) rfl hl.1 rfl (Nat.le_of_ble_eq_true rfl) dX6_runScript_137 ⟨Nat.zero_le _, Nat.zero_le _⟩ (fun z41 M42 H locs hp_137 hG => ?_)
                  obtain ⟨hz_137, hpg_M42, hrf_M42⟩ := hp_137; rw [hRk] at hz_137 hpg_M42; replace hz_137 := hz_137.symm; subst hz_137
                  refine z_ifP_ne (tgt := 146) hx hb dX6_runScript_140 (by decide) (fun c_140 => ?_) (fun c_140 => ?_)
                  · skip
                    refine z_iinc (z := ((k : Int) + 1)) (lv' := [(8, .int (iZ ((k : Int) + 1))), (6, .long (lZ (v % q_p4 (a.toNat - k) % q_p4 (a.toNat - 1 - k)))), (9, .int (iZ (q_cmd v a.toNat k))), (4, .long (lZ (q_p4 (a.toNat - 1 - k)))), (0, .ref (gad G 169)), (1, .int (iZ a)), (2, .long (lZ v))]) hx hb dX6_runScript_146 hl (k := 3) rfl (by omega) (by decide) rfl (fun ls hl => ?_)
                    refine lv_goto (tgt := 95) hx hb dX6_runScript_149 (by decide) ?_
                    exact ih_95 (k + 1) ((k : Int) + 1) (v % q_p4 (a.toNat - k) % q_p4 (a.toNat - 1 - k)) (q_p4 (a.toNat - 1 - k)) M42 (by omega) (by rw [hgr9.2.1, show a.toNat - (k + 1) = a.toNat - 1 - k by omega]) (by rw [show a.toNat - (k + 1) = a.toNat - 1 - k by omega]) (by omega) (fun j hj => by rcases (show j < k ∨ j = k by omega) with h9 | h9; exact hok j h9; (subst h9; assumption)) (hpg_M42 (by assumption)) (q_mq.rfr hmqk hrf_M42) (by omega) _ _ _ hG (lv_sub hl [0, 1, 3, 4, 5, 6] rfl)
                  · skip
                    refine lv_iload hx hb dX6_runScript_143 (lv_at hl 3 rfl) ?_
                    exact g_iret (post := fun z M1 => ((if (1 ≤ a ∧ a ≤ 4) ∧ 0 ≤ v ∧ v < q_p4 a.toNat then (0 : Int) else 1) = 0 → z = q_ff (q_cmd v a.toNat) R a.toNat) ∧ q_mq (if (1 ≤ a ∧ a ≤ 4) ∧ 0 ≤ v ∧ v < q_p4 a.toNat then (0 : Int) else 1) M M1) (z := (k : Int)) hx hb hr hG hlocks (⟨fun _ => (q_ff_hit (by assumption) hok (by omega)).symm, by rw [hcd9]; exact (q_mq.rfr hmqk hrf_M42)⟩) dX6_runScript_145
            exact L_95 _ 0 0 v 100000000 M40 rfl (by rw [Nat.sub_zero]; exact (Int.emod_eq_of_lt (by omega) (by omega)).symm) (by rw [Nat.sub_zero]; exact hp9.symm) (by omega) (fun j h => absurd h (Nat.not_lt_zero _)) (hpv_M40_173) (q_mq.set (q_mq.rf hM38) hp_86) (Nat.lt_succ_self _) _ _ _ hG (lv_sub hl [0, 1, 2, 3, 4, 5] rfl)
          · exfalso; omega
  · skip
    refine lv_ldc2 (v := lZ 10000) hx hb hown (by rw [show lZ 10000 = (10000 : Int64) from by decide]; exact hts (.constantLong RX6 223 10000) (by decide +kernel)) dX6_runScript_5 ?_
    refine lv_goto (tgt := 36) hx hb dX6_runScript_8 (by decide) ?_
    have hal9 : 1 ≤ a ∧ a ≤ 4 → q_p4 a.toNat = 10000 := fun h9 => by rw [show a.toNat = 1 by omega]; rfl
    refine lv_lstore (lv' := [(4, .long (lZ 10000)), (0, .ref (gad G 169)), (1, .int (iZ a)), (2, .long (lZ v))]) hx hb dX6_runScript_36 hl (by decide) rfl (fun ls hl => ?_)
    refine lv_aload_n hx hb dX6_runScript_38 rfl (lv_at hl 1 rfl) ?_
    refine lv_iload_n hx hb dX6_runScript_39 rfl (lv_at hl 2 rfl) ?_
    refine z_i2l hx hb (by omega) dX6_runScript_40 ?_
    refine lv_lconst (v := lZ 1) hx hb dX6_runScript_41 rfl ?_
    refine lv_ldc2 (v := lZ 4) hx hb hown (by rw [show lZ 4 = (4 : Int64) from by decide]; exact hts (.constantLong RX6 231 4) (by decide +kernel)) dX6_runScript_42 ?_
    refine g_callS (As := [.long (lZ a), .long (lZ 1), .long (lZ 4)]) (rest := [.ref (gad G 169)]) ⟨hx, hb, hml, hown, hts⟩ (c_X6_in l G M a 1 4 (by omega) (by omega) (by omega)) (va_cwS 3 hts gX6_runScript_X6_in rfl rfl rfl (by decide +kernel) ⟨Nat.le_of_ble_eq_true rfl, Nat.le_of_ble_eq_true rfl⟩) hG rfl hl.1 rfl (Nat.le_of_ble_eq_true rfl) dX6_runScript_45 ⟨Nat.zero_le _, Nat.zero_le _⟩ (fun z43 M44 H locs hp_45 hG => ?_)
    obtain ⟨hz_45, hM_45⟩ := hp_45; replace hz_45 := hz_45.symm; subst hz_45; replace hM_45 := hM_45.symm; subst hM_45
    refine z_ifP_eq (tgt := 67) hx hb dX6_runScript_48 (by decide) (fun c_48 => ?_) (fun c_48 => ?_)
    · skip
      refine lv_iconst (v := iZ 1) hx hb dX6_runScript_67 rfl ?_
      refine g_callV (b := 169) (As := [.int (iZ 1)]) (rest := []) ⟨hx, hb, hml, hown, hts⟩ (c_X6_refused l G M hdm 1 (by omega)) (cwV 1 hts gX6_runScript_X6_refused rfl rfl rfl (by decide +kernel) ⟨Nat.le_of_ble_eq_true rfl, Nat.le_of_ble_eq_true rfl⟩) hG (g_recv hG (b := 169) (hdm 169 (by decide)) rfl rfl) rfl hl.1 rfl (Nat.le_of_ble_eq_true rfl) dX6_runScript_68 ⟨Nat.zero_le _, Nat.zero_le _⟩ (fun z45 M46 H locs hp_68 hG => ?_)
      obtain ⟨hz_68, hM46⟩ := hp_68; rw [if_pos (by decide)] at hz_68; replace hz_68 := hz_68.symm; subst hz_68
      have hpv_M46_172 : M46 172 = R := Eq.trans (by rw [hM46]; exact wr_off _ _ _ (by decide)) hRM
      have hcd9 : (if (1 ≤ a ∧ a ≤ 4) ∧ 0 ≤ v ∧ v < q_p4 a.toNat then (0 : Int) else 1) = (1 : Int) := by (repeat' split) <;> first | rfl | omega | (exfalso; omega) | contradiction
      refine z_if_eq (tgt := 76) hx hb (by decide) dX6_runScript_71 (by decide) (fun c_71 => ?_) (fun c_71 => ?_)
      · exfalso; omega
      · skip
        refine lv_iconst (v := iZ 0) hx hb dX6_runScript_74 rfl ?_
        exact g_iret (post := fun z M1 => ((if (1 ≤ a ∧ a ≤ 4) ∧ 0 ≤ v ∧ v < q_p4 a.toNat then (0 : Int) else 1) = 0 → z = q_ff (q_cmd v a.toNat) R a.toNat) ∧ q_mq (if (1 ≤ a ∧ a ≤ 4) ∧ 0 ≤ v ∧ v < q_p4 a.toNat then (0 : Int) else 1) M M1) (z := 0) hx hb hr hG hlocks (⟨fun h9 => absurd h9 (by rw [hcd9]; decide), by rw [hcd9]; exact (q_mq.rf hM46)⟩) dX6_runScript_75
    · skip
      refine lv_lload_n hx hb dX6_runScript_51 rfl (lv_at hl 3 rfl) ?_
      refine lv_lconst (v := lZ 0) hx hb dX6_runScript_52 rfl ?_
      refine lv_lload hx hb dX6_runScript_53 (lv_at hl 0 rfl) ?_
      refine lv_lconst (v := lZ 1) hx hb dX6_runScript_55 rfl ?_
      refine z_lsub (z := 9999) hx hb (by omega) dX6_runScript_56 ?_
      refine g_callS (As := [.long (lZ v), .long (lZ 0), .long (lZ 9999)]) (rest := [.ref (gad G 169)]) ⟨hx, hb, hml, hown, hts⟩ (c_X6_in l G M v 0 9999 (by omega) (by omega) (by omega)) (va_cwS 3 hts gX6_runScript_X6_in rfl rfl rfl (by decide +kernel) ⟨Nat.le_of_ble_eq_true rfl, Nat.le_of_ble_eq_true rfl⟩) hG rfl hl.1 rfl (Nat.le_of_ble_eq_true rfl) dX6_runScript_57 ⟨Nat.zero_le _, Nat.zero_le _⟩ (fun z47 M48 H locs hp_57 hG => ?_)
      obtain ⟨hz_57, hM_57⟩ := hp_57; replace hz_57 := hz_57.symm; subst hz_57; replace hM_57 := hM_57.symm; subst hM_57
      refine z_ifP_eq (tgt := 67) hx hb dX6_runScript_60 (by decide) (fun c_60 => ?_) (fun c_60 => ?_)
      · skip
        refine lv_iconst (v := iZ 1) hx hb dX6_runScript_67 rfl ?_
        refine g_callV (b := 169) (As := [.int (iZ 1)]) (rest := []) ⟨hx, hb, hml, hown, hts⟩ (c_X6_refused l G M hdm 1 (by omega)) (cwV 1 hts gX6_runScript_X6_refused rfl rfl rfl (by decide +kernel) ⟨Nat.le_of_ble_eq_true rfl, Nat.le_of_ble_eq_true rfl⟩) hG (g_recv hG (b := 169) (hdm 169 (by decide)) rfl rfl) rfl hl.1 rfl (Nat.le_of_ble_eq_true rfl) dX6_runScript_68 ⟨Nat.zero_le _, Nat.zero_le _⟩ (fun z49 M50 H locs hp_68 hG => ?_)
        obtain ⟨hz_68, hM50⟩ := hp_68; rw [if_pos (by decide)] at hz_68; replace hz_68 := hz_68.symm; subst hz_68
        have hpv_M50_172 : M50 172 = R := Eq.trans (by rw [hM50]; exact wr_off _ _ _ (by decide)) hRM
        have hcd9 : (if (1 ≤ a ∧ a ≤ 4) ∧ 0 ≤ v ∧ v < q_p4 a.toNat then (0 : Int) else 1) = (1 : Int) := by (repeat' split) <;> first | rfl | omega | (exfalso; omega) | contradiction
        refine z_if_eq (tgt := 76) hx hb (by decide) dX6_runScript_71 (by decide) (fun c_71 => ?_) (fun c_71 => ?_)
        · exfalso; omega
        · skip
          refine lv_iconst (v := iZ 0) hx hb dX6_runScript_74 rfl ?_
          exact g_iret (post := fun z M1 => ((if (1 ≤ a ∧ a ≤ 4) ∧ 0 ≤ v ∧ v < q_p4 a.toNat then (0 : Int) else 1) = 0 → z = q_ff (q_cmd v a.toNat) R a.toNat) ∧ q_mq (if (1 ≤ a ∧ a ≤ 4) ∧ 0 ≤ v ∧ v < q_p4 a.toNat then (0 : Int) else 1) M M1) (z := 0) hx hb hr hG hlocks (⟨fun h9 => absurd h9 (by rw [hcd9]; decide), by rw [hcd9]; exact (q_mq.rf hM50)⟩) dX6_runScript_75
      · skip
        refine lv_iconst (v := iZ 0) hx hb dX6_runScript_63 rfl ?_
        refine lv_goto (tgt := 68) hx hb dX6_runScript_64 (by decide) ?_
        refine g_callV (b := 169) (As := [.int (iZ 0)]) (rest := []) ⟨hx, hb, hml, hown, hts⟩ (c_X6_refused l G M hdm 0 (by omega)) (cwV 1 hts gX6_runScript_X6_refused rfl rfl rfl (by decide +kernel) ⟨Nat.le_of_ble_eq_true rfl, Nat.le_of_ble_eq_true rfl⟩) hG (g_recv hG (b := 169) (hdm 169 (by decide)) rfl rfl) rfl hl.1 rfl (Nat.le_of_ble_eq_true rfl) dX6_runScript_68 ⟨Nat.zero_le _, Nat.zero_le _⟩ (fun z51 M52 H locs hp_68 hG => ?_)
        obtain ⟨hz_68, hM52⟩ := hp_68; rw [if_neg (by decide)] at hz_68; replace hz_68 := hz_68.symm; subst hz_68
        have hpv_M52_172 : M52 172 = R := Eq.trans (by rw [hM52]; exact wr_off _ _ _ (by decide)) hRM
        have hcd9 : (if (1 ≤ a ∧ a ≤ 4) ∧ 0 ≤ v ∧ v < q_p4 a.toNat then (0 : Int) else 1) = (0 : Int) := by (repeat' split) <;> first | rfl | omega | (exfalso; omega) | contradiction
        refine z_if_eq (tgt := 76) hx hb (by decide) dX6_runScript_71 (by decide) (fun c_71 => ?_) (fun c_71 => ?_)
        · skip
          have hna : a = ((a.toNat : Nat) : Int) := by omega
          have hp9 := hal9 (by omega)
          refine lv_aload_n hx hb dX6_runScript_76 rfl (lv_at hl 1 rfl) ?_
          refine g_get hx hb hts hinX6 hown hG (o := 169) (hdm 169 (by decide)) rfl rfl 5 (by decide) f16 (fun _ h => h) rfl dX6_runScript_77 ?_
          refine lv_iconst (v := iZ 0) hx hb dX6_runScript_80 rfl ?_
          refine lv_aload_n hx hb dX6_runScript_81 rfl (lv_at hl 1 rfl) ?_
          refine g_get hx hb hts hinX6 hown hG (o := 169) (hdm 169 (by decide)) rfl rfl 6 (by decide) f19 (fun _ h => h) rfl dX6_runScript_82 ?_
          refine lv_iconst (v := iZ 0) hx hb dX6_runScript_85 rfl ?_
          refine g_vcallS (As := [.ref (gad G 172), .int (iZ 0), .ref (gad G 173), .int (iZ 0)]) (rest := []) ⟨hx, hb, hml, hown, hts⟩ (c_copyTo l G M52 hdm 172 146 0 173 (by decide) (fun f => rfl) (by omega) (by decide) (Or.inr (Or.inr rfl)) (by decide)) (va_cwS 4 hts gX6_runScript_X6_copyPage rfl rfl rfl (by decide +kernel) ⟨Nat.le_of_ble_eq_true rfl, Nat.le_of_ble_eq_true rfl⟩) hG rfl hl.1 rfl (Nat.le_of_ble_eq_true rfl) dX6_runScript_86 ⟨Nat.zero_le _, Nat.zero_le _⟩ (fun M54 H locs hp_86 hG => ?_)
          rw [hpv_M52_172] at hp_86
          replace hp_86 : M54 = q_set M52 173 R := by rw [hp_86]; congr 1; funext k9; rw [Nat.zero_add]
          have hpv_M54_173 : M54 173 = R := by rw [hp_86, q_set_at]
          have hpv_M54_172 : M54 172 = R := Eq.trans (by rw [hp_86]; exact q_set_off _ _ (by decide)) hpv_M52_172
          refine lv_lload_n hx hb dX6_runScript_89 rfl (lv_at hl 3 rfl) ?_
          refine lv_lstore (lv' := [(6, .long (lZ v)), (4, .long (lZ 10000)), (0, .ref (gad G 169)), (1, .int (iZ a)), (2, .long (lZ v))]) hx hb dX6_runScript_90 hl (by decide) rfl (fun ls hl => ?_)
          refine lv_iconst (v := iZ 0) hx hb dX6_runScript_92 rfl ?_
          refine lv_istore (lv' := [(8, .int (iZ 0)), (6, .long (lZ v)), (4, .long (lZ 10000)), (0, .ref (gad G 169)), (1, .int (iZ a)), (2, .long (lZ v))]) hx hb dX6_runScript_93 hl (by decide) rfl (fun ls hl => ?_)
          have L_95 : ∀ (n_95 : Nat) (k : Nat) (x_i : Int) (x_l : Int) (x_a : Int) (Mk : Nat → Nat → Int), (x_i = (k : Int)) → (x_l = (v % q_p4 (a.toNat - k))) → (x_a = (q_p4 (a.toNat - k))) → (k ≤ a.toNat) → ((∀ j, j < k → q_okc (q_cmd v a.toNat) R j = true)) → (Mk 173 = (q_run (q_cmd v a.toNat) R k)) → (q_mq 0 M Mk) → 5 - k < n_95 → ∀ (H : Heap) (locs : List Loc) (ls : Array Slot), gH G Mk s H locs → lv_has ls 10 [(8, .int (iZ x_i)), (6, .long (lZ x_l)), (4, .long (lZ x_a)), (0, .ref (gad G 169)), (1, .int (iZ a)), (2, .long (lZ v))] → W p l e ({ frames := 6, cells := 0, slots := 0, locals := 137 } : Room) s m [.ref (gad G 169), .int (iZ a), .long (lZ v)].toArray below meth c H locs 0 0 (MQ below (va_Qi (fun r (u : Int × (Nat → Nat → Int)) => r = iZ u.1 ∧ (fun z M1 => ((if (1 ≤ a ∧ a ≤ 4) ∧ 0 ≤ v ∧ v < q_p4 a.toNat then (0 : Int) else 1) = 0 → z = q_ff (q_cmd v a.toNat) R a.toNat) ∧ q_mq (if (1 ≤ a ∧ a ≤ 4) ∧ 0 ≤ v ∧ v < q_p4 a.toNat then (0 : Int) else 1) M M1) u.1 u.2) (fun u U => gB G u.2 U) (gA G)) [.ref (gad G 169), .int (iZ a), .long (lZ v)].toArray s 0 0 (gA G)) (F0 m 95 ls []) := by
            intro n_95
            induction n_95 with
            | zero => intro k x_i x_l x_a Mk he_x_i he_x_l he_x_a hk hok hRk hmqk hm_95; exact absurd hm_95 (Nat.not_lt_zero _)
            | succ n_95 ih_95 =>
              intro k x_i x_l x_a Mk he_x_i he_x_l he_x_a hk hok hRk hmqk hm_95 H locs ls hG hl
              subst he_x_i
              subst he_x_l
              subst he_x_a
              have hIk := inv_run (C := q_cmd v a.toNat) hI k hok
              have hcm9 := q_cmd_in v a.toNat k
              refine lv_iload hx hb dX6_runScript_95 (lv_at hl 0 rfl) ?_
              refine lv_iload_n hx hb dX6_runScript_97 rfl (lv_at hl 4 rfl) ?_
              refine z_icmp_ge (tgt := 152) hx hb (by omega) (by omega) dX6_runScript_98 (by decide) (fun c_98 => ?_) (fun c_98 => ?_)
              · skip
                refine lv_bipush (v := iZ (-9)) hx hb dX6_runScript_152 (by decide) ?_
                exact g_iret (post := fun z M1 => ((if (1 ≤ a ∧ a ≤ 4) ∧ 0 ≤ v ∧ v < q_p4 a.toNat then (0 : Int) else 1) = 0 → z = q_ff (q_cmd v a.toNat) R a.toNat) ∧ q_mq (if (1 ≤ a ∧ a ≤ 4) ∧ 0 ≤ v ∧ v < q_p4 a.toNat then (0 : Int) else 1) M M1) (z := (-9)) hx hb hr hG hlocks (⟨fun _ => (q_ff_no (fun j hj => hok j (by omega))).symm, by rw [hcd9]; exact hmqk⟩) dX6_runScript_154
              · skip
                have he9 : a.toNat - k = (a.toNat - 1 - k) + 1 := by omega
                have hst9 := q_p4_step (a.toNat - 1 - k) (by omega)
                have hgr9 := q_grp (v := v) (by omega) (a.toNat - 1 - k) (by omega)
                rw [← he9] at hst9 hgr9
                have hq9 : (v % q_p4 (a.toNat - k)) / q_p4 (a.toNat - 1 - k) = q_cmd v a.toNat k := hgr9.1
                refine lv_lload hx hb dX6_runScript_101 (lv_at hl 2 rfl) ?_
                refine lv_ldc2 (v := lZ 10000) hx hb hown (by rw [show lZ 10000 = (10000 : Int64) from by decide]; exact hts (.constantLong RX6 223 10000) (by decide +kernel)) dX6_runScript_103 ?_
                refine z_ldiv (z := (q_p4 (a.toNat - 1 - k))) hx hb (by omega) (by omega) ((Int.tdiv_eq_ediv_of_nonneg (by omega)).trans hst9.1) dX6_runScript_106 ?_
                refine lv_lstore (lv' := [(4, .long (lZ (q_p4 (a.toNat - 1 - k)))), (8, .int (iZ (k : Int))), (6, .long (lZ (v % q_p4 (a.toNat - k)))), (0, .ref (gad G 169)), (1, .int (iZ a)), (2, .long (lZ v))]) hx hb dX6_runScript_107 hl (by decide) rfl (fun ls hl => ?_)
                refine lv_lload hx hb dX6_runScript_109 (lv_at hl 2 rfl) ?_
                refine lv_lload hx hb dX6_runScript_111 (lv_at hl 0 rfl) ?_
                refine z_ldiv (z := (q_cmd v a.toNat k)) hx hb (by omega) (by omega) ((Int.tdiv_eq_ediv_of_nonneg (by omega)).trans hq9) dX6_runScript_113 ?_
                refine z_l2i hx hb dX6_runScript_114 ?_
                refine lv_istore (lv' := [(9, .int (iZ (q_cmd v a.toNat k))), (4, .long (lZ (q_p4 (a.toNat - 1 - k)))), (8, .int (iZ (k : Int))), (6, .long (lZ (v % q_p4 (a.toNat - k)))), (0, .ref (gad G 169)), (1, .int (iZ a)), (2, .long (lZ v))]) hx hb dX6_runScript_115 hl (by decide) rfl (fun ls hl => ?_)
                refine lv_lload hx hb dX6_runScript_117 (lv_at hl 3 rfl) ?_
                refine lv_lload hx hb dX6_runScript_119 (lv_at hl 1 rfl) ?_
                refine z_lrem (z := (v % q_p4 (a.toNat - k) % q_p4 (a.toNat - 1 - k))) hx hb (by omega) (by omega) (Int.tmod_eq_emod_of_nonneg (by omega)) dX6_runScript_121 ?_
                refine lv_lstore (lv' := [(6, .long (lZ (v % q_p4 (a.toNat - k) % q_p4 (a.toNat - 1 - k)))), (9, .int (iZ (q_cmd v a.toNat k))), (4, .long (lZ (q_p4 (a.toNat - 1 - k)))), (8, .int (iZ (k : Int))), (0, .ref (gad G 169)), (1, .int (iZ a)), (2, .long (lZ v))]) hx hb dX6_runScript_122 hl (by decide) rfl (fun ls hl => ?_)
                refine lv_aload_n hx hb dX6_runScript_124 rfl (lv_at hl 4 rfl) ?_
                refine lv_iload hx hb dX6_runScript_125 (lv_at hl 1 rfl) ?_
                refine lv_sipush (v := iZ (1000)) hx hb dX6_runScript_127 (by decide) ?_
                refine z_idiv (z := (q_cmd v a.toNat k / 1000)) hx hb (by omega) (by omega) rfl dX6_runScript_130 ?_
                refine lv_iload hx hb dX6_runScript_131 (lv_at hl 1 rfl) ?_
                refine lv_sipush (v := iZ (1000)) hx hb dX6_runScript_133 (by decide) ?_
                refine z_irem (z := (q_cmd v a.toNat k % 1000)) hx hb (by omega) (by omega) rfl dX6_runScript_136 ?_
                refine g_callV (b := 169) (As := [.int (iZ (q_cmd v a.toNat k / 1000)), .int (iZ (q_cmd v a.toNat k % 1000))]) (rest := []) ⟨hx, hb, hml, hown, hts⟩ (c_X6_does l G Mk hdm (by rw [hRk]; exact hIk) (q_cmd v a.toNat k / 1000) (q_cmd v a.toNat k % 1000) (by omega) (by omega)) (cwV 2 hts gX6_runScript_X6_does rfl rfl rfl (by decide +kernel) ⟨Nat.le_of_ble_eq_true rfl, Nat.le_of_ble_eq_true rfl⟩) hG (g_recv hG (b := 169) (hdm 169 (by decide)) rfl rfl) rfl hl.1 rfl (Nat.le_of_ble_eq_true rfl) dX6_runScript_137 ⟨Nat.zero_le _, Nat.zero_le _⟩ (fun z55 M56 H locs hp_137 hG => ?_)
                obtain ⟨hz_137, hpg_M56, hrf_M56⟩ := hp_137; rw [hRk] at hz_137 hpg_M56; replace hz_137 := hz_137.symm; subst hz_137
                refine z_ifP_ne (tgt := 146) hx hb dX6_runScript_140 (by decide) (fun c_140 => ?_) (fun c_140 => ?_)
                · skip
                  refine z_iinc (z := ((k : Int) + 1)) (lv' := [(8, .int (iZ ((k : Int) + 1))), (6, .long (lZ (v % q_p4 (a.toNat - k) % q_p4 (a.toNat - 1 - k)))), (9, .int (iZ (q_cmd v a.toNat k))), (4, .long (lZ (q_p4 (a.toNat - 1 - k)))), (0, .ref (gad G 169)), (1, .int (iZ a)), (2, .long (lZ v))]) hx hb dX6_runScript_146 hl (k := 3) rfl (by omega) (by decide) rfl (fun ls hl => ?_)
                  refine lv_goto (tgt := 95) hx hb dX6_runScript_149 (by decide) ?_
                  exact ih_95 (k + 1) ((k : Int) + 1) (v % q_p4 (a.toNat - k) % q_p4 (a.toNat - 1 - k)) (q_p4 (a.toNat - 1 - k)) M56 (by omega) (by rw [hgr9.2.1, show a.toNat - (k + 1) = a.toNat - 1 - k by omega]) (by rw [show a.toNat - (k + 1) = a.toNat - 1 - k by omega]) (by omega) (fun j hj => by rcases (show j < k ∨ j = k by omega) with h9 | h9; exact hok j h9; (subst h9; assumption)) (hpg_M56 (by assumption)) (q_mq.rfr hmqk hrf_M56) (by omega) _ _ _ hG (lv_sub hl [0, 1, 3, 4, 5, 6] rfl)
                · skip
                  refine lv_iload hx hb dX6_runScript_143 (lv_at hl 3 rfl) ?_
                  exact g_iret (post := fun z M1 => ((if (1 ≤ a ∧ a ≤ 4) ∧ 0 ≤ v ∧ v < q_p4 a.toNat then (0 : Int) else 1) = 0 → z = q_ff (q_cmd v a.toNat) R a.toNat) ∧ q_mq (if (1 ≤ a ∧ a ≤ 4) ∧ 0 ≤ v ∧ v < q_p4 a.toNat then (0 : Int) else 1) M M1) (z := (k : Int)) hx hb hr hG hlocks (⟨fun _ => (q_ff_hit (by assumption) hok (by omega)).symm, by rw [hcd9]; exact (q_mq.rfr hmqk hrf_M56)⟩) dX6_runScript_145
          exact L_95 _ 0 0 v 10000 M54 rfl (by rw [Nat.sub_zero]; exact (Int.emod_eq_of_lt (by omega) (by omega)).symm) (by rw [Nat.sub_zero]; exact hp9.symm) (by omega) (fun j h => absurd h (Nat.not_lt_zero _)) (hpv_M54_173) (q_mq.set (q_mq.rf hM52) hp_86) (Nat.lt_succ_self _) _ _ _ hG (lv_sub hl [0, 1, 2, 3, 4, 5] rfl)
        · exfalso; omega
set_option maxHeartbeats 4000000 in
set_option maxRecDepth 100000 in
theorem c_X6_simulate (l : Launch) (G : gG) (M : Nat → Nat → Int) (hdm : ∀ k, k < 179 → gdm G k) (R : Nat → Int) (hRM : M 172 = R) (hI : q_inv R) (v : Int) (hv9 : -9223372036854775808 ≤ v ∧ v < 9223372036854775808) (a : Int) (ha9 : -2147483648 ≤ a ∧ a < 2147483648) : gMi l yX6_simulate wsX6_simulate ({ frames := 6, cells := 0, slots := 0, locals := 136 } : Room) G M [.ref (gad G 169), .long (lZ v), .int (iZ a)] (fun z M1 => ((if 1 ≤ a ∧ a ≤ 99 then (0 : Int) else 1) = 0 → z = 1000 * (q_sim R v a.toNat) 0 + q_sum (q_sim R v a.toNat)) ∧ q_mq (if 1 ≤ a ∧ a ≤ 99 then (0 : Int) else 1) M M1) := by
  refine gMi_of (cc := cX6_simulate) (maxL := 8) (ret := some .int) (by decide) rfl (Nat.le_of_ble_eq_true rfl) ?_
  intro p e s m below meth c ls hx hb hr hml hown hts hlocks hl hG
  have hown : s.vm.findClass RX6 = some m.cls := hown
  have hl : lv_has ls 8 [(0, .ref (gad G 169)), (1, .long (lZ v)), (3, .int (iZ a))] := hl
  have hinX6 : ∀ w ∈ u_ws RX6 TX6 13, w ∈ wsX6_simulate := by decide +kernel
  have f16 := hts (.fieldLink RX6 16 "DogTrialsModel" "now" "[I") (by decide +kernel)
  have f19 := hts (.fieldLink RX6 19 "DogTrialsModel" "trial" "[I") (by decide +kernel)
  have hnd := hI.1
  refine lv_aload_n hx hb dX6_simulate_0 rfl (lv_at hl 0 rfl) ?_
  refine lv_iload_n hx hb dX6_simulate_1 rfl (lv_at hl 2 rfl) ?_
  refine z_i2l hx hb (by omega) dX6_simulate_2 ?_
  refine lv_lconst (v := lZ 1) hx hb dX6_simulate_3 rfl ?_
  refine lv_ldc2 (v := lZ 99) hx hb hown (by rw [show lZ 99 = (99 : Int64) from by decide]; exact hts (.constantLong RX6 114 99) (by decide +kernel)) dX6_simulate_4 ?_
  refine g_callS (As := [.long (lZ a), .long (lZ 1), .long (lZ 99)]) (rest := [.ref (gad G 169)]) ⟨hx, hb, hml, hown, hts⟩ (c_X6_in l G M a 1 99 (by omega) (by omega) (by omega)) (va_cwS 3 hts gX6_simulate_X6_in rfl rfl rfl (by decide +kernel) ⟨Nat.le_of_ble_eq_true rfl, Nat.le_of_ble_eq_true rfl⟩) hG rfl hl.1 rfl (Nat.le_of_ble_eq_true rfl) dX6_simulate_7 ⟨Nat.zero_le _, Nat.zero_le _⟩ (fun z1 M2 H locs hp_7 hG => ?_)
  obtain ⟨hz_7, hM_7⟩ := hp_7; replace hz_7 := hz_7.symm; subst hz_7; replace hM_7 := hM_7.symm; subst hM_7
  refine z_ifP_eq (tgt := 17) hx hb dX6_simulate_10 (by decide) (fun c_10 => ?_) (fun c_10 => ?_)
  · skip
    refine lv_iconst (v := iZ 1) hx hb dX6_simulate_17 rfl ?_
    refine g_callV (b := 169) (As := [.int (iZ 1)]) (rest := []) ⟨hx, hb, hml, hown, hts⟩ (c_X6_refused l G M hdm 1 (by omega)) (cwV 1 hts gX6_simulate_X6_refused rfl rfl rfl (by decide +kernel) ⟨Nat.le_of_ble_eq_true rfl, Nat.le_of_ble_eq_true rfl⟩) hG (g_recv hG (b := 169) (hdm 169 (by decide)) rfl rfl) rfl hl.1 rfl (Nat.le_of_ble_eq_true rfl) dX6_simulate_18 ⟨Nat.zero_le _, Nat.zero_le _⟩ (fun z3 M4 H locs hp_18 hG => ?_)
    obtain ⟨hz_18, hM4⟩ := hp_18; rw [if_pos (by decide)] at hz_18; replace hz_18 := hz_18.symm; subst hz_18
    have hpv_M4_172 : M4 172 = R := Eq.trans (by rw [hM4]; exact wr_off _ _ _ (by decide)) hRM
    have hcd9 : (if 1 ≤ a ∧ a ≤ 99 then (0 : Int) else 1) = (1 : Int) := by (repeat' split) <;> first | rfl | omega | (exfalso; omega) | contradiction
    refine z_if_eq (tgt := 26) hx hb (by decide) dX6_simulate_21 (by decide) (fun c_21 => ?_) (fun c_21 => ?_)
    · exfalso; omega
    · skip
      refine lv_iconst (v := iZ 0) hx hb dX6_simulate_24 rfl ?_
      exact g_iret (post := fun z M1 => ((if 1 ≤ a ∧ a ≤ 99 then (0 : Int) else 1) = 0 → z = 1000 * (q_sim R v a.toNat) 0 + q_sum (q_sim R v a.toNat)) ∧ q_mq (if 1 ≤ a ∧ a ≤ 99 then (0 : Int) else 1) M M1) (z := 0) hx hb hr hG hlocks (⟨fun h9 => absurd h9 (by rw [hcd9]; decide), by rw [hcd9]; exact (q_mq.rf hM4)⟩) dX6_simulate_25
  · skip
    refine lv_iconst (v := iZ 0) hx hb dX6_simulate_13 rfl ?_
    refine lv_goto (tgt := 18) hx hb dX6_simulate_14 (by decide) ?_
    refine g_callV (b := 169) (As := [.int (iZ 0)]) (rest := []) ⟨hx, hb, hml, hown, hts⟩ (c_X6_refused l G M hdm 0 (by omega)) (cwV 1 hts gX6_simulate_X6_refused rfl rfl rfl (by decide +kernel) ⟨Nat.le_of_ble_eq_true rfl, Nat.le_of_ble_eq_true rfl⟩) hG (g_recv hG (b := 169) (hdm 169 (by decide)) rfl rfl) rfl hl.1 rfl (Nat.le_of_ble_eq_true rfl) dX6_simulate_18 ⟨Nat.zero_le _, Nat.zero_le _⟩ (fun z5 M6 H locs hp_18 hG => ?_)
    obtain ⟨hz_18, hM6⟩ := hp_18; rw [if_neg (by decide)] at hz_18; replace hz_18 := hz_18.symm; subst hz_18
    have hpv_M6_172 : M6 172 = R := Eq.trans (by rw [hM6]; exact wr_off _ _ _ (by decide)) hRM
    have hcd9 : (if 1 ≤ a ∧ a ≤ 99 then (0 : Int) else 1) = (0 : Int) := by (repeat' split) <;> first | rfl | omega | (exfalso; omega) | contradiction
    refine z_if_eq (tgt := 26) hx hb (by decide) dX6_simulate_21 (by decide) (fun c_21 => ?_) (fun c_21 => ?_)
    · skip
      have hna : a = ((a.toNat : Nat) : Int) := by omega
      refine lv_aload_n hx hb dX6_simulate_26 rfl (lv_at hl 0 rfl) ?_
      refine g_get hx hb hts hinX6 hown hG (o := 169) (hdm 169 (by decide)) rfl rfl 5 (by decide) f16 (fun _ h => h) rfl dX6_simulate_27 ?_
      refine lv_iconst (v := iZ 0) hx hb dX6_simulate_30 rfl ?_
      refine lv_aload_n hx hb dX6_simulate_31 rfl (lv_at hl 0 rfl) ?_
      refine g_get hx hb hts hinX6 hown hG (o := 169) (hdm 169 (by decide)) rfl rfl 6 (by decide) f19 (fun _ h => h) rfl dX6_simulate_32 ?_
      refine lv_iconst (v := iZ 0) hx hb dX6_simulate_35 rfl ?_
      refine g_vcallS (As := [.ref (gad G 172), .int (iZ 0), .ref (gad G 173), .int (iZ 0)]) (rest := []) ⟨hx, hb, hml, hown, hts⟩ (c_copyTo l G M6 hdm 172 146 0 173 (by decide) (fun f => rfl) (by omega) (by decide) (Or.inr (Or.inr rfl)) (by decide)) (va_cwS 4 hts gX6_simulate_X6_copyPage rfl rfl rfl (by decide +kernel) ⟨Nat.le_of_ble_eq_true rfl, Nat.le_of_ble_eq_true rfl⟩) hG rfl hl.1 rfl (Nat.le_of_ble_eq_true rfl) dX6_simulate_36 ⟨Nat.zero_le _, Nat.zero_le _⟩ (fun M8 H locs hp_36 hG => ?_)
      rw [hpv_M6_172] at hp_36
      replace hp_36 : M8 = q_set M6 173 R := by rw [hp_36]; congr 1; funext k9; rw [Nat.zero_add]
      have hpv_M8_173 : M8 173 = R := by rw [hp_36, q_set_at]
      have hpv_M8_172 : M8 172 = R := Eq.trans (by rw [hp_36]; exact q_set_off _ _ (by decide)) hpv_M6_172
      refine lv_lload_n hx hb dX6_simulate_39 rfl (lv_at hl 1 rfl) ?_
      refine lv_lstore (lv' := [(4, .long (lZ v)), (0, .ref (gad G 169)), (1, .long (lZ v)), (3, .int (iZ a))]) hx hb dX6_simulate_40 hl (by decide) rfl (fun ls hl => ?_)
      refine lv_iconst (v := iZ 0) hx hb dX6_simulate_42 rfl ?_
      refine lv_istore (lv' := [(6, .int (iZ 0)), (4, .long (lZ v)), (0, .ref (gad G 169)), (1, .long (lZ v)), (3, .int (iZ a))]) hx hb dX6_simulate_43 hl (by decide) rfl (fun ls hl => ?_)
      have L_45 : ∀ (n_45 : Nat) (k : Nat) (x_i : Int) (x_x : Int) (Mk : Nat → Nat → Int), (x_i = (k : Int)) → (x_x = (q_lcg v k)) → (k ≤ a.toNat) → (Mk 173 = q_sim R v k) → (q_mq 0 M Mk) → 100 - k < n_45 → ∀ (H : Heap) (locs : List Loc) (ls : Array Slot), gH G Mk s H locs → lv_has ls 8 [(6, .int (iZ x_i)), (4, .long (lZ x_x)), (0, .ref (gad G 169)), (1, .long (lZ v)), (3, .int (iZ a))] → W p l e ({ frames := 6, cells := 0, slots := 0, locals := 136 } : Room) s m [.ref (gad G 169), .long (lZ v), .int (iZ a)].toArray below meth c H locs 0 0 (MQ below (va_Qi (fun r (u : Int × (Nat → Nat → Int)) => r = iZ u.1 ∧ (fun z M1 => ((if 1 ≤ a ∧ a ≤ 99 then (0 : Int) else 1) = 0 → z = 1000 * (q_sim R v a.toNat) 0 + q_sum (q_sim R v a.toNat)) ∧ q_mq (if 1 ≤ a ∧ a ≤ 99 then (0 : Int) else 1) M M1) u.1 u.2) (fun u U => gB G u.2 U) (gA G)) [.ref (gad G 169), .long (lZ v), .int (iZ a)].toArray s 0 0 (gA G)) (F0 m 45 ls []) := by
        intro n_45
        induction n_45 with
        | zero => intro k x_i x_x Mk he_x_i he_x_x hk hRk hmqk hm_45; exact absurd hm_45 (Nat.not_lt_zero _)
        | succ n_45 ih_45 =>
          intro k x_i x_x Mk he_x_i he_x_x hk hRk hmqk hm_45 H locs ls hG hl
          subst he_x_i
          subst he_x_x
          have hIk := inv_sim hI v k
          have hup := q_up31_in (q_lcg v (k + 1))
          refine lv_iload hx hb dX6_simulate_45 (lv_at hl 0 rfl) ?_
          refine lv_iload_n hx hb dX6_simulate_47 rfl (lv_at hl 4 rfl) ?_
          refine z_icmp_ge (tgt := 79) hx hb (by omega) (by omega) dX6_simulate_48 (by decide) (fun c_48 => ?_) (fun c_48 => ?_)
          · skip
            have hka : k = a.toNat := by omega
            rw [hka] at hRk hIk
            have hns9 := hIk.1
            skip
            refine lv_sipush (v := iZ (1000)) hx hb dX6_simulate_79 (by decide) ?_
            refine lv_aload_n hx hb dX6_simulate_82 rfl (lv_at hl 2 rfl) ?_
            refine g_get hx hb hts hinX6 hown hG (o := 169) (hdm 169 (by decide)) rfl rfl 6 (by decide) f19 (fun _ h => h) rfl dX6_simulate_83 ?_
            refine lv_iconst (v := iZ 0) hx hb dX6_simulate_86 rfl ?_
            refine g_iald (z := ((q_sim R v a.toNat) 0)) (j := 0) hx hb hG (o := 173) (hdm 173 (by decide)) rfl (by omega) (by omega) (by omega) (by rw [hRk] <;> rfl) dX6_simulate_87 ?_
            refine z_imul (z := (1000 * ((q_sim R v a.toNat) 0))) hx hb (by omega) dX6_simulate_88 ?_
            refine lv_istore (lv' := [(6, .int (iZ (1000 * ((q_sim R v a.toNat) 0)))), (4, .long (lZ (q_lcg v k))), (0, .ref (gad G 169)), (1, .long (lZ v)), (3, .int (iZ a))]) hx hb dX6_simulate_89 hl (by decide) rfl (fun ls hl => ?_)
            refine lv_iconst (v := iZ 0) hx hb dX6_simulate_91 rfl ?_
            refine lv_istore (lv' := [(7, .int (iZ 0)), (6, .int (iZ (1000 * ((q_sim R v a.toNat) 0)))), (4, .long (lZ (q_lcg v k))), (0, .ref (gad G 169)), (1, .long (lZ v)), (3, .int (iZ a))]) hx hb dX6_simulate_92 hl (by decide) rfl (fun ls hl => ?_)
            have L_94 : ∀ (n_94 : Nat) (k2 : Nat) (x_o : Int) (x_s : Int), (x_o = (k2 : Int)) → (x_s = (1000 * ((q_sim R v a.toNat) 0) + (q_sm (q_sc (q_sim R v a.toNat)) k2))) → ((k2 : Int) ≤ q_nd (q_sim R v a.toNat)) → 12 - k2 < n_94 → ∀ (H : Heap) (locs : List Loc) (ls : Array Slot), gH G Mk s H locs → lv_has ls 8 [(7, .int (iZ x_o)), (6, .int (iZ x_s)), (4, .long (lZ (q_lcg v k))), (0, .ref (gad G 169)), (1, .long (lZ v)), (3, .int (iZ a))] → W p l e ({ frames := 6, cells := 0, slots := 0, locals := 136 } : Room) s m [.ref (gad G 169), .long (lZ v), .int (iZ a)].toArray below meth c H locs 0 0 (MQ below (va_Qi (fun r (u : Int × (Nat → Nat → Int)) => r = iZ u.1 ∧ (fun z M1 => ((if 1 ≤ a ∧ a ≤ 99 then (0 : Int) else 1) = 0 → z = 1000 * (q_sim R v a.toNat) 0 + q_sum (q_sim R v a.toNat)) ∧ q_mq (if 1 ≤ a ∧ a ≤ 99 then (0 : Int) else 1) M M1) u.1 u.2) (fun u U => gB G u.2 U) (gA G)) [.ref (gad G 169), .long (lZ v), .int (iZ a)].toArray s 0 0 (gA G)) (F0 m 94 ls []) := by
              intro n_94
              induction n_94 with
              | zero => intro k2 x_o x_s he_x_o he_x_s hk2 hm_94; exact absurd hm_94 (Nat.not_lt_zero _)
              | succ n_94 ih_94 =>
                intro k2 x_o x_s he_x_o he_x_s hk2 hm_94 H locs ls hG hl
                subst he_x_o
                subst he_x_s
                refine lv_iload hx hb dX6_simulate_94 (lv_at hl 0 rfl) ?_
                refine lv_aload_n hx hb dX6_simulate_96 rfl (lv_at hl 3 rfl) ?_
                refine g_get hx hb hts hinX6 hown hG (o := 169) (hdm 169 (by decide)) rfl rfl 6 (by decide) f19 (fun _ h => h) rfl dX6_simulate_97 ?_
                refine lv_bipush (v := iZ (7)) hx hb dX6_simulate_100 (by decide) ?_
                refine g_iald (z := (q_nd (q_sim R v a.toNat))) (j := 7) hx hb hG (o := 173) (hdm 173 (by decide)) rfl (by omega) (by omega) (by omega) (by rw [hRk] <;> rfl) dX6_simulate_102 ?_
                refine z_icmp_ge (tgt := 126) hx hb (by omega) (by omega) dX6_simulate_103 (by decide) (fun c_103 => ?_) (fun c_103 => ?_)
                · skip
                  refine lv_iload hx hb dX6_simulate_126 (lv_at hl 1 rfl) ?_
                  exact g_iret (post := fun z M1 => ((if 1 ≤ a ∧ a ≤ 99 then (0 : Int) else 1) = 0 → z = 1000 * (q_sim R v a.toNat) 0 + q_sum (q_sim R v a.toNat)) ∧ q_mq (if 1 ≤ a ∧ a ≤ 99 then (0 : Int) else 1) M M1) (z := (1000 * ((q_sim R v a.toNat) 0) + (q_sm (q_sc (q_sim R v a.toNat)) k2))) hx hb hr hG hlocks (⟨fun _ => by unfold q_sum; rw [show (q_nd (q_sim R v a.toNat)).toNat = k2 by omega], by rw [hcd9]; exact hmqk⟩) dX6_simulate_128
                · skip
                  refine lv_iload hx hb dX6_simulate_106 (lv_at hl 1 rfl) ?_
                  refine lv_aload_n hx hb dX6_simulate_108 rfl (lv_at hl 3 rfl) ?_
                  refine g_get hx hb hts hinX6 hown hG (o := 169) (hdm 169 (by decide)) rfl rfl 6 (by decide) f19 (fun _ h => h) rfl dX6_simulate_109 ?_
                  refine lv_iload hx hb dX6_simulate_112 (lv_at hl 0 rfl) ?_
                  refine g_callS (As := [.ref (gad G 173), .int (iZ (k2 : Int))]) (rest := [.int (iZ (1000 * ((q_sim R v a.toNat) 0) + (q_sm (q_sc (q_sim R v a.toNat)) k2)))]) ⟨hx, hb, hml, hown, hts⟩ (c_X6_score l G Mk hdm 173 (Or.inr (Or.inr rfl)) (by rw [hRk]; exact hIk) k2 (by first | omega | (rw [hRk]; omega))) (va_cwS 2 hts gX6_simulate_X6_score rfl rfl rfl (by decide +kernel) ⟨Nat.le_of_ble_eq_true rfl, Nat.le_of_ble_eq_true rfl⟩) hG rfl hl.1 rfl (Nat.le_of_ble_eq_true rfl) dX6_simulate_114 ⟨Nat.zero_le _, Nat.zero_le _⟩ (fun z9 M10 H locs hp_114 hG => ?_)
                  rw [hRk] at hp_114
                  obtain ⟨hz_114, hM_114⟩ := hp_114; replace hz_114 := hz_114.symm; subst hz_114; replace hM_114 := hM_114.symm; subst hM_114
                  refine z_iadd (z := (1000 * ((q_sim R v a.toNat) 0) + (q_sm (q_sc (q_sim R v a.toNat)) k2) + (q_sc (q_sim R v a.toNat) k2))) hx hb (by omega) dX6_simulate_117 ?_
                  refine lv_istore (lv' := [(6, .int (iZ (1000 * ((q_sim R v a.toNat) 0) + (q_sm (q_sc (q_sim R v a.toNat)) k2) + (q_sc (q_sim R v a.toNat) k2)))), (7, .int (iZ (k2 : Int))), (4, .long (lZ (q_lcg v k))), (0, .ref (gad G 169)), (1, .long (lZ v)), (3, .int (iZ a))]) hx hb dX6_simulate_118 hl (by decide) rfl (fun ls hl => ?_)
                  refine z_iinc (z := ((k2 : Int) + 1)) (lv' := [(7, .int (iZ ((k2 : Int) + 1))), (6, .int (iZ (1000 * ((q_sim R v a.toNat) 0) + (q_sm (q_sc (q_sim R v a.toNat)) k2) + (q_sc (q_sim R v a.toNat) k2)))), (4, .long (lZ (q_lcg v k))), (0, .ref (gad G 169)), (1, .long (lZ v)), (3, .int (iZ a))]) hx hb dX6_simulate_120 hl (k := 1) rfl (by omega) (by decide) rfl (fun ls hl => ?_)
                  refine lv_goto (tgt := 94) hx hb dX6_simulate_123 (by decide) ?_
                  exact ih_94 (k2 + 1) ((k2 : Int) + 1) (1000 * ((q_sim R v a.toNat) 0) + (q_sm (q_sc (q_sim R v a.toNat)) k2) + (q_sc (q_sim R v a.toNat) k2))  (by omega) (by rw [q_sm] <;> omega) (by omega) (by omega) _ _ _ hG (lv_sub hl [0, 1, 2, 3, 4, 5] rfl)
            exact L_94 _ 0 0 (1000 * ((q_sim R v a.toNat) 0))  rfl (by rw [q_sm] <;> omega) (by omega) (Nat.lt_succ_self _) _ _ _ hG (lv_sub hl [0, 1, 2, 3, 4, 5] rfl)
          · skip
            refine lv_lload hx hb dX6_simulate_51 (lv_at hl 1 rfl) ?_
            refine lv_ldc2 (v := lZ 6364136223846793005) hx hb hown (by rw [show lZ 6364136223846793005 = (6364136223846793005 : Int64) from by decide]; exact hts (.constantLong RX6 241 6364136223846793005) (by decide +kernel)) dX6_simulate_53 ?_
            refine z_lmul (z := (6364136223846793005 * (q_lcg v k))) hx hb (by omega) dX6_simulate_56 ?_
            refine lv_ldc2 (v := lZ 1442695040888963407) hx hb hown (by rw [show lZ 1442695040888963407 = (1442695040888963407 : Int64) from by decide]; exact hts (.constantLong RX6 243 1442695040888963407) (by decide +kernel)) dX6_simulate_57 ?_
            refine z_ladd (z := (q_lcg v (k + 1))) hx hb (by rw [q_lcg]) dX6_simulate_60 ?_
            refine lv_lstore (lv' := [(4, .long (lZ (q_lcg v (k + 1)))), (6, .int (iZ (k : Int))), (0, .ref (gad G 169)), (1, .long (lZ v)), (3, .int (iZ a))]) hx hb dX6_simulate_61 hl (by decide) rfl (fun ls hl => ?_)
            refine lv_aload_n hx hb dX6_simulate_63 rfl (lv_at hl 2 rfl) ?_
            refine lv_lload hx hb dX6_simulate_64 (lv_at hl 0 rfl) ?_
            refine lv_bipush (v := iZ (33)) hx hb dX6_simulate_66 (by decide) ?_
            refine z_up31 hx hb dX6_simulate_68 dX6_simulate_69 ?_
            refine g_vcallV (b := 169) (As := [.int (iZ (q_up31 (q_lcg v (k + 1))))]) (rest := []) ⟨hx, hb, hml, hown, hts⟩ (c_X6_round l G Mk hdm (by rw [hRk]; exact hIk) (q_up31 (q_lcg v (k + 1))) (by omega)) (cwV 1 hts gX6_simulate_X6_round rfl rfl rfl (by decide +kernel) ⟨Nat.le_of_ble_eq_true rfl, Nat.le_of_ble_eq_true rfl⟩) hG (g_recv hG (b := 169) (hdm 169 (by decide)) rfl rfl) rfl hl.1 rfl (Nat.le_of_ble_eq_true rfl) dX6_simulate_70 ⟨Nat.zero_le _, Nat.zero_le _⟩ (fun M12 H locs hp_70 hG => ?_)
            obtain ⟨hpg_M12, hrf_M12⟩ := hp_70; rw [hRk] at hpg_M12
            refine z_iinc (z := ((k : Int) + 1)) (lv' := [(6, .int (iZ ((k : Int) + 1))), (4, .long (lZ (q_lcg v (k + 1)))), (0, .ref (gad G 169)), (1, .long (lZ v)), (3, .int (iZ a))]) hx hb dX6_simulate_73 hl (k := 1) rfl (by omega) (by decide) rfl (fun ls hl => ?_)
            refine lv_goto (tgt := 45) hx hb dX6_simulate_76 (by decide) ?_
            exact ih_45 (k + 1) ((k : Int) + 1) (q_lcg v (k + 1)) M12 (by omega) rfl (by omega) hpg_M12 (q_mq.rfr hmqk hrf_M12) (by omega) _ _ _ hG (lv_sub hl [0, 1, 2, 3, 4] rfl)
      exact L_45 _ 0 0 v M8 rfl rfl (by omega) (hpv_M8_173) (q_mq.set (q_mq.rf hM6) hp_36) (Nat.lt_succ_self _) _ _ _ hG (lv_sub hl [0, 1, 2, 3, 4] rfl)
    · exfalso; omega
