/-! CALLS THAT THROW -/
set_option maxHeartbeats 4000000 in
set_option maxRecDepth 100000 in
theorem c_L_fails (l : Launch) (hl0 : l.stackTraces = false) (G : gG) (hdm : ∀ k, k < 169 → gdm G k) (M0 : Nat → Nat → Int) (σ : gS) (hσ : s_ok σ) (x : Int) (hx9 : 0 ≤ x ∧ x < 2147483648)  : gML l yL_fails wA_fails ({ frames := 10, cells := 40, slots := 240, locals := 238 } : Room) 40 G M0 (kS σ) [.ref (gad G 152), .int (iZ x)] (fun z K1 => z = 1 ∧ K1 = kS σ) := by
  refine gML_of (cc := cL_fails) (maxL := 4) (ret := some .boolean) (by decide) rfl (Nat.le_of_ble_eq_true rfl) ?_
  intro p e s m below meth c ls hx hb hr hml hown hts hlocks hl hG
  have hown : s.vm.findClass RL = some m.cls := hown
  have hl : lv_has ls 4 [(0, .ref (gad G 152)), (1, .int (iZ x))] := hl
  have hnd : 1 ≤ q_nd σ.1 ∧ q_nd σ.1 ≤ 12 := ⟨hσ.1.2.2, hσ.1.1.1.2⟩
  have hd0 := dok5 hσ.1.1 0 (by omega)
  have e44 : cd_enter σ 6 1 = 1 := by unfold cd_enter; exact if_pos (by omega)
  have e60 : cd_enter σ 0 100 = 1 := by unfold cd_enter; exact if_pos (by omega)
  have e75 : cd_withdraw σ (q_nd σ.1) = 1 := by unfold cd_withdraw; exact if_pos (by omega)
  have e98 : cd_interfere σ 0 6 = 1 := by unfold cd_interfere; exact if_pos (by omega)
  have e113 : cd_interfere σ (-1) 0 = 1 := by unfold cd_interfere; exact if_pos (by omega)
  have e129 : cd_next σ 59 = 1 := by unfold cd_next; exact if_neg (by omega)
  have e146 : cd_next σ 601 = 1 := by unfold cd_next; exact if_neg (by omega)
  have e162 : cd_rank σ 112345 = 1 := by unfold cd_rank; exact if_neg (by decide +kernel)
  have e179 : cd_rank σ (-12345) = 1 := by unfold cd_rank; exact if_neg (q_isr_neg (by omega))
  have e202 : cd_draw σ (q_nd σ.1) 1 = 1 := by unfold cd_draw; exact if_pos (by omega)
  have e217 : cd_draw σ 0 0 = 2 := by unfold cd_draw; rw [if_neg (fun h9 => h9 ⟨by omega, by omega⟩), if_pos (by omega)]
  have e230 : cd_run σ 11 1 = 1 := by unfold cd_run; exact if_pos (fun h9 => absurd h9.1 (by decide +kernel))
  have e243 : cd_run σ 310000 1 = 1 := by unfold cd_run; exact if_pos (fun h9 => absurd h9.1 (by decide +kernel))
  have e256 : cd_run σ (-1) 1 = 1 := by unfold cd_run; exact if_pos (fun h9 => absurd h9.1 (by decide +kernel))
  have e268 : cd_run σ 0 31 = 1 := by unfold cd_run; exact if_pos (fun h9 => by omega)
  have e281 : cd_run σ 1000000000000 1 = 1 := by unfold cd_run; exact if_pos (fun h9 => absurd h9.1 (by decide +kernel))
  have e309 : cd_enter σ 0 (q_dr σ.1 0) = 2 := by unfold cd_enter; rw [if_neg (fun h9 => h9 ⟨by omega, by omega, hd0.2.1.1, hd0.2.1.2⟩), if_pos (Or.inr (q_dn_yes (i := 0) (by omega) rfl (by omega)))]
  have e324 : cd_may σ 0 0 = 2 := by unfold cd_may; rw [if_neg (fun h9 => h9 ⟨by omega, by omega⟩), if_pos (by omega)]
  have e339 : cd_left σ 0 = 1 := by unfold cd_left; exact if_neg (by omega)
  have e354 : cd_save σ 2 = 1 := by unfold cd_save; exact if_neg (by omega)
  have e369 : cd_restore σ 2 = 1 := by unfold cd_restore; exact if_pos (by omega)
  have e384 : cd_best σ (q_nd σ.1) = 1 := by unfold cd_best; exact if_neg (by omega)
  have e406 : cd_script σ 5 0 = 1 := by unfold cd_script; exact if_neg (by omega)
  have e419 : cd_script σ 1 10000 = 1 := by unfold cd_script; exact if_neg (fun h9 => absurd h9.2.2 (by decide +kernel))
  have e432 : cd_script σ 2 (-1) = 1 := by unfold cd_script; exact if_neg (by omega)
  have e444 : cd_simulate σ x 0 = 1 := by unfold cd_simulate; exact if_neg (by omega)
  have e457 : cd_simulate σ x 100 = 1 := by unfold cd_simulate; exact if_neg (by omega)
  refine lv_aload_n hx hb dL_fails_0 rfl (lv_at hl 0 rfl) ?_
  refine lv_iconst (v := iZ 0) hx hb dL_fails_1 rfl ?_
  refine g_cL (As := [.ref (gad G 152), .int (iZ 0)]) (rest := []) (1) ⟨hx, hb, hml, hown, hts⟩ (c_L_about l hl0 G hdm M0 σ hσ 0 (by omega)) (va_cwS 2 hts gA_fails_L_about rfl rfl rfl (by decide +kernel) ⟨Nat.le_of_ble_eq_true rfl, Nat.le_of_ble_eq_true rfl⟩) hG rfl hl.1 rfl (Nat.le_of_ble_eq_true rfl) dL_fails_2 ⟨by omega, by omega⟩ ⟨Nat.le_of_ble_eq_true rfl, Nat.le_of_ble_eq_true rfl⟩ (fun z1 K2 H locs hp_2 hG => ?_)
  obtain ⟨hz_2, hK_2⟩ := hp_2
  replace hz_2 := hz_2.trans (a_about_0 σ)
  replace hz_2 := hz_2.symm; subst hz_2; replace hK_2 := hK_2.symm; subst hK_2
  refine lv_istore_n (lv' := [(2, .int (iZ (q_nd σ.1))), (0, .ref (gad G 152)), (1, .int (iZ x))]) hx hb dL_fails_5 rfl hl (by decide) rfl (fun ls hl => ?_)
  refine lv_aload_n hx hb dL_fails_6 rfl (lv_at hl 1 rfl) ?_
  refine lv_iconst (v := iZ 0) hx hb dL_fails_7 rfl ?_
  refine lv_iconst (v := iZ (-1)) hx hb dL_fails_8 rfl ?_
  refine lv_iload_n hx hb dL_fails_9 rfl (lv_at hl 2 rfl) ?_
  refine lv_bipush (v := iZ (9)) hx hb dL_fails_10 (by decide) ?_
  refine z_irem (z := (x % 9)) hx hb (by omega) (by omega) rfl dL_fails_12 ?_
  refine z_isub (z := (-(x % 9) - 1)) hx hb (by omega) dL_fails_13 ?_
  refine lv_iconst (v := iZ 0) hx hb dL_fails_14 rfl ?_
  refine lv_iconst (v := iZ 0) hx hb dL_fails_15 rfl ?_
  refine lv_iconst (v := iZ 0) hx hb dL_fails_16 rfl ?_
  refine g_cL (As := [.ref (gad G 152), .int (iZ 0), .int (iZ (-(x % 9) - 1)), .int (iZ 0), .int (iZ 0), .int (iZ 0)]) (rest := []) (2) ⟨hx, hb, hml, hown, hts⟩ (c_L_call_AppendS l hl0 G hdm M0 σ (-(x % 9) - 1) (by omega) (by omega) 0 0 0) (va_cwS 6 hts gA_fails_L_call rfl rfl rfl (by decide +kernel) ⟨Nat.le_of_ble_eq_true rfl, Nat.le_of_ble_eq_true rfl⟩) hG rfl hl.1 rfl (Nat.le_of_ble_eq_true rfl) dL_fails_17 ⟨by omega, by omega⟩ ⟨Nat.le_of_ble_eq_true rfl, Nat.le_of_ble_eq_true rfl⟩ (fun z3 K4 H locs hp_17 hG => ?_)
  obtain ⟨hz_17, hK_17⟩ := hp_17
  replace hz_17 := hz_17.symm; subst hz_17; replace hK_17 := hK_17.symm; subst hK_17
  refine lv_ldc (v := iZ (-9999002)) hx hb hown (by rw [show iZ (-9999002) = (-9999002 : Int32) from by decide]; exact hts (.constant RL 15 (-9999002)) (List.mem_cons_of_mem _ (List.mem_append_left _ (by decide +kernel)))) dL_fails_20 ?_
  refine z_icmp_ne (tgt := 87) hx hb (by decide) (by decide) dL_fails_22 (by decide) (fun c_22 => ?_) (fun c_22 => ?_)
  · exfalso; omega
  · skip
    refine lv_aload_n hx hb dL_fails_25 rfl (lv_at hl 1 rfl) ?_
    refine lv_bipush (v := iZ (17)) hx hb dL_fails_26 (by decide) ?_
    refine g_cL (As := [.ref (gad G 152), .int (iZ 17)]) (rest := []) (3) ⟨hx, hb, hml, hown, hts⟩ (c_L_about l hl0 G hdm M0 σ hσ 17 (by omega)) (va_cwS 2 hts gA_fails_L_about rfl rfl rfl (by decide +kernel) ⟨Nat.le_of_ble_eq_true rfl, Nat.le_of_ble_eq_true rfl⟩) hG rfl hl.1 rfl (Nat.le_of_ble_eq_true rfl) dL_fails_28 ⟨by omega, by omega⟩ ⟨Nat.le_of_ble_eq_true rfl, Nat.le_of_ble_eq_true rfl⟩ (fun z5 K6 H locs hp_28 hG => ?_)
    obtain ⟨hz_28, hK_28⟩ := hp_28
    replace hz_28 := hz_28.trans (a_about_17 σ)
    replace hz_28 := hz_28.symm; subst hz_28; replace hK_28 := hK_28.symm; subst hK_28
    refine lv_ldc (v := iZ (-9999002)) hx hb hown (by rw [show iZ (-9999002) = (-9999002 : Int32) from by decide]; exact hts (.constant RL 15 (-9999002)) (List.mem_cons_of_mem _ (List.mem_append_left _ (by decide +kernel)))) dL_fails_31 ?_
    refine z_icmp_ne (tgt := 87) hx hb (by decide) (by decide) dL_fails_33 (by decide) (fun c_33 => ?_) (fun c_33 => ?_)
    · exfalso; omega
    · skip
      refine lv_aload_n hx hb dL_fails_36 rfl (lv_at hl 1 rfl) ?_
      refine lv_bipush (v := iZ (7)) hx hb dL_fails_37 (by decide) ?_
      refine lv_bipush (v := iZ (6)) hx hb dL_fails_39 (by decide) ?_
      refine lv_iconst (v := iZ 1) hx hb dL_fails_41 rfl ?_
      refine lv_iconst (v := iZ 0) hx hb dL_fails_42 rfl ?_
      refine lv_iconst (v := iZ 0) hx hb dL_fails_43 rfl ?_
      refine g_cL (As := [.ref (gad G 152), .int (iZ 7), .int (iZ 6), .int (iZ 1), .int (iZ 0), .int (iZ 0)]) (rest := []) (4) ⟨hx, hb, hml, hown, hts⟩ (c_L_call_Enter l hl0 G hdm M0 σ hσ 6 (by omega) 1 (by omega) 0 0) (va_cwS 6 hts gA_fails_L_call rfl rfl rfl (by decide +kernel) ⟨Nat.le_of_ble_eq_true rfl, Nat.le_of_ble_eq_true rfl⟩) hG rfl hl.1 rfl (Nat.le_of_ble_eq_true rfl) dL_fails_44 ⟨by omega, by omega⟩ ⟨Nat.le_of_ble_eq_true rfl, Nat.le_of_ble_eq_true rfl⟩ (fun z7 K8 H locs hp_44 hG => ?_)
      obtain ⟨hz_44, hK_44⟩ := hp_44
      replace hz_44 := hz_44.trans (ax_enter_1 (e44))
      replace hK_44 := hK_44.trans (congrArg kS (t_enter_no (by rw [e44]; decide)))
      replace hz_44 := hz_44.symm; subst hz_44; replace hK_44 := hK_44.symm; subst hK_44
      refine lv_ldc (v := iZ (-9999002)) hx hb hown (by rw [show iZ (-9999002) = (-9999002 : Int32) from by decide]; exact hts (.constant RL 15 (-9999002)) (List.mem_cons_of_mem _ (List.mem_append_left _ (by decide +kernel)))) dL_fails_47 ?_
      refine z_icmp_ne (tgt := 87) hx hb (by decide) (by decide) dL_fails_49 (by decide) (fun c_49 => ?_) (fun c_49 => ?_)
      · exfalso; omega
      · skip
        refine lv_aload_n hx hb dL_fails_52 rfl (lv_at hl 1 rfl) ?_
        refine lv_bipush (v := iZ (7)) hx hb dL_fails_53 (by decide) ?_
        refine lv_iconst (v := iZ 0) hx hb dL_fails_55 rfl ?_
        refine lv_bipush (v := iZ (100)) hx hb dL_fails_56 (by decide) ?_
        refine lv_iconst (v := iZ 0) hx hb dL_fails_58 rfl ?_
        refine lv_iconst (v := iZ 0) hx hb dL_fails_59 rfl ?_
        refine g_cL (As := [.ref (gad G 152), .int (iZ 7), .int (iZ 0), .int (iZ 100), .int (iZ 0), .int (iZ 0)]) (rest := []) (5) ⟨hx, hb, hml, hown, hts⟩ (c_L_call_Enter l hl0 G hdm M0 σ hσ 0 (by omega) 100 (by omega) 0 0) (va_cwS 6 hts gA_fails_L_call rfl rfl rfl (by decide +kernel) ⟨Nat.le_of_ble_eq_true rfl, Nat.le_of_ble_eq_true rfl⟩) hG rfl hl.1 rfl (Nat.le_of_ble_eq_true rfl) dL_fails_60 ⟨by omega, by omega⟩ ⟨Nat.le_of_ble_eq_true rfl, Nat.le_of_ble_eq_true rfl⟩ (fun z9 K10 H locs hp_60 hG => ?_)
        obtain ⟨hz_60, hK_60⟩ := hp_60
        replace hz_60 := hz_60.trans (ax_enter_1 (e60))
        replace hK_60 := hK_60.trans (congrArg kS (t_enter_no (by rw [e60]; decide)))
        replace hz_60 := hz_60.symm; subst hz_60; replace hK_60 := hK_60.symm; subst hK_60
        refine lv_ldc (v := iZ (-9999002)) hx hb hown (by rw [show iZ (-9999002) = (-9999002 : Int32) from by decide]; exact hts (.constant RL 15 (-9999002)) (List.mem_cons_of_mem _ (List.mem_append_left _ (by decide +kernel)))) dL_fails_63 ?_
        refine z_icmp_ne (tgt := 87) hx hb (by decide) (by decide) dL_fails_65 (by decide) (fun c_65 => ?_) (fun c_65 => ?_)
        · exfalso; omega
        · skip
          refine lv_aload_n hx hb dL_fails_68 rfl (lv_at hl 1 rfl) ?_
          refine lv_bipush (v := iZ (8)) hx hb dL_fails_69 (by decide) ?_
          refine lv_iload_n hx hb dL_fails_71 rfl (lv_at hl 0 rfl) ?_
          refine lv_iconst (v := iZ 0) hx hb dL_fails_72 rfl ?_
          refine lv_iconst (v := iZ 0) hx hb dL_fails_73 rfl ?_
          refine lv_iconst (v := iZ 0) hx hb dL_fails_74 rfl ?_
          refine g_cL (As := [.ref (gad G 152), .int (iZ 8), .int (iZ (q_nd σ.1)), .int (iZ 0), .int (iZ 0), .int (iZ 0)]) (rest := []) (6) ⟨hx, hb, hml, hown, hts⟩ (c_L_call_Withdraw l hl0 G hdm M0 σ hσ (q_nd σ.1) (by omega) 0 0 0) (va_cwS 6 hts gA_fails_L_call rfl rfl rfl (by decide +kernel) ⟨Nat.le_of_ble_eq_true rfl, Nat.le_of_ble_eq_true rfl⟩) hG rfl hl.1 rfl (Nat.le_of_ble_eq_true rfl) dL_fails_75 ⟨by omega, by omega⟩ ⟨Nat.le_of_ble_eq_true rfl, Nat.le_of_ble_eq_true rfl⟩ (fun z11 K12 H locs hp_75 hG => ?_)
          obtain ⟨hz_75, hK_75⟩ := hp_75
          replace hz_75 := hz_75.trans (ax_withdraw_1 (e75))
          replace hK_75 := hK_75.trans (congrArg kS (t_withdraw_no (by rw [e75]; decide)))
          replace hz_75 := hz_75.symm; subst hz_75; replace hK_75 := hK_75.symm; subst hK_75
          refine lv_ldc (v := iZ (-9999001)) hx hb hown (by rw [show iZ (-9999001) = (-9999001 : Int32) from by decide]; exact hts (.constant RL 43 (-9999001)) (List.mem_cons_of_mem _ (List.mem_append_left _ (by decide +kernel)))) dL_fails_78 ?_
          refine z_icmp_ne (tgt := 87) hx hb (by decide) (by decide) dL_fails_80 (by decide) (fun c_80 => ?_) (fun c_80 => ?_)
          · exfalso; omega
          · skip
            refine lv_iconst (v := iZ 1) hx hb dL_fails_83 rfl ?_
            refine lv_goto (tgt := 88) hx hb dL_fails_84 (by decide) ?_
            refine lv_istore_n (lv' := [(3, .int (iZ 1)), (2, .int (iZ (q_nd σ.1))), (0, .ref (gad G 152)), (1, .int (iZ x))]) hx hb dL_fails_88 rfl hl (by decide) rfl (fun ls hl => ?_)
            refine lv_iload_n hx hb dL_fails_89 rfl (lv_at hl 0 rfl) ?_
            refine lv_aload_n hx hb dL_fails_90 rfl (lv_at hl 2 rfl) ?_
            refine lv_bipush (v := iZ (9)) hx hb dL_fails_91 (by decide) ?_
            refine lv_iconst (v := iZ 0) hx hb dL_fails_93 rfl ?_
            refine lv_bipush (v := iZ (6)) hx hb dL_fails_94 (by decide) ?_
            refine lv_iconst (v := iZ 0) hx hb dL_fails_96 rfl ?_
            refine lv_iconst (v := iZ 0) hx hb dL_fails_97 rfl ?_
            refine g_cL (As := [.ref (gad G 152), .int (iZ 9), .int (iZ 0), .int (iZ 6), .int (iZ 0), .int (iZ 0)]) (rest := [.int (iZ 1)]) (7) ⟨hx, hb, hml, hown, hts⟩ (c_L_call_Interfere l hl0 G hdm M0 σ hσ 0 (by omega) 6 (by omega) 0 0) (va_cwS 6 hts gA_fails_L_call rfl rfl rfl (by decide +kernel) ⟨Nat.le_of_ble_eq_true rfl, Nat.le_of_ble_eq_true rfl⟩) hG rfl hl.1 rfl (Nat.le_of_ble_eq_true rfl) dL_fails_98 ⟨by omega, by omega⟩ ⟨Nat.le_of_ble_eq_true rfl, Nat.le_of_ble_eq_true rfl⟩ (fun z13 K14 H locs hp_98 hG => ?_)
            obtain ⟨hz_98, hK_98⟩ := hp_98
            replace hz_98 := hz_98.trans (ax_interfere_1 (e98))
            replace hK_98 := hK_98.trans (congrArg kS (t_interfere_no (by rw [e98]; decide)))
            replace hz_98 := hz_98.symm; subst hz_98; replace hK_98 := hK_98.symm; subst hK_98
            refine lv_ldc (v := iZ (-9999001)) hx hb hown (by rw [show iZ (-9999001) = (-9999001 : Int32) from by decide]; exact hts (.constant RL 43 (-9999001)) (List.mem_cons_of_mem _ (List.mem_append_left _ (by decide +kernel)))) dL_fails_101 ?_
            refine z_icmp_ne (tgt := 191) hx hb (by decide) (by decide) dL_fails_103 (by decide) (fun c_103 => ?_) (fun c_103 => ?_)
            · exfalso; omega
            · skip
              refine lv_aload_n hx hb dL_fails_106 rfl (lv_at hl 2 rfl) ?_
              refine lv_bipush (v := iZ (9)) hx hb dL_fails_107 (by decide) ?_
              refine lv_iconst (v := iZ (-1)) hx hb dL_fails_109 rfl ?_
              refine lv_iconst (v := iZ 0) hx hb dL_fails_110 rfl ?_
              refine lv_iconst (v := iZ 0) hx hb dL_fails_111 rfl ?_
              refine lv_iconst (v := iZ 0) hx hb dL_fails_112 rfl ?_
              refine g_cL (As := [.ref (gad G 152), .int (iZ 9), .int (iZ (-1)), .int (iZ 0), .int (iZ 0), .int (iZ 0)]) (rest := [.int (iZ 1)]) (8) ⟨hx, hb, hml, hown, hts⟩ (c_L_call_Interfere l hl0 G hdm M0 σ hσ (-1) (by omega) 0 (by omega) 0 0) (va_cwS 6 hts gA_fails_L_call rfl rfl rfl (by decide +kernel) ⟨Nat.le_of_ble_eq_true rfl, Nat.le_of_ble_eq_true rfl⟩) hG rfl hl.1 rfl (Nat.le_of_ble_eq_true rfl) dL_fails_113 ⟨by omega, by omega⟩ ⟨Nat.le_of_ble_eq_true rfl, Nat.le_of_ble_eq_true rfl⟩ (fun z15 K16 H locs hp_113 hG => ?_)
              obtain ⟨hz_113, hK_113⟩ := hp_113
              replace hz_113 := hz_113.trans (ax_interfere_1 (e113))
              replace hK_113 := hK_113.trans (congrArg kS (t_interfere_no (by rw [e113]; decide)))
              replace hz_113 := hz_113.symm; subst hz_113; replace hK_113 := hK_113.symm; subst hK_113
              refine lv_ldc (v := iZ (-9999001)) hx hb hown (by rw [show iZ (-9999001) = (-9999001 : Int32) from by decide]; exact hts (.constant RL 43 (-9999001)) (List.mem_cons_of_mem _ (List.mem_append_left _ (by decide +kernel)))) dL_fails_116 ?_
              refine z_icmp_ne (tgt := 191) hx hb (by decide) (by decide) dL_fails_118 (by decide) (fun c_118 => ?_) (fun c_118 => ?_)
              · exfalso; omega
              · skip
                refine lv_aload_n hx hb dL_fails_121 rfl (lv_at hl 2 rfl) ?_
                refine lv_bipush (v := iZ (10)) hx hb dL_fails_122 (by decide) ?_
                refine lv_bipush (v := iZ (59)) hx hb dL_fails_124 (by decide) ?_
                refine lv_iconst (v := iZ 0) hx hb dL_fails_126 rfl ?_
                refine lv_iconst (v := iZ 0) hx hb dL_fails_127 rfl ?_
                refine lv_iconst (v := iZ 0) hx hb dL_fails_128 rfl ?_
                refine g_cL (As := [.ref (gad G 152), .int (iZ 10), .int (iZ 59), .int (iZ 0), .int (iZ 0), .int (iZ 0)]) (rest := [.int (iZ 1)]) (9) ⟨hx, hb, hml, hown, hts⟩ (c_L_call_Next l hl0 G hdm M0 σ hσ 59 (by omega) 0 0 0) (va_cwS 6 hts gA_fails_L_call rfl rfl rfl (by decide +kernel) ⟨Nat.le_of_ble_eq_true rfl, Nat.le_of_ble_eq_true rfl⟩) hG rfl hl.1 rfl (Nat.le_of_ble_eq_true rfl) dL_fails_129 ⟨by omega, by omega⟩ ⟨Nat.le_of_ble_eq_true rfl, Nat.le_of_ble_eq_true rfl⟩ (fun z17 K18 H locs hp_129 hG => ?_)
                obtain ⟨hz_129, hK_129⟩ := hp_129
                replace hz_129 := hz_129.trans (ax_next_1 (e129))
                replace hK_129 := hK_129.trans (congrArg kS (t_next_no (by rw [e129]; decide)))
                replace hz_129 := hz_129.symm; subst hz_129; replace hK_129 := hK_129.symm; subst hK_129
                refine lv_ldc (v := iZ (-9999002)) hx hb hown (by rw [show iZ (-9999002) = (-9999002 : Int32) from by decide]; exact hts (.constant RL 15 (-9999002)) (List.mem_cons_of_mem _ (List.mem_append_left _ (by decide +kernel)))) dL_fails_132 ?_
                refine z_icmp_ne (tgt := 191) hx hb (by decide) (by decide) dL_fails_134 (by decide) (fun c_134 => ?_) (fun c_134 => ?_)
                · exfalso; omega
                · skip
                  refine lv_aload_n hx hb dL_fails_137 rfl (lv_at hl 2 rfl) ?_
                  refine lv_bipush (v := iZ (10)) hx hb dL_fails_138 (by decide) ?_
                  refine lv_sipush (v := iZ (601)) hx hb dL_fails_140 (by decide) ?_
                  refine lv_iconst (v := iZ 0) hx hb dL_fails_143 rfl ?_
                  refine lv_iconst (v := iZ 0) hx hb dL_fails_144 rfl ?_
                  refine lv_iconst (v := iZ 0) hx hb dL_fails_145 rfl ?_
                  refine g_cL (As := [.ref (gad G 152), .int (iZ 10), .int (iZ 601), .int (iZ 0), .int (iZ 0), .int (iZ 0)]) (rest := [.int (iZ 1)]) (10) ⟨hx, hb, hml, hown, hts⟩ (c_L_call_Next l hl0 G hdm M0 σ hσ 601 (by omega) 0 0 0) (va_cwS 6 hts gA_fails_L_call rfl rfl rfl (by decide +kernel) ⟨Nat.le_of_ble_eq_true rfl, Nat.le_of_ble_eq_true rfl⟩) hG rfl hl.1 rfl (Nat.le_of_ble_eq_true rfl) dL_fails_146 ⟨by omega, by omega⟩ ⟨Nat.le_of_ble_eq_true rfl, Nat.le_of_ble_eq_true rfl⟩ (fun z19 K20 H locs hp_146 hG => ?_)
                  obtain ⟨hz_146, hK_146⟩ := hp_146
                  replace hz_146 := hz_146.trans (ax_next_1 (e146))
                  replace hK_146 := hK_146.trans (congrArg kS (t_next_no (by rw [e146]; decide)))
                  replace hz_146 := hz_146.symm; subst hz_146; replace hK_146 := hK_146.symm; subst hK_146
                  refine lv_ldc (v := iZ (-9999002)) hx hb hown (by rw [show iZ (-9999002) = (-9999002 : Int32) from by decide]; exact hts (.constant RL 15 (-9999002)) (List.mem_cons_of_mem _ (List.mem_append_left _ (by decide +kernel)))) dL_fails_149 ?_
                  refine z_icmp_ne (tgt := 191) hx hb (by decide) (by decide) dL_fails_151 (by decide) (fun c_151 => ?_) (fun c_151 => ?_)
                  · exfalso; omega
                  · skip
                    refine lv_aload_n hx hb dL_fails_154 rfl (lv_at hl 2 rfl) ?_
                    refine lv_bipush (v := iZ (11)) hx hb dL_fails_155 (by decide) ?_
                    refine lv_ldc (v := iZ (112345)) hx hb hown (by rw [show iZ (112345) = (112345 : Int32) from by decide]; exact hts (.constant RL 202 (112345)) (List.mem_cons_of_mem _ (List.mem_append_left _ (by decide +kernel)))) dL_fails_157 ?_
                    refine lv_iconst (v := iZ 0) hx hb dL_fails_159 rfl ?_
                    refine lv_iconst (v := iZ 0) hx hb dL_fails_160 rfl ?_
                    refine lv_iconst (v := iZ 0) hx hb dL_fails_161 rfl ?_
                    refine g_cL (As := [.ref (gad G 152), .int (iZ 11), .int (iZ 112345), .int (iZ 0), .int (iZ 0), .int (iZ 0)]) (rest := [.int (iZ 1)]) (11) ⟨hx, hb, hml, hown, hts⟩ (c_L_call_Rank l hl0 G hdm M0 σ hσ 112345 (by omega) 0 0 0) (va_cwS 6 hts gA_fails_L_call rfl rfl rfl (by decide +kernel) ⟨Nat.le_of_ble_eq_true rfl, Nat.le_of_ble_eq_true rfl⟩) hG rfl hl.1 rfl (Nat.le_of_ble_eq_true rfl) dL_fails_162 ⟨by omega, by omega⟩ ⟨Nat.le_of_ble_eq_true rfl, Nat.le_of_ble_eq_true rfl⟩ (fun z21 K22 H locs hp_162 hG => ?_)
                    obtain ⟨hz_162, hK_162⟩ := hp_162
                    replace hz_162 := hz_162.trans (ax_rank_1 (e162))
                    replace hK_162 := hK_162.trans (congrArg kS (t_rank_no (by rw [e162]; decide)))
                    replace hz_162 := hz_162.symm; subst hz_162; replace hK_162 := hK_162.symm; subst hK_162
                    refine lv_ldc (v := iZ (-9999002)) hx hb hown (by rw [show iZ (-9999002) = (-9999002 : Int32) from by decide]; exact hts (.constant RL 15 (-9999002)) (List.mem_cons_of_mem _ (List.mem_append_left _ (by decide +kernel)))) dL_fails_165 ?_
                    refine z_icmp_ne (tgt := 191) hx hb (by decide) (by decide) dL_fails_167 (by decide) (fun c_167 => ?_) (fun c_167 => ?_)
                    · exfalso; omega
                    · skip
                      refine lv_aload_n hx hb dL_fails_170 rfl (lv_at hl 2 rfl) ?_
                      refine lv_bipush (v := iZ (11)) hx hb dL_fails_171 (by decide) ?_
                      refine lv_sipush (v := iZ (-12345)) hx hb dL_fails_173 (by decide) ?_
                      refine lv_iconst (v := iZ 0) hx hb dL_fails_176 rfl ?_
                      refine lv_iconst (v := iZ 0) hx hb dL_fails_177 rfl ?_
                      refine lv_iconst (v := iZ 0) hx hb dL_fails_178 rfl ?_
                      refine g_cL (As := [.ref (gad G 152), .int (iZ 11), .int (iZ (-12345)), .int (iZ 0), .int (iZ 0), .int (iZ 0)]) (rest := [.int (iZ 1)]) (12) ⟨hx, hb, hml, hown, hts⟩ (c_L_call_Rank l hl0 G hdm M0 σ hσ (-12345) (by omega) 0 0 0) (va_cwS 6 hts gA_fails_L_call rfl rfl rfl (by decide +kernel) ⟨Nat.le_of_ble_eq_true rfl, Nat.le_of_ble_eq_true rfl⟩) hG rfl hl.1 rfl (Nat.le_of_ble_eq_true rfl) dL_fails_179 ⟨by omega, by omega⟩ ⟨Nat.le_of_ble_eq_true rfl, Nat.le_of_ble_eq_true rfl⟩ (fun z23 K24 H locs hp_179 hG => ?_)
                      obtain ⟨hz_179, hK_179⟩ := hp_179
                      replace hz_179 := hz_179.trans (ax_rank_1 (e179))
                      replace hK_179 := hK_179.trans (congrArg kS (t_rank_no (by rw [e179]; decide)))
                      replace hz_179 := hz_179.symm; subst hz_179; replace hK_179 := hK_179.symm; subst hK_179
                      refine lv_ldc (v := iZ (-9999002)) hx hb hown (by rw [show iZ (-9999002) = (-9999002 : Int32) from by decide]; exact hts (.constant RL 15 (-9999002)) (List.mem_cons_of_mem _ (List.mem_append_left _ (by decide +kernel)))) dL_fails_182 ?_
                      refine z_icmp_ne (tgt := 191) hx hb (by decide) (by decide) dL_fails_184 (by decide) (fun c_184 => ?_) (fun c_184 => ?_)
                      · exfalso; omega
                      · skip
                        refine lv_iconst (v := iZ 1) hx hb dL_fails_187 rfl ?_
                        refine lv_goto (tgt := 192) hx hb dL_fails_188 (by decide) ?_
                        refine z_iand_b hx hb (Or.inr rfl) dL_fails_192 ?_
                        refine lv_istore_n (lv' := [(3, .int (iZ 1)), (2, .int (iZ (q_nd σ.1))), (0, .ref (gad G 152)), (1, .int (iZ x))]) hx hb dL_fails_193 rfl hl (by decide) rfl (fun ls hl => ?_)
                        refine lv_iload_n hx hb dL_fails_194 rfl (lv_at hl 0 rfl) ?_
                        refine lv_aload_n hx hb dL_fails_195 rfl (lv_at hl 2 rfl) ?_
                        refine lv_bipush (v := iZ (12)) hx hb dL_fails_196 (by decide) ?_
                        refine lv_iload_n hx hb dL_fails_198 rfl (lv_at hl 1 rfl) ?_
                        refine lv_iconst (v := iZ 1) hx hb dL_fails_199 rfl ?_
                        refine lv_iconst (v := iZ 0) hx hb dL_fails_200 rfl ?_
                        refine lv_iconst (v := iZ 0) hx hb dL_fails_201 rfl ?_
                        refine g_cL (As := [.ref (gad G 152), .int (iZ 12), .int (iZ (q_nd σ.1)), .int (iZ 1), .int (iZ 0), .int (iZ 0)]) (rest := [.int (iZ 1)]) (13) ⟨hx, hb, hml, hown, hts⟩ (c_L_call_Draw l hl0 G hdm M0 σ hσ (q_nd σ.1) (by omega) 1 (by omega) 0 0) (va_cwS 6 hts gA_fails_L_call rfl rfl rfl (by decide +kernel) ⟨Nat.le_of_ble_eq_true rfl, Nat.le_of_ble_eq_true rfl⟩) hG rfl hl.1 rfl (Nat.le_of_ble_eq_true rfl) dL_fails_202 ⟨by omega, by omega⟩ ⟨Nat.le_of_ble_eq_true rfl, Nat.le_of_ble_eq_true rfl⟩ (fun z25 K26 H locs hp_202 hG => ?_)
                        obtain ⟨hz_202, hK_202⟩ := hp_202
                        replace hz_202 := hz_202.trans (ax_draw_1 (e202))
                        replace hK_202 := hK_202.trans (congrArg kS (t_draw_no (by rw [e202]; decide)))
                        replace hz_202 := hz_202.symm; subst hz_202; replace hK_202 := hK_202.symm; subst hK_202
                        refine lv_ldc (v := iZ (-9999001)) hx hb hown (by rw [show iZ (-9999001) = (-9999001 : Int32) from by decide]; exact hts (.constant RL 43 (-9999001)) (List.mem_cons_of_mem _ (List.mem_append_left _ (by decide +kernel)))) dL_fails_205 ?_
                        refine z_icmp_ne (tgt := 293) hx hb (by decide) (by decide) dL_fails_207 (by decide) (fun c_207 => ?_) (fun c_207 => ?_)
                        · exfalso; omega
                        · skip
                          refine lv_aload_n hx hb dL_fails_210 rfl (lv_at hl 2 rfl) ?_
                          refine lv_bipush (v := iZ (12)) hx hb dL_fails_211 (by decide) ?_
                          refine lv_iconst (v := iZ 0) hx hb dL_fails_213 rfl ?_
                          refine lv_iconst (v := iZ 0) hx hb dL_fails_214 rfl ?_
                          refine lv_iconst (v := iZ 0) hx hb dL_fails_215 rfl ?_
                          refine lv_iconst (v := iZ 0) hx hb dL_fails_216 rfl ?_
                          refine g_cL (As := [.ref (gad G 152), .int (iZ 12), .int (iZ 0), .int (iZ 0), .int (iZ 0), .int (iZ 0)]) (rest := [.int (iZ 1)]) (14) ⟨hx, hb, hml, hown, hts⟩ (c_L_call_Draw l hl0 G hdm M0 σ hσ 0 (by omega) 0 (by omega) 0 0) (va_cwS 6 hts gA_fails_L_call rfl rfl rfl (by decide +kernel) ⟨Nat.le_of_ble_eq_true rfl, Nat.le_of_ble_eq_true rfl⟩) hG rfl hl.1 rfl (Nat.le_of_ble_eq_true rfl) dL_fails_217 ⟨by omega, by omega⟩ ⟨Nat.le_of_ble_eq_true rfl, Nat.le_of_ble_eq_true rfl⟩ (fun z27 K28 H locs hp_217 hG => ?_)
                          obtain ⟨hz_217, hK_217⟩ := hp_217
                          replace hz_217 := hz_217.trans (ax_draw_2 (e217))
                          replace hK_217 := hK_217.trans (congrArg kS (t_draw_no (by rw [e217]; decide)))
                          replace hz_217 := hz_217.symm; subst hz_217; replace hK_217 := hK_217.symm; subst hK_217
                          refine lv_ldc (v := iZ (-9999002)) hx hb hown (by rw [show iZ (-9999002) = (-9999002 : Int32) from by decide]; exact hts (.constant RL 15 (-9999002)) (List.mem_cons_of_mem _ (List.mem_append_left _ (by decide +kernel)))) dL_fails_220 ?_
                          refine z_icmp_ne (tgt := 293) hx hb (by decide) (by decide) dL_fails_222 (by decide) (fun c_222 => ?_) (fun c_222 => ?_)
                          · exfalso; omega
                          · skip
                            refine lv_aload_n hx hb dL_fails_225 rfl (lv_at hl 2 rfl) ?_
                            refine lv_ldc2 (v := lZ (11)) hx hb hown (by rw [show lZ (11) = (11 : Int64) from by decide]; exact hts (.constantLong RL 203 (11)) (List.mem_cons_of_mem _ (List.mem_append_left _ (by decide +kernel)))) dL_fails_226 ?_
                            refine lv_iconst (v := iZ 1) hx hb dL_fails_229 rfl ?_
                            refine g_cLW (As := [.ref (gad G 152), .long (lZ 11), .int (iZ 1)]) (rest := [.int (iZ 1)]) (15) ⟨hx, hb, hml, hown, hts⟩ (c_L_tryRun l hl0 G hdm M0 σ hσ 11 (by omega) 1 (by omega)) (vx_cwSW 3 hts gA_fails_L_tryRun rfl rfl rfl (by decide +kernel) ⟨Nat.le_of_ble_eq_true rfl, Nat.le_of_ble_eq_true rfl⟩) hG rfl hl.1 rfl (Nat.le_of_ble_eq_true rfl) dL_fails_230 ⟨by omega, by omega⟩ ⟨Nat.le_of_ble_eq_true rfl, Nat.le_of_ble_eq_true rfl⟩ (fun z29 K30 H locs hp_230 hG => ?_)
                            obtain ⟨hz_230, hK_230⟩ := hp_230
                            replace hz_230 := hz_230.trans (ax_run_1 (e230))
                            replace hK_230 := hK_230.trans (congrArg kS (t_run_no (by rw [e230]; decide)))
                            replace hz_230 := hz_230.symm; subst hz_230; replace hK_230 := hK_230.symm; subst hK_230
                            refine lv_ldc (v := iZ (-9999002)) hx hb hown (by rw [show iZ (-9999002) = (-9999002 : Int32) from by decide]; exact hts (.constant RL 15 (-9999002)) (List.mem_cons_of_mem _ (List.mem_append_left _ (by decide +kernel)))) dL_fails_233 ?_
                            refine z_icmp_ne (tgt := 293) hx hb (by decide) (by decide) dL_fails_235 (by decide) (fun c_235 => ?_) (fun c_235 => ?_)
                            · exfalso; omega
                            · skip
                              refine lv_aload_n hx hb dL_fails_238 rfl (lv_at hl 2 rfl) ?_
                              refine lv_ldc2 (v := lZ (310000)) hx hb hown (by rw [show lZ (310000) = (310000 : Int64) from by decide]; exact hts (.constantLong RL 205 (310000)) (List.mem_cons_of_mem _ (List.mem_append_left _ (by decide +kernel)))) dL_fails_239 ?_
                              refine lv_iconst (v := iZ 1) hx hb dL_fails_242 rfl ?_
                              refine g_cLW (As := [.ref (gad G 152), .long (lZ 310000), .int (iZ 1)]) (rest := [.int (iZ 1)]) (16) ⟨hx, hb, hml, hown, hts⟩ (c_L_tryRun l hl0 G hdm M0 σ hσ 310000 (by omega) 1 (by omega)) (vx_cwSW 3 hts gA_fails_L_tryRun rfl rfl rfl (by decide +kernel) ⟨Nat.le_of_ble_eq_true rfl, Nat.le_of_ble_eq_true rfl⟩) hG rfl hl.1 rfl (Nat.le_of_ble_eq_true rfl) dL_fails_243 ⟨by omega, by omega⟩ ⟨Nat.le_of_ble_eq_true rfl, Nat.le_of_ble_eq_true rfl⟩ (fun z31 K32 H locs hp_243 hG => ?_)
                              obtain ⟨hz_243, hK_243⟩ := hp_243
                              replace hz_243 := hz_243.trans (ax_run_1 (e243))
                              replace hK_243 := hK_243.trans (congrArg kS (t_run_no (by rw [e243]; decide)))
                              replace hz_243 := hz_243.symm; subst hz_243; replace hK_243 := hK_243.symm; subst hK_243
                              refine lv_ldc (v := iZ (-9999002)) hx hb hown (by rw [show iZ (-9999002) = (-9999002 : Int32) from by decide]; exact hts (.constant RL 15 (-9999002)) (List.mem_cons_of_mem _ (List.mem_append_left _ (by decide +kernel)))) dL_fails_246 ?_
                              refine z_icmp_ne (tgt := 293) hx hb (by decide) (by decide) dL_fails_248 (by decide) (fun c_248 => ?_) (fun c_248 => ?_)
                              · exfalso; omega
                              · skip
                                refine lv_aload_n hx hb dL_fails_251 rfl (lv_at hl 2 rfl) ?_
                                refine lv_ldc2 (v := lZ (-1)) hx hb hown (by rw [show lZ (-1) = (-1 : Int64) from by decide]; exact hts (.constantLong RL 207 (-1)) (List.mem_cons_of_mem _ (List.mem_append_left _ (by decide +kernel)))) dL_fails_252 ?_
                                refine lv_iconst (v := iZ 1) hx hb dL_fails_255 rfl ?_
                                refine g_cLW (As := [.ref (gad G 152), .long (lZ (-1)), .int (iZ 1)]) (rest := [.int (iZ 1)]) (17) ⟨hx, hb, hml, hown, hts⟩ (c_L_tryRun l hl0 G hdm M0 σ hσ (-1) (by omega) 1 (by omega)) (vx_cwSW 3 hts gA_fails_L_tryRun rfl rfl rfl (by decide +kernel) ⟨Nat.le_of_ble_eq_true rfl, Nat.le_of_ble_eq_true rfl⟩) hG rfl hl.1 rfl (Nat.le_of_ble_eq_true rfl) dL_fails_256 ⟨by omega, by omega⟩ ⟨Nat.le_of_ble_eq_true rfl, Nat.le_of_ble_eq_true rfl⟩ (fun z33 K34 H locs hp_256 hG => ?_)
                                obtain ⟨hz_256, hK_256⟩ := hp_256
                                replace hz_256 := hz_256.trans (ax_run_1 (e256))
                                replace hK_256 := hK_256.trans (congrArg kS (t_run_no (by rw [e256]; decide)))
                                replace hz_256 := hz_256.symm; subst hz_256; replace hK_256 := hK_256.symm; subst hK_256
                                refine lv_ldc (v := iZ (-9999002)) hx hb hown (by rw [show iZ (-9999002) = (-9999002 : Int32) from by decide]; exact hts (.constant RL 15 (-9999002)) (List.mem_cons_of_mem _ (List.mem_append_left _ (by decide +kernel)))) dL_fails_259 ?_
                                refine z_icmp_ne (tgt := 293) hx hb (by decide) (by decide) dL_fails_261 (by decide) (fun c_261 => ?_) (fun c_261 => ?_)
                                · exfalso; omega
                                · skip
                                  refine lv_aload_n hx hb dL_fails_264 rfl (lv_at hl 2 rfl) ?_
                                  refine lv_lconst (v := lZ 0) hx hb dL_fails_265 rfl ?_
                                  refine lv_bipush (v := iZ (31)) hx hb dL_fails_266 (by decide) ?_
                                  refine g_cLW (As := [.ref (gad G 152), .long (lZ 0), .int (iZ 31)]) (rest := [.int (iZ 1)]) (18) ⟨hx, hb, hml, hown, hts⟩ (c_L_tryRun l hl0 G hdm M0 σ hσ 0 (by omega) 31 (by omega)) (vx_cwSW 3 hts gA_fails_L_tryRun rfl rfl rfl (by decide +kernel) ⟨Nat.le_of_ble_eq_true rfl, Nat.le_of_ble_eq_true rfl⟩) hG rfl hl.1 rfl (Nat.le_of_ble_eq_true rfl) dL_fails_268 ⟨by omega, by omega⟩ ⟨Nat.le_of_ble_eq_true rfl, Nat.le_of_ble_eq_true rfl⟩ (fun z35 K36 H locs hp_268 hG => ?_)
                                  obtain ⟨hz_268, hK_268⟩ := hp_268
                                  replace hz_268 := hz_268.trans (ax_run_1 (e268))
                                  replace hK_268 := hK_268.trans (congrArg kS (t_run_no (by rw [e268]; decide)))
                                  replace hz_268 := hz_268.symm; subst hz_268; replace hK_268 := hK_268.symm; subst hK_268
                                  refine lv_ldc (v := iZ (-9999002)) hx hb hown (by rw [show iZ (-9999002) = (-9999002 : Int32) from by decide]; exact hts (.constant RL 15 (-9999002)) (List.mem_cons_of_mem _ (List.mem_append_left _ (by decide +kernel)))) dL_fails_271 ?_
                                  refine z_icmp_ne (tgt := 293) hx hb (by decide) (by decide) dL_fails_273 (by decide) (fun c_273 => ?_) (fun c_273 => ?_)
                                  · exfalso; omega
                                  · skip
                                    refine lv_aload_n hx hb dL_fails_276 rfl (lv_at hl 2 rfl) ?_
                                    refine lv_ldc2 (v := lZ (1000000000000)) hx hb hown (by rw [show lZ (1000000000000) = (1000000000000 : Int64) from by decide]; exact hts (.constantLong RL 209 (1000000000000)) (List.mem_cons_of_mem _ (List.mem_append_left _ (by decide +kernel)))) dL_fails_277 ?_
                                    refine lv_iconst (v := iZ 1) hx hb dL_fails_280 rfl ?_
                                    refine g_cLW (As := [.ref (gad G 152), .long (lZ 1000000000000), .int (iZ 1)]) (rest := [.int (iZ 1)]) (19) ⟨hx, hb, hml, hown, hts⟩ (c_L_tryRun l hl0 G hdm M0 σ hσ 1000000000000 (by omega) 1 (by omega)) (vx_cwSW 3 hts gA_fails_L_tryRun rfl rfl rfl (by decide +kernel) ⟨Nat.le_of_ble_eq_true rfl, Nat.le_of_ble_eq_true rfl⟩) hG rfl hl.1 rfl (Nat.le_of_ble_eq_true rfl) dL_fails_281 ⟨by omega, by omega⟩ ⟨Nat.le_of_ble_eq_true rfl, Nat.le_of_ble_eq_true rfl⟩ (fun z37 K38 H locs hp_281 hG => ?_)
                                    obtain ⟨hz_281, hK_281⟩ := hp_281
                                    replace hz_281 := hz_281.trans (ax_run_1 (e281))
                                    replace hK_281 := hK_281.trans (congrArg kS (t_run_no (by rw [e281]; decide)))
                                    replace hz_281 := hz_281.symm; subst hz_281; replace hK_281 := hK_281.symm; subst hK_281
                                    refine lv_ldc (v := iZ (-9999002)) hx hb hown (by rw [show iZ (-9999002) = (-9999002 : Int32) from by decide]; exact hts (.constant RL 15 (-9999002)) (List.mem_cons_of_mem _ (List.mem_append_left _ (by decide +kernel)))) dL_fails_284 ?_
                                    refine z_icmp_ne (tgt := 293) hx hb (by decide) (by decide) dL_fails_286 (by decide) (fun c_286 => ?_) (fun c_286 => ?_)
                                    · exfalso; omega
                                    · skip
                                      refine lv_iconst (v := iZ 1) hx hb dL_fails_289 rfl ?_
                                      refine lv_goto (tgt := 294) hx hb dL_fails_290 (by decide) ?_
                                      refine z_iand_b hx hb (Or.inr rfl) dL_fails_294 ?_
                                      refine lv_istore_n (lv' := [(3, .int (iZ 1)), (2, .int (iZ (q_nd σ.1))), (0, .ref (gad G 152)), (1, .int (iZ x))]) hx hb dL_fails_295 rfl hl (by decide) rfl (fun ls hl => ?_)
                                      refine lv_iload_n hx hb dL_fails_296 rfl (lv_at hl 0 rfl) ?_
                                      refine lv_aload_n hx hb dL_fails_297 rfl (lv_at hl 2 rfl) ?_
                                      refine lv_bipush (v := iZ (7)) hx hb dL_fails_298 (by decide) ?_
                                      refine lv_iconst (v := iZ 0) hx hb dL_fails_300 rfl ?_
                                      refine lv_aload_n hx hb dL_fails_301 rfl (lv_at hl 2 rfl) ?_
                                      refine lv_iconst (v := iZ 0) hx hb dL_fails_302 rfl ?_
                                      refine lv_iconst (v := iZ 1) hx hb dL_fails_303 rfl ?_
                                      refine g_cL (As := [.ref (gad G 152), .int (iZ 0), .int (iZ 1)]) (rest := [.int (iZ 0), .int (iZ 7), .ref (gad G 152), .int (iZ 1)]) (20) ⟨hx, hb, hml, hown, hts⟩ (c_L_dog l hl0 G hdm M0 σ hσ 0 (by omega) 1 (by omega)) (va_cwS 3 hts gA_fails_L_dog rfl rfl rfl (by decide +kernel) ⟨Nat.le_of_ble_eq_true rfl, Nat.le_of_ble_eq_true rfl⟩) hG rfl hl.1 rfl (Nat.le_of_ble_eq_true rfl) dL_fails_304 ⟨by omega, by omega⟩ ⟨Nat.le_of_ble_eq_true rfl, Nat.le_of_ble_eq_true rfl⟩ (fun z39 K40 H locs hp_304 hG => ?_)
                                      obtain ⟨hz_304, hK_304⟩ := hp_304
                                      replace hz_304 := hz_304.trans (a_dog_1 (σ := σ) (i := 0) (by omega))
                                      replace hz_304 := hz_304.symm; subst hz_304; replace hK_304 := hK_304.symm; subst hK_304
                                      refine lv_iconst (v := iZ 0) hx hb dL_fails_307 rfl ?_
                                      refine lv_iconst (v := iZ 0) hx hb dL_fails_308 rfl ?_
                                      refine g_cL (As := [.ref (gad G 152), .int (iZ 7), .int (iZ 0), .int (iZ (q_dr σ.1 0)), .int (iZ 0), .int (iZ 0)]) (rest := [.int (iZ 1)]) (21) ⟨hx, hb, hml, hown, hts⟩ (c_L_call_Enter l hl0 G hdm M0 σ hσ 0 (by omega) (q_dr σ.1 0) (by omega) 0 0) (va_cwS 6 hts gA_fails_L_call rfl rfl rfl (by decide +kernel) ⟨Nat.le_of_ble_eq_true rfl, Nat.le_of_ble_eq_true rfl⟩) hG rfl hl.1 rfl (Nat.le_of_ble_eq_true rfl) dL_fails_309 ⟨by omega, by omega⟩ ⟨Nat.le_of_ble_eq_true rfl, Nat.le_of_ble_eq_true rfl⟩ (fun z41 K42 H locs hp_309 hG => ?_)
                                      obtain ⟨hz_309, hK_309⟩ := hp_309
                                      replace hz_309 := hz_309.trans (ax_enter_2 (e309))
                                      replace hK_309 := hK_309.trans (congrArg kS (t_enter_no (by rw [e309]; decide)))
                                      replace hz_309 := hz_309.symm; subst hz_309; replace hK_309 := hK_309.symm; subst hK_309
                                      refine lv_ldc (v := iZ (-9999003)) hx hb hown (by rw [show iZ (-9999003) = (-9999003 : Int32) from by decide]; exact hts (.constant RL 18 (-9999003)) (List.mem_cons_of_mem _ (List.mem_append_left _ (by decide +kernel)))) dL_fails_312 ?_
                                      refine z_icmp_ne (tgt := 396) hx hb (by decide) (by decide) dL_fails_314 (by decide) (fun c_314 => ?_) (fun c_314 => ?_)
                                      · exfalso; omega
                                      · skip
                                        refine lv_aload_n hx hb dL_fails_317 rfl (lv_at hl 2 rfl) ?_
                                        refine lv_bipush (v := iZ (16)) hx hb dL_fails_318 (by decide) ?_
                                        refine lv_iconst (v := iZ 0) hx hb dL_fails_320 rfl ?_
                                        refine lv_iconst (v := iZ 0) hx hb dL_fails_321 rfl ?_
                                        refine lv_iconst (v := iZ 0) hx hb dL_fails_322 rfl ?_
                                        refine lv_iconst (v := iZ 0) hx hb dL_fails_323 rfl ?_
                                        refine g_cL (As := [.ref (gad G 152), .int (iZ 16), .int (iZ 0), .int (iZ 0), .int (iZ 0), .int (iZ 0)]) (rest := [.int (iZ 1)]) (22) ⟨hx, hb, hml, hown, hts⟩ (c_L_call_May l hl0 G hdm M0 σ hσ 0 (by omega) 0 (by omega) 0 0) (va_cwS 6 hts gA_fails_L_call rfl rfl rfl (by decide +kernel) ⟨Nat.le_of_ble_eq_true rfl, Nat.le_of_ble_eq_true rfl⟩) hG rfl hl.1 rfl (Nat.le_of_ble_eq_true rfl) dL_fails_324 ⟨by omega, by omega⟩ ⟨Nat.le_of_ble_eq_true rfl, Nat.le_of_ble_eq_true rfl⟩ (fun z43 K44 H locs hp_324 hG => ?_)
                                        obtain ⟨hz_324, hK_324⟩ := hp_324
                                        replace hz_324 := hz_324.trans (ax_may_2 (e324))
                                        replace hz_324 := hz_324.symm; subst hz_324; replace hK_324 := hK_324.symm; subst hK_324
                                        refine lv_ldc (v := iZ (-9999002)) hx hb hown (by rw [show iZ (-9999002) = (-9999002 : Int32) from by decide]; exact hts (.constant RL 15 (-9999002)) (List.mem_cons_of_mem _ (List.mem_append_left _ (by decide +kernel)))) dL_fails_327 ?_
                                        refine z_icmp_ne (tgt := 396) hx hb (by decide) (by decide) dL_fails_329 (by decide) (fun c_329 => ?_) (fun c_329 => ?_)
                                        · exfalso; omega
                                        · skip
                                          refine lv_aload_n hx hb dL_fails_332 rfl (lv_at hl 2 rfl) ?_
                                          refine lv_bipush (v := iZ (14)) hx hb dL_fails_333 (by decide) ?_
                                          refine lv_iconst (v := iZ 0) hx hb dL_fails_335 rfl ?_
                                          refine lv_iconst (v := iZ 0) hx hb dL_fails_336 rfl ?_
                                          refine lv_iconst (v := iZ 0) hx hb dL_fails_337 rfl ?_
                                          refine lv_iconst (v := iZ 0) hx hb dL_fails_338 rfl ?_
                                          refine g_cL (As := [.ref (gad G 152), .int (iZ 14), .int (iZ 0), .int (iZ 0), .int (iZ 0), .int (iZ 0)]) (rest := [.int (iZ 1)]) (23) ⟨hx, hb, hml, hown, hts⟩ (c_L_call_Left l hl0 G hdm M0 σ hσ 0 (by omega) 0 0 0) (va_cwS 6 hts gA_fails_L_call rfl rfl rfl (by decide +kernel) ⟨Nat.le_of_ble_eq_true rfl, Nat.le_of_ble_eq_true rfl⟩) hG rfl hl.1 rfl (Nat.le_of_ble_eq_true rfl) dL_fails_339 ⟨by omega, by omega⟩ ⟨Nat.le_of_ble_eq_true rfl, Nat.le_of_ble_eq_true rfl⟩ (fun z45 K46 H locs hp_339 hG => ?_)
                                          obtain ⟨hz_339, hK_339⟩ := hp_339
                                          replace hz_339 := hz_339.trans (ax_left_1 (e339))
                                          replace hz_339 := hz_339.symm; subst hz_339; replace hK_339 := hK_339.symm; subst hK_339
                                          refine lv_ldc (v := iZ (-9999002)) hx hb hown (by rw [show iZ (-9999002) = (-9999002 : Int32) from by decide]; exact hts (.constant RL 15 (-9999002)) (List.mem_cons_of_mem _ (List.mem_append_left _ (by decide +kernel)))) dL_fails_342 ?_
                                          refine z_icmp_ne (tgt := 396) hx hb (by decide) (by decide) dL_fails_344 (by decide) (fun c_344 => ?_) (fun c_344 => ?_)
                                          · exfalso; omega
                                          · skip
                                            refine lv_aload_n hx hb dL_fails_347 rfl (lv_at hl 2 rfl) ?_
                                            refine lv_bipush (v := iZ (17)) hx hb dL_fails_348 (by decide) ?_
                                            refine lv_iconst (v := iZ 2) hx hb dL_fails_350 rfl ?_
                                            refine lv_iconst (v := iZ 0) hx hb dL_fails_351 rfl ?_
                                            refine lv_iconst (v := iZ 0) hx hb dL_fails_352 rfl ?_
                                            refine lv_iconst (v := iZ 0) hx hb dL_fails_353 rfl ?_
                                            refine g_cL (As := [.ref (gad G 152), .int (iZ 17), .int (iZ 2), .int (iZ 0), .int (iZ 0), .int (iZ 0)]) (rest := [.int (iZ 1)]) (24) ⟨hx, hb, hml, hown, hts⟩ (c_L_call_Save l hl0 G hdm M0 σ hσ 2 (by omega) 0 0 0) (va_cwS 6 hts gA_fails_L_call rfl rfl rfl (by decide +kernel) ⟨Nat.le_of_ble_eq_true rfl, Nat.le_of_ble_eq_true rfl⟩) hG rfl hl.1 rfl (Nat.le_of_ble_eq_true rfl) dL_fails_354 ⟨by omega, by omega⟩ ⟨Nat.le_of_ble_eq_true rfl, Nat.le_of_ble_eq_true rfl⟩ (fun z47 K48 H locs hp_354 hG => ?_)
                                            obtain ⟨hz_354, hK_354⟩ := hp_354
                                            replace hz_354 := hz_354.trans (ax_save_1 (e354))
                                            replace hK_354 := hK_354.trans (congrArg kS (t_save_no (by rw [e354]; decide)))
                                            replace hz_354 := hz_354.symm; subst hz_354; replace hK_354 := hK_354.symm; subst hK_354
                                            refine lv_ldc (v := iZ (-9999001)) hx hb hown (by rw [show iZ (-9999001) = (-9999001 : Int32) from by decide]; exact hts (.constant RL 43 (-9999001)) (List.mem_cons_of_mem _ (List.mem_append_left _ (by decide +kernel)))) dL_fails_357 ?_
                                            refine z_icmp_ne (tgt := 396) hx hb (by decide) (by decide) dL_fails_359 (by decide) (fun c_359 => ?_) (fun c_359 => ?_)
                                            · exfalso; omega
                                            · skip
                                              refine lv_aload_n hx hb dL_fails_362 rfl (lv_at hl 2 rfl) ?_
                                              refine lv_bipush (v := iZ (18)) hx hb dL_fails_363 (by decide) ?_
                                              refine lv_iconst (v := iZ 2) hx hb dL_fails_365 rfl ?_
                                              refine lv_iconst (v := iZ 0) hx hb dL_fails_366 rfl ?_
                                              refine lv_iconst (v := iZ 0) hx hb dL_fails_367 rfl ?_
                                              refine lv_iconst (v := iZ 0) hx hb dL_fails_368 rfl ?_
                                              refine g_cL (As := [.ref (gad G 152), .int (iZ 18), .int (iZ 2), .int (iZ 0), .int (iZ 0), .int (iZ 0)]) (rest := [.int (iZ 1)]) (25) ⟨hx, hb, hml, hown, hts⟩ (c_L_call_Restore l hl0 G hdm M0 σ hσ 2 (by omega) 0 0 0) (va_cwS 6 hts gA_fails_L_call rfl rfl rfl (by decide +kernel) ⟨Nat.le_of_ble_eq_true rfl, Nat.le_of_ble_eq_true rfl⟩) hG rfl hl.1 rfl (Nat.le_of_ble_eq_true rfl) dL_fails_369 ⟨by omega, by omega⟩ ⟨Nat.le_of_ble_eq_true rfl, Nat.le_of_ble_eq_true rfl⟩ (fun z49 K50 H locs hp_369 hG => ?_)
                                              obtain ⟨hz_369, hK_369⟩ := hp_369
                                              replace hz_369 := hz_369.trans (ax_restore_1 (e369))
                                              replace hK_369 := hK_369.trans (congrArg kS (t_restore_no (by rw [e369]; decide)))
                                              replace hz_369 := hz_369.symm; subst hz_369; replace hK_369 := hK_369.symm; subst hK_369
                                              refine lv_ldc (v := iZ (-9999001)) hx hb hown (by rw [show iZ (-9999001) = (-9999001 : Int32) from by decide]; exact hts (.constant RL 43 (-9999001)) (List.mem_cons_of_mem _ (List.mem_append_left _ (by decide +kernel)))) dL_fails_372 ?_
                                              refine z_icmp_ne (tgt := 396) hx hb (by decide) (by decide) dL_fails_374 (by decide) (fun c_374 => ?_) (fun c_374 => ?_)
                                              · exfalso; omega
                                              · skip
                                                refine lv_aload_n hx hb dL_fails_377 rfl (lv_at hl 2 rfl) ?_
                                                refine lv_bipush (v := iZ (15)) hx hb dL_fails_378 (by decide) ?_
                                                refine lv_iload_n hx hb dL_fails_380 rfl (lv_at hl 1 rfl) ?_
                                                refine lv_iconst (v := iZ 0) hx hb dL_fails_381 rfl ?_
                                                refine lv_iconst (v := iZ 0) hx hb dL_fails_382 rfl ?_
                                                refine lv_iconst (v := iZ 0) hx hb dL_fails_383 rfl ?_
                                                refine g_cL (As := [.ref (gad G 152), .int (iZ 15), .int (iZ (q_nd σ.1)), .int (iZ 0), .int (iZ 0), .int (iZ 0)]) (rest := [.int (iZ 1)]) (26) ⟨hx, hb, hml, hown, hts⟩ (c_L_call_Best l hl0 G hdm M0 σ hσ (q_nd σ.1) (by omega) 0 0 0) (va_cwS 6 hts gA_fails_L_call rfl rfl rfl (by decide +kernel) ⟨Nat.le_of_ble_eq_true rfl, Nat.le_of_ble_eq_true rfl⟩) hG rfl hl.1 rfl (Nat.le_of_ble_eq_true rfl) dL_fails_384 ⟨by omega, by omega⟩ ⟨Nat.le_of_ble_eq_true rfl, Nat.le_of_ble_eq_true rfl⟩ (fun z51 K52 H locs hp_384 hG => ?_)
                                                obtain ⟨hz_384, hK_384⟩ := hp_384
                                                replace hz_384 := hz_384.trans (ax_best_1 (e384))
                                                replace hz_384 := hz_384.symm; subst hz_384; replace hK_384 := hK_384.symm; subst hK_384
                                                refine lv_ldc (v := iZ (-9999001)) hx hb hown (by rw [show iZ (-9999001) = (-9999001 : Int32) from by decide]; exact hts (.constant RL 43 (-9999001)) (List.mem_cons_of_mem _ (List.mem_append_left _ (by decide +kernel)))) dL_fails_387 ?_
                                                refine z_icmp_ne (tgt := 396) hx hb (by decide) (by decide) dL_fails_389 (by decide) (fun c_389 => ?_) (fun c_389 => ?_)
                                                · exfalso; omega
                                                · skip
                                                  refine lv_iconst (v := iZ 1) hx hb dL_fails_392 rfl ?_
                                                  refine lv_goto (tgt := 397) hx hb dL_fails_393 (by decide) ?_
                                                  refine z_iand_b hx hb (Or.inr rfl) dL_fails_397 ?_
                                                  refine lv_istore_n (lv' := [(3, .int (iZ 1)), (2, .int (iZ (q_nd σ.1))), (0, .ref (gad G 152)), (1, .int (iZ x))]) hx hb dL_fails_398 rfl hl (by decide) rfl (fun ls hl => ?_)
                                                  refine lv_iload_n hx hb dL_fails_399 rfl (lv_at hl 0 rfl) ?_
                                                  refine z_if_eq (tgt := 469) hx hb (by decide) dL_fails_400 (by decide) (fun c_400 => ?_) (fun c_400 => ?_)
                                                  · exfalso; omega
                                                  · skip
                                                    refine lv_aload_n hx hb dL_fails_403 rfl (lv_at hl 2 rfl) ?_
                                                    refine lv_iconst (v := iZ 5) hx hb dL_fails_404 rfl ?_
                                                    refine lv_lconst (v := lZ 0) hx hb dL_fails_405 rfl ?_
                                                    refine g_cLW (As := [.ref (gad G 152), .int (iZ 5), .long (lZ 0)]) (rest := []) (27) ⟨hx, hb, hml, hown, hts⟩ (c_L_tryScript l hl0 G hdm M0 σ hσ 5 (by omega) 0 (by omega)) (vx_cwSW 3 hts gA_fails_L_tryScript rfl rfl rfl (by decide +kernel) ⟨Nat.le_of_ble_eq_true rfl, Nat.le_of_ble_eq_true rfl⟩) hG rfl hl.1 rfl (Nat.le_of_ble_eq_true rfl) dL_fails_406 ⟨by omega, by omega⟩ ⟨Nat.le_of_ble_eq_true rfl, Nat.le_of_ble_eq_true rfl⟩ (fun z53 K54 H locs hp_406 hG => ?_)
                                                    obtain ⟨hz_406, hK_406⟩ := hp_406
                                                    replace hz_406 := hz_406.trans (ax_script_1 (e406))
                                                    replace hz_406 := hz_406.symm; subst hz_406; replace hK_406 := hK_406.symm; subst hK_406
                                                    refine lv_ldc (v := iZ (-9999002)) hx hb hown (by rw [show iZ (-9999002) = (-9999002 : Int32) from by decide]; exact hts (.constant RL 15 (-9999002)) (List.mem_cons_of_mem _ (List.mem_append_left _ (by decide +kernel)))) dL_fails_409 ?_
                                                    refine z_icmp_ne (tgt := 469) hx hb (by decide) (by decide) dL_fails_411 (by decide) (fun c_411 => ?_) (fun c_411 => ?_)
                                                    · exfalso; omega
                                                    · skip
                                                      refine lv_aload_n hx hb dL_fails_414 rfl (lv_at hl 2 rfl) ?_
                                                      refine lv_iconst (v := iZ 1) hx hb dL_fails_415 rfl ?_
                                                      refine lv_ldc2 (v := lZ (10000)) hx hb hown (by rw [show lZ (10000) = (10000 : Int64) from by decide]; exact hts (.constantLong RL 192 (10000)) (List.mem_cons_of_mem _ (List.mem_append_left _ (by decide +kernel)))) dL_fails_416 ?_
                                                      refine g_cLW (As := [.ref (gad G 152), .int (iZ 1), .long (lZ 10000)]) (rest := []) (28) ⟨hx, hb, hml, hown, hts⟩ (c_L_tryScript l hl0 G hdm M0 σ hσ 1 (by omega) 10000 (by omega)) (vx_cwSW 3 hts gA_fails_L_tryScript rfl rfl rfl (by decide +kernel) ⟨Nat.le_of_ble_eq_true rfl, Nat.le_of_ble_eq_true rfl⟩) hG rfl hl.1 rfl (Nat.le_of_ble_eq_true rfl) dL_fails_419 ⟨by omega, by omega⟩ ⟨Nat.le_of_ble_eq_true rfl, Nat.le_of_ble_eq_true rfl⟩ (fun z55 K56 H locs hp_419 hG => ?_)
                                                      obtain ⟨hz_419, hK_419⟩ := hp_419
                                                      replace hz_419 := hz_419.trans (ax_script_1 (e419))
                                                      replace hz_419 := hz_419.symm; subst hz_419; replace hK_419 := hK_419.symm; subst hK_419
                                                      refine lv_ldc (v := iZ (-9999002)) hx hb hown (by rw [show iZ (-9999002) = (-9999002 : Int32) from by decide]; exact hts (.constant RL 15 (-9999002)) (List.mem_cons_of_mem _ (List.mem_append_left _ (by decide +kernel)))) dL_fails_422 ?_
                                                      refine z_icmp_ne (tgt := 469) hx hb (by decide) (by decide) dL_fails_424 (by decide) (fun c_424 => ?_) (fun c_424 => ?_)
                                                      · exfalso; omega
                                                      · skip
                                                        refine lv_aload_n hx hb dL_fails_427 rfl (lv_at hl 2 rfl) ?_
                                                        refine lv_iconst (v := iZ 2) hx hb dL_fails_428 rfl ?_
                                                        refine lv_ldc2 (v := lZ (-1)) hx hb hown (by rw [show lZ (-1) = (-1 : Int64) from by decide]; exact hts (.constantLong RL 207 (-1)) (List.mem_cons_of_mem _ (List.mem_append_left _ (by decide +kernel)))) dL_fails_429 ?_
                                                        refine g_cLW (As := [.ref (gad G 152), .int (iZ 2), .long (lZ (-1))]) (rest := []) (29) ⟨hx, hb, hml, hown, hts⟩ (c_L_tryScript l hl0 G hdm M0 σ hσ 2 (by omega) (-1) (by omega)) (vx_cwSW 3 hts gA_fails_L_tryScript rfl rfl rfl (by decide +kernel) ⟨Nat.le_of_ble_eq_true rfl, Nat.le_of_ble_eq_true rfl⟩) hG rfl hl.1 rfl (Nat.le_of_ble_eq_true rfl) dL_fails_432 ⟨by omega, by omega⟩ ⟨Nat.le_of_ble_eq_true rfl, Nat.le_of_ble_eq_true rfl⟩ (fun z57 K58 H locs hp_432 hG => ?_)
                                                        obtain ⟨hz_432, hK_432⟩ := hp_432
                                                        replace hz_432 := hz_432.trans (ax_script_1 (e432))
                                                        replace hz_432 := hz_432.symm; subst hz_432; replace hK_432 := hK_432.symm; subst hK_432
                                                        refine lv_ldc (v := iZ (-9999002)) hx hb hown (by rw [show iZ (-9999002) = (-9999002 : Int32) from by decide]; exact hts (.constant RL 15 (-9999002)) (List.mem_cons_of_mem _ (List.mem_append_left _ (by decide +kernel)))) dL_fails_435 ?_
                                                        refine z_icmp_ne (tgt := 469) hx hb (by decide) (by decide) dL_fails_437 (by decide) (fun c_437 => ?_) (fun c_437 => ?_)
                                                        · exfalso; omega
                                                        · skip
                                                          refine lv_aload_n hx hb dL_fails_440 rfl (lv_at hl 2 rfl) ?_
                                                          refine lv_iload_n hx hb dL_fails_441 rfl (lv_at hl 3 rfl) ?_
                                                          refine z_i2l hx hb (by omega) dL_fails_442 ?_
                                                          refine lv_iconst (v := iZ 0) hx hb dL_fails_443 rfl ?_
                                                          refine g_cLW (As := [.ref (gad G 152), .long (lZ x), .int (iZ 0)]) (rest := []) (30) ⟨hx, hb, hml, hown, hts⟩ (c_L_trySimulate l hl0 G hdm M0 σ hσ x (by omega) 0 (by omega)) (vx_cwSW 3 hts gA_fails_L_trySimulate rfl rfl rfl (by decide +kernel) ⟨Nat.le_of_ble_eq_true rfl, Nat.le_of_ble_eq_true rfl⟩) hG rfl hl.1 rfl (Nat.le_of_ble_eq_true rfl) dL_fails_444 ⟨by omega, by omega⟩ ⟨Nat.le_of_ble_eq_true rfl, Nat.le_of_ble_eq_true rfl⟩ (fun z59 K60 H locs hp_444 hG => ?_)
                                                          obtain ⟨hz_444, hK_444⟩ := hp_444
                                                          replace hz_444 := hz_444.trans (ax_simulate_1 (e444))
                                                          replace hz_444 := hz_444.symm; subst hz_444; replace hK_444 := hK_444.symm; subst hK_444
                                                          refine lv_ldc (v := iZ (-9999002)) hx hb hown (by rw [show iZ (-9999002) = (-9999002 : Int32) from by decide]; exact hts (.constant RL 15 (-9999002)) (List.mem_cons_of_mem _ (List.mem_append_left _ (by decide +kernel)))) dL_fails_447 ?_
                                                          refine z_icmp_ne (tgt := 469) hx hb (by decide) (by decide) dL_fails_449 (by decide) (fun c_449 => ?_) (fun c_449 => ?_)
                                                          · exfalso; omega
                                                          · skip
                                                            refine lv_aload_n hx hb dL_fails_452 rfl (lv_at hl 2 rfl) ?_
                                                            refine lv_iload_n hx hb dL_fails_453 rfl (lv_at hl 3 rfl) ?_
                                                            refine z_i2l hx hb (by omega) dL_fails_454 ?_
                                                            refine lv_bipush (v := iZ (100)) hx hb dL_fails_455 (by decide) ?_
                                                            refine g_cLW (As := [.ref (gad G 152), .long (lZ x), .int (iZ 100)]) (rest := []) (31) ⟨hx, hb, hml, hown, hts⟩ (c_L_trySimulate l hl0 G hdm M0 σ hσ x (by omega) 100 (by omega)) (vx_cwSW 3 hts gA_fails_L_trySimulate rfl rfl rfl (by decide +kernel) ⟨Nat.le_of_ble_eq_true rfl, Nat.le_of_ble_eq_true rfl⟩) hG rfl hl.1 rfl (Nat.le_of_ble_eq_true rfl) dL_fails_457 ⟨by omega, by omega⟩ ⟨Nat.le_of_ble_eq_true rfl, Nat.le_of_ble_eq_true rfl⟩ (fun z61 K62 H locs hp_457 hG => ?_)
                                                            obtain ⟨hz_457, hK_457⟩ := hp_457
                                                            replace hz_457 := hz_457.trans (ax_simulate_1 (e457))
                                                            replace hz_457 := hz_457.symm; subst hz_457; replace hK_457 := hK_457.symm; subst hK_457
                                                            refine lv_ldc (v := iZ (-9999002)) hx hb hown (by rw [show iZ (-9999002) = (-9999002 : Int32) from by decide]; exact hts (.constant RL 15 (-9999002)) (List.mem_cons_of_mem _ (List.mem_append_left _ (by decide +kernel)))) dL_fails_460 ?_
                                                            refine z_icmp_ne (tgt := 469) hx hb (by decide) (by decide) dL_fails_462 (by decide) (fun c_462 => ?_) (fun c_462 => ?_)
                                                            · exfalso; omega
                                                            · skip
                                                              refine lv_iconst (v := iZ 1) hx hb dL_fails_465 rfl ?_
                                                              refine lv_goto (tgt := 470) hx hb dL_fails_466 (by decide) ?_
                                                              exact g_zretL (z := 1) hx hb hr hG hlocks (Or.inr rfl) (⟨rfl, rfl⟩) ⟨by omega, by omega⟩ dL_fails_470
