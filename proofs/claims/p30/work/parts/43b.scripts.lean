set_option maxHeartbeats 4000000 in
set_option maxRecDepth 100000 in
theorem c_L_scripts (l : Launch) (hl0 : l.stackTraces = false) (G : gG) (hdm : ∀ k, k < 169 → gdm G k) (M0 : Nat → Nat → Int) (σ : gS) (hσ : s_ok σ) (x : Int) (hx9 : 0 ≤ x ∧ x < 2147483648)  : gML l yL_scripts wA_scripts ({ frames := 10, cells := 20, slots := 120, locals := 238 } : Room) 20 G M0 (kS σ) [.ref (gad G 152), .int (iZ x)] (fun z K1 => z = 1 ∧ K1 = kS σ) := by
  refine gML_of (cc := cL_scripts) (maxL := 6) (ret := some .boolean) (by decide) rfl (Nat.le_of_ble_eq_true rfl) ?_
  intro p e s m below meth c ls hx hb hr hml hown hts hlocks hl hG
  have hown : s.vm.findClass RL = some m.cls := hown
  have hl : lv_has ls 6 [(0, .ref (gad G 152)), (1, .int (iZ x))] := hl
  have hnd : 1 ≤ q_nd σ.1 ∧ q_nd σ.1 ≤ 12 := ⟨hσ.1.2.2, hσ.1.1.1.2⟩
  have hob := ob_in σ.1
  have hnw := nwait_in hσ.1.1
  have h19 := hσ.1.1.2.2.2.1
  have h29 := hσ.1.1.2.2.2.2.1
  have hxi := xi_in (R := σ.1) (by omega) x
  have hd5 := dok5 hσ.1.1 (q_xi σ.1 x) hxi.2
  have hpl : -9 ≤ q_pl σ.1 (q_xi σ.1 x) ∧ q_pl σ.1 (q_xi σ.1 x) ≤ 13 := by
    have h8 := ct_in (fun j => decide (q_hs σ.1 j = 1) && q_bt σ.1 j (q_xi σ.1 x)) (q_nd σ.1).toNat
    unfold q_pl; split <;> omega
  refine lv_aload_n hx hb dL_scripts_0 rfl (lv_at hl 0 rfl) ?_
  refine lv_iconst (v := iZ 1) hx hb dL_scripts_1 rfl ?_
  refine lv_ldc2 (v := lZ (8000)) hx hb hown (by rw [show lZ (8000) = (8000 : Int64) from by decide]; exact hts (.constantLong RL 182 (8000)) (List.mem_cons_of_mem _ (List.mem_append_left _ (by decide +kernel)))) dL_scripts_2 ?_
  refine lv_aload_n hx hb dL_scripts_5 rfl (lv_at hl 0 rfl) ?_
  refine lv_iconst (v := iZ 1) hx hb dL_scripts_6 rfl ?_
  refine g_cL (As := [.ref (gad G 152), .int (iZ 1)]) (rest := [.long (lZ 8000), .int (iZ 1), .ref (gad G 152)]) (1) ⟨hx, hb, hml, hown, hts⟩ (c_L_about l hl0 G hdm M0 σ hσ 1 (by omega)) (va_cwS 2 hts gA_scripts_L_about rfl rfl rfl (by decide +kernel) ⟨Nat.le_of_ble_eq_true rfl, Nat.le_of_ble_eq_true rfl⟩) hG rfl hl.1 rfl (Nat.le_of_ble_eq_true rfl) dL_scripts_7 ⟨by omega, by omega⟩ ⟨Nat.le_of_ble_eq_true rfl, Nat.le_of_ble_eq_true rfl⟩ (fun z1 K2 H locs hp_7 hG => ?_)
  obtain ⟨hz_7, hK_7⟩ := hp_7
  replace hz_7 := hz_7.trans (a_about_1 σ)
  replace hz_7 := hz_7.symm; subst hz_7; replace hK_7 := hK_7.symm; subst hK_7
  refine z_i2l hx hb (by omega) dL_scripts_10 ?_
  refine z_ladd (z := ((q_nwait σ.1) + 8000)) hx hb (by omega) dL_scripts_11 ?_
  refine g_cLW (As := [.ref (gad G 152), .int (iZ 1), .long (lZ ((q_nwait σ.1) + 8000))]) (rest := []) (2) ⟨hx, hb, hml, hown, hts⟩ (c_L_tryScript l hl0 G hdm M0 σ hσ 1 (by omega) ((q_nwait σ.1) + 8000) (by omega)) (vx_cwSW 3 hts gA_scripts_L_tryScript rfl rfl rfl (by decide +kernel) ⟨Nat.le_of_ble_eq_true rfl, Nat.le_of_ble_eq_true rfl⟩) hG rfl hl.1 rfl (Nat.le_of_ble_eq_true rfl) dL_scripts_12 ⟨by omega, by omega⟩ ⟨Nat.le_of_ble_eq_true rfl, Nat.le_of_ble_eq_true rfl⟩ (fun z3 K4 H locs hp_12 hG => ?_)
  obtain ⟨hz_12, hK_12⟩ := hp_12
  replace hz_12 := hz_12.trans (scr_wait hσ.1.1 (by omega))
  replace hz_12 := hz_12.symm; subst hz_12; replace hK_12 := hK_12.symm; subst hK_12
  refine lv_bipush (v := iZ (-9)) hx hb dL_scripts_15 (by decide) ?_
  refine z_icmp_ne (tgt := 80) hx hb (by decide) (by decide) dL_scripts_17 (by decide) (fun c_17 => ?_) (fun c_17 => ?_)
  · exfalso; omega
  · skip
    refine lv_aload_n hx hb dL_scripts_20 rfl (lv_at hl 0 rfl) ?_
    refine lv_iconst (v := iZ 1) hx hb dL_scripts_21 rfl ?_
    refine lv_ldc2 (v := lZ (9000)) hx hb hown (by rw [show lZ (9000) = (9000 : Int64) from by decide]; exact hts (.constantLong RL 188 (9000)) (List.mem_cons_of_mem _ (List.mem_append_left _ (by decide +kernel)))) dL_scripts_22 ?_
    refine lv_aload_n hx hb dL_scripts_25 rfl (lv_at hl 0 rfl) ?_
    refine g_cK (b := 152) (As := []) (rest := [.long (lZ 9000), .int (iZ 1), .ref (gad G 152)]) ⟨hx, hb, hml, hown, hts⟩ (hdm 152 (by decide)) (fun f => rfl) rfl rfl (fun M9 hK9 => c_X5_whyNot l G M9 hdm σ.1 (show q_K M9 σ from hK9).1 (hσ).1.1) (cwV 0 hts gA_scripts_X5_whyNot rfl rfl rfl (by decide +kernel) ⟨Nat.le_of_ble_eq_true rfl, Nat.le_of_ble_eq_true rfl⟩) hG rfl hl.1 rfl (Nat.le_of_ble_eq_true rfl) dL_scripts_26 ⟨by dsimp only; omega, by dsimp only; omega⟩ (fun M9 z9 N9 hK9 hp9 hF9 => by rw [hp9.2]; exact ⟨hK9, hF9⟩) (fun z5 H locs hp_26 hG => ?_)
    obtain ⟨M9, N9, -, hz_26, -⟩ := hp_26
    replace hz_26 := hz_26.symm; subst hz_26
    refine z_i2l hx hb (by omega) dL_scripts_29 ?_
    refine z_ladd (z := ((q_ob σ.1) + 9000)) hx hb (by omega) dL_scripts_30 ?_
    refine g_cLW (As := [.ref (gad G 152), .int (iZ 1), .long (lZ ((q_ob σ.1) + 9000))]) (rest := []) (3) ⟨hx, hb, hml, hown, hts⟩ (c_L_tryScript l hl0 G hdm M0 σ hσ 1 (by omega) ((q_ob σ.1) + 9000) (by omega)) (vx_cwSW 3 hts gA_scripts_L_tryScript rfl rfl rfl (by decide +kernel) ⟨Nat.le_of_ble_eq_true rfl, Nat.le_of_ble_eq_true rfl⟩) hG rfl hl.1 rfl (Nat.le_of_ble_eq_true rfl) dL_scripts_31 ⟨by omega, by omega⟩ ⟨Nat.le_of_ble_eq_true rfl, Nat.le_of_ble_eq_true rfl⟩ (fun z6 K7 H locs hp_31 hG => ?_)
    obtain ⟨hz_31, hK_31⟩ := hp_31
    replace hz_31 := hz_31.trans (scr_why (by omega))
    replace hz_31 := hz_31.symm; subst hz_31; replace hK_31 := hK_31.symm; subst hK_31
    refine lv_bipush (v := iZ (-9)) hx hb dL_scripts_34 (by decide) ?_
    refine z_icmp_ne (tgt := 80) hx hb (by decide) (by decide) dL_scripts_36 (by decide) (fun c_36 => ?_) (fun c_36 => ?_)
    · exfalso; omega
    · skip
      refine lv_aload_n hx hb dL_scripts_39 rfl (lv_at hl 0 rfl) ?_
      refine lv_iconst (v := iZ 2) hx hb dL_scripts_40 rfl ?_
      refine lv_ldc2 (v := lZ (7000)) hx hb hown (by rw [show lZ (7000) = (7000 : Int64) from by decide]; exact hts (.constantLong RL 190 (7000)) (List.mem_cons_of_mem _ (List.mem_append_left _ (by decide +kernel)))) dL_scripts_41 ?_
      refine lv_aload_n hx hb dL_scripts_44 rfl (lv_at hl 0 rfl) ?_
      refine lv_iconst (v := iZ 5) hx hb dL_scripts_45 rfl ?_
      refine g_cL (As := [.ref (gad G 152), .int (iZ 5)]) (rest := [.long (lZ 7000), .int (iZ 2), .ref (gad G 152)]) (4) ⟨hx, hb, hml, hown, hts⟩ (c_L_about l hl0 G hdm M0 σ hσ 5 (by omega)) (va_cwS 2 hts gA_scripts_L_about rfl rfl rfl (by decide +kernel) ⟨Nat.le_of_ble_eq_true rfl, Nat.le_of_ble_eq_true rfl⟩) hG rfl hl.1 rfl (Nat.le_of_ble_eq_true rfl) dL_scripts_46 ⟨by omega, by omega⟩ ⟨Nat.le_of_ble_eq_true rfl, Nat.le_of_ble_eq_true rfl⟩ (fun z8 K9 H locs hp_46 hG => ?_)
      obtain ⟨hz_46, hK_46⟩ := hp_46
      replace hz_46 := hz_46.trans (a_about_5 σ)
      replace hz_46 := hz_46.symm; subst hz_46; replace hK_46 := hK_46.symm; subst hK_46
      refine z_i2l hx hb (by omega) dL_scripts_49 ?_
      refine z_ladd (z := ((σ.1 1) + 7000)) hx hb (by omega) dL_scripts_50 ?_
      refine lv_ldc2 (v := lZ (10000)) hx hb hown (by rw [show lZ (10000) = (10000 : Int64) from by decide]; exact hts (.constantLong RL 192 (10000)) (List.mem_cons_of_mem _ (List.mem_append_left _ (by decide +kernel)))) dL_scripts_51 ?_
      refine z_lmul (z := (10000 * (σ.1 1) + 70000000)) hx hb (by omega) dL_scripts_54 ?_
      refine lv_ldc2 (v := lZ (9000)) hx hb hown (by rw [show lZ (9000) = (9000 : Int64) from by decide]; exact hts (.constantLong RL 188 (9000)) (List.mem_cons_of_mem _ (List.mem_append_left _ (by decide +kernel)))) dL_scripts_55 ?_
      refine z_ladd (z := (10000 * (σ.1 1) + 70009000)) hx hb (by omega) dL_scripts_58 ?_
      refine lv_aload_n hx hb dL_scripts_59 rfl (lv_at hl 0 rfl) ?_
      refine g_cK (b := 152) (As := []) (rest := [.long (lZ (10000 * (σ.1 1) + 70009000)), .int (iZ 2), .ref (gad G 152)]) ⟨hx, hb, hml, hown, hts⟩ (hdm 152 (by decide)) (fun f => rfl) rfl rfl (fun M9 hK9 => c_X5_whyNot l G M9 hdm σ.1 (show q_K M9 σ from hK9).1 (hσ).1.1) (cwV 0 hts gA_scripts_X5_whyNot rfl rfl rfl (by decide +kernel) ⟨Nat.le_of_ble_eq_true rfl, Nat.le_of_ble_eq_true rfl⟩) hG rfl hl.1 rfl (Nat.le_of_ble_eq_true rfl) dL_scripts_60 ⟨by dsimp only; omega, by dsimp only; omega⟩ (fun M9 z9 N9 hK9 hp9 hF9 => by rw [hp9.2]; exact ⟨hK9, hF9⟩) (fun z10 H locs hp_60 hG => ?_)
      obtain ⟨M9, N9, -, hz_60, -⟩ := hp_60
      replace hz_60 := hz_60.symm; subst hz_60
      refine lv_iconst (v := iZ 1) hx hb dL_scripts_63 rfl ?_
      refine z_iadd (z := ((q_ob σ.1) + 1)) hx hb (by omega) dL_scripts_64 ?_
      refine lv_iconst (v := iZ 3) hx hb dL_scripts_65 rfl ?_
      refine z_irem (z := (((q_ob σ.1) + 1) % 3)) hx hb (by omega) (by omega) rfl dL_scripts_66 ?_
      refine z_i2l hx hb (by omega) dL_scripts_67 ?_
      refine z_ladd (z := (10000 * (σ.1 1) + (((q_ob σ.1) + 1) % 3) + 70009000)) hx hb (by omega) dL_scripts_68 ?_
      refine g_cLW (As := [.ref (gad G 152), .int (iZ 2), .long (lZ (10000 * (σ.1 1) + (((q_ob σ.1) + 1) % 3) + 70009000))]) (rest := []) (5) ⟨hx, hb, hml, hown, hts⟩ (c_L_tryScript l hl0 G hdm M0 σ hσ 2 (by omega) (10000 * (σ.1 1) + (((q_ob σ.1) + 1) % 3) + 70009000) (by omega)) (vx_cwSW 3 hts gA_scripts_L_tryScript rfl rfl rfl (by decide +kernel) ⟨Nat.le_of_ble_eq_true rfl, Nat.le_of_ble_eq_true rfl⟩) hG rfl hl.1 rfl (Nat.le_of_ble_eq_true rfl) dL_scripts_69 ⟨by omega, by omega⟩ ⟨Nat.le_of_ble_eq_true rfl, Nat.le_of_ble_eq_true rfl⟩ (fun z11 K12 H locs hp_69 hG => ?_)
      obtain ⟨hz_69, hK_69⟩ := hp_69
      replace hz_69 := hz_69.trans (scr_min hσ.1.1 (by omega))
      replace hz_69 := hz_69.symm; subst hz_69; replace hK_69 := hK_69.symm; subst hK_69
      refine lv_iconst (v := iZ 1) hx hb dL_scripts_72 rfl ?_
      refine z_icmp_ne (tgt := 80) hx hb (by decide) (by decide) dL_scripts_73 (by decide) (fun c_73 => ?_) (fun c_73 => ?_)
      · exfalso; omega
      · skip
        refine lv_iconst (v := iZ 1) hx hb dL_scripts_76 rfl ?_
        refine lv_goto (tgt := 81) hx hb dL_scripts_77 (by decide) ?_
        refine lv_istore_n (lv' := [(2, .int (iZ 1)), (0, .ref (gad G 152)), (1, .int (iZ x))]) hx hb dL_scripts_81 rfl hl (by decide) rfl (fun ls hl => ?_)
        refine lv_iload_n hx hb dL_scripts_82 rfl (lv_at hl 2 rfl) ?_
        refine lv_aload_n hx hb dL_scripts_83 rfl (lv_at hl 1 rfl) ?_
        refine lv_iconst (v := iZ 0) hx hb dL_scripts_84 rfl ?_
        refine g_cL (As := [.ref (gad G 152), .int (iZ 0)]) (rest := [.int (iZ x)]) (6) ⟨hx, hb, hml, hown, hts⟩ (c_L_about l hl0 G hdm M0 σ hσ 0 (by omega)) (va_cwS 2 hts gA_scripts_L_about rfl rfl rfl (by decide +kernel) ⟨Nat.le_of_ble_eq_true rfl, Nat.le_of_ble_eq_true rfl⟩) hG rfl hl.1 rfl (Nat.le_of_ble_eq_true rfl) dL_scripts_85 ⟨by omega, by omega⟩ ⟨Nat.le_of_ble_eq_true rfl, Nat.le_of_ble_eq_true rfl⟩ (fun z13 K14 H locs hp_85 hG => ?_)
        obtain ⟨hz_85, hK_85⟩ := hp_85
        replace hz_85 := hz_85.trans (a_about_0 σ)
        replace hz_85 := hz_85.symm; subst hz_85; replace hK_85 := hK_85.symm; subst hK_85
        refine z_irem (z := ((q_xi σ.1 x) : Int)) hx hb (by omega) (by omega) hxi.1 dL_scripts_88 ?_
        refine lv_istore_n (lv' := [(3, .int (iZ ((q_xi σ.1 x) : Int))), (2, .int (iZ 1)), (0, .ref (gad G 152)), (1, .int (iZ x))]) hx hb dL_scripts_89 rfl hl (by decide) rfl (fun ls hl => ?_)
        refine lv_aload_n hx hb dL_scripts_90 rfl (lv_at hl 2 rfl) ?_
        refine lv_iload_n hx hb dL_scripts_91 rfl (lv_at hl 0 rfl) ?_
        refine lv_bipush (v := iZ (6)) hx hb dL_scripts_92 (by decide) ?_
        refine g_cL (As := [.ref (gad G 152), .int (iZ ((q_xi σ.1 x) : Int)), .int (iZ 6)]) (rest := []) (7) ⟨hx, hb, hml, hown, hts⟩ (c_L_dog l hl0 G hdm M0 σ hσ ((q_xi σ.1 x) : Int) (by omega) 6 (by omega)) (va_cwS 3 hts gA_scripts_L_dog rfl rfl rfl (by decide +kernel) ⟨Nat.le_of_ble_eq_true rfl, Nat.le_of_ble_eq_true rfl⟩) hG rfl hl.1 rfl (Nat.le_of_ble_eq_true rfl) dL_scripts_94 ⟨by omega, by omega⟩ ⟨Nat.le_of_ble_eq_true rfl, Nat.le_of_ble_eq_true rfl⟩ (fun z15 K16 H locs hp_94 hG => ?_)
        obtain ⟨hz_94, hK_94⟩ := hp_94
        replace hz_94 := hz_94.trans (a_dog_6 (σ := σ) (i := (q_xi σ.1 x)) (by omega))
        replace hz_94 := hz_94.symm; subst hz_94; replace hK_94 := hK_94.symm; subst hK_94
        refine lv_istore (lv' := [(4, .int (iZ (q_pl σ.1 (q_xi σ.1 x)))), (3, .int (iZ ((q_xi σ.1 x) : Int))), (2, .int (iZ 1)), (0, .ref (gad G 152)), (1, .int (iZ x))]) hx hb dL_scripts_97 hl (by decide) rfl (fun ls hl => ?_)
        refine lv_iload_n hx hb dL_scripts_99 rfl (lv_at hl 2 rfl) ?_
        refine lv_aload_n hx hb dL_scripts_100 rfl (lv_at hl 3 rfl) ?_
        refine lv_iconst (v := iZ 1) hx hb dL_scripts_101 rfl ?_
        refine lv_ldc2 (v := lZ (6000)) hx hb hown (by rw [show lZ (6000) = (6000 : Int64) from by decide]; exact hts (.constantLong RL 194 (6000)) (List.mem_cons_of_mem _ (List.mem_append_left _ (by decide +kernel)))) dL_scripts_102 ?_
        refine lv_ldc2 (v := lZ (100)) hx hb hown (by rw [show lZ (100) = (100 : Int64) from by decide]; exact hts (.constantLong RL 163 (100)) (List.mem_cons_of_mem _ (List.mem_append_left _ (by decide +kernel)))) dL_scripts_105 ?_
        refine lv_iconst (v := iZ 1) hx hb dL_scripts_108 rfl ?_
        refine lv_iload_n hx hb dL_scripts_109 rfl (lv_at hl 4 rfl) ?_
        refine lv_bipush (v := iZ (16)) hx hb dL_scripts_110 (by decide) ?_
        refine z_idiv (z := (x / 16)) hx hb (by omega) (by omega) rfl dL_scripts_112 ?_
        refine lv_bipush (v := iZ (9)) hx hb dL_scripts_113 (by decide) ?_
        refine z_irem (z := ((x / 16) % 9)) hx hb (by omega) (by omega) rfl dL_scripts_115 ?_
        refine z_iadd (z := (((x / 16) % 9) + 1)) hx hb (by omega) dL_scripts_116 ?_
        refine z_i2l hx hb (by omega) dL_scripts_117 ?_
        refine z_lmul (z := (100 * ((x / 16) % 9) + 100)) hx hb (by omega) dL_scripts_118 ?_
        refine z_ladd (z := (100 * ((x / 16) % 9) + 6100)) hx hb (by omega) dL_scripts_119 ?_
        refine lv_iload_n hx hb dL_scripts_120 rfl (lv_at hl 1 rfl) ?_
        refine z_i2l hx hb (by omega) dL_scripts_121 ?_
        refine z_ladd (z := (100 * ((x / 16) % 9) + ((q_xi σ.1 x) : Int) + 6100)) hx hb (by omega) dL_scripts_122 ?_
        refine g_cLW (As := [.ref (gad G 152), .int (iZ 1), .long (lZ (100 * ((x / 16) % 9) + ((q_xi σ.1 x) : Int) + 6100))]) (rest := [.int (iZ 1)]) (8) ⟨hx, hb, hml, hown, hts⟩ (c_L_tryScript l hl0 G hdm M0 σ hσ 1 (by omega) (100 * ((x / 16) % 9) + ((q_xi σ.1 x) : Int) + 6100) (by omega)) (vx_cwSW 3 hts gA_scripts_L_tryScript rfl rfl rfl (by decide +kernel) ⟨Nat.le_of_ble_eq_true rfl, Nat.le_of_ble_eq_true rfl⟩) hG rfl hl.1 rfl (Nat.le_of_ble_eq_true rfl) dL_scripts_123 ⟨by omega, by omega⟩ ⟨Nat.le_of_ble_eq_true rfl, Nat.le_of_ble_eq_true rfl⟩ (fun z17 K18 H locs hp_123 hG => ?_)
        obtain ⟨hz_123, hK_123⟩ := hp_123
        replace hz_123 := hz_123.trans (scr_place hσ.1.1 (i := (q_xi σ.1 x)) (c := x / 16 % 9) hxi.2 (by omega) (by omega))
        replace hz_123 := hz_123.symm; subst hz_123; replace hK_123 := hK_123.symm; subst hK_123
        have hy6 := yn (P := q_pl σ.1 (q_xi σ.1 x) = x / 16 % 9 + 1)
        have J_149 : ∀ (H : Heap) (locs : List Loc) (ls : Array Slot), gKH G M0 (kS σ) s H locs → lv_has ls 6 [(4, .int (iZ (q_pl σ.1 (q_xi σ.1 x)))), (3, .int (iZ ((q_xi σ.1 x) : Int))), (2, .int (iZ 1)), (0, .ref (gad G 152)), (1, .int (iZ x))] → W p l e ({ frames := 10, cells := 20, slots := 120, locals := 238 } : Room) s m [.ref (gad G 152), .int (iZ x)].toArray below meth c H locs (8) (6 * (8)) (gLQ below G M0 (fun z K1 => z = 1 ∧ K1 = kS σ) [.ref (gad G 152), .int (iZ x)] s 20) (F0 m 149 ls [.int (iZ 1)]) := by
          intro  H locs ls hG hl
          refine lv_aload_n hx hb dL_scripts_149 rfl (lv_at hl 3 rfl) ?_
          refine lv_iconst (v := iZ 1) hx hb dL_scripts_150 rfl ?_
          refine lv_ldc2 (v := lZ (3000)) hx hb hown (by rw [show lZ (3000) = (3000 : Int64) from by decide]; exact hts (.constantLong RL 196 (3000)) (List.mem_cons_of_mem _ (List.mem_append_left _ (by decide +kernel)))) dL_scripts_151 ?_
          refine lv_ldc2 (v := lZ (100)) hx hb hown (by rw [show lZ (100) = (100 : Int64) from by decide]; exact hts (.constantLong RL 163 (100)) (List.mem_cons_of_mem _ (List.mem_append_left _ (by decide +kernel)))) dL_scripts_154 ?_
          refine lv_iload_n hx hb dL_scripts_157 rfl (lv_at hl 4 rfl) ?_
          refine lv_sipush (v := iZ (256)) hx hb dL_scripts_158 (by decide) ?_
          refine z_idiv (z := (x / 256)) hx hb (by omega) (by omega) rfl dL_scripts_161 ?_
          refine lv_bipush (v := iZ (6)) hx hb dL_scripts_162 (by decide) ?_
          refine z_irem (z := ((x / 256) % 6)) hx hb (by omega) (by omega) rfl dL_scripts_164 ?_
          refine z_i2l hx hb (by omega) dL_scripts_165 ?_
          refine z_lmul (z := (100 * ((x / 256) % 6))) hx hb (by omega) dL_scripts_166 ?_
          refine z_ladd (z := (100 * ((x / 256) % 6) + 3000)) hx hb (by omega) dL_scripts_167 ?_
          refine lv_iload_n hx hb dL_scripts_168 rfl (lv_at hl 1 rfl) ?_
          refine z_i2l hx hb (by omega) dL_scripts_169 ?_
          refine z_ladd (z := (100 * ((x / 256) % 6) + ((q_xi σ.1 x) : Int) + 3000)) hx hb (by omega) dL_scripts_170 ?_
          refine g_cLW (As := [.ref (gad G 152), .int (iZ 1), .long (lZ (100 * ((x / 256) % 6) + ((q_xi σ.1 x) : Int) + 3000))]) (rest := [.int (iZ 1)]) (9) ⟨hx, hb, hml, hown, hts⟩ (c_L_tryScript l hl0 G hdm M0 σ hσ 1 (by omega) (100 * ((x / 256) % 6) + ((q_xi σ.1 x) : Int) + 3000) (by omega)) (vx_cwSW 3 hts gA_scripts_L_tryScript rfl rfl rfl (by decide +kernel) ⟨Nat.le_of_ble_eq_true rfl, Nat.le_of_ble_eq_true rfl⟩) hG rfl hl.1 rfl (Nat.le_of_ble_eq_true rfl) dL_scripts_171 ⟨by omega, by omega⟩ ⟨Nat.le_of_ble_eq_true rfl, Nat.le_of_ble_eq_true rfl⟩ (fun z19 K20 H locs hp_171 hG => ?_)
          obtain ⟨hz_171, hK_171⟩ := hp_171
          replace hz_171 := hz_171.trans (scr_brk hσ.1.1 (i := (q_xi σ.1 x)) (c := x / 256 % 6) hxi.2 (by omega) (by omega))
          replace hz_171 := hz_171.symm; subst hz_171; replace hK_171 := hK_171.symm; subst hK_171
          have hy3 := yn (P := q_sa σ.1 (q_xi σ.1 x) = 1)
          have J_193 : ∀ (H : Heap) (locs : List Loc) (ls : Array Slot), gKH G M0 (kS σ) s H locs → lv_has ls 6 [(4, .int (iZ (q_pl σ.1 (q_xi σ.1 x)))), (3, .int (iZ ((q_xi σ.1 x) : Int))), (2, .int (iZ 1)), (0, .ref (gad G 152)), (1, .int (iZ x))] → W p l e ({ frames := 10, cells := 20, slots := 120, locals := 238 } : Room) s m [.ref (gad G 152), .int (iZ x)].toArray below meth c H locs (10) (6 * (10)) (gLQ below G M0 (fun z K1 => z = 1 ∧ K1 = kS σ) [.ref (gad G 152), .int (iZ x)] s 20) (F0 m 193 ls [.int (iZ 1)]) := by
            intro  H locs ls hG hl
            refine lv_iconst (v := iZ 1) hx hb dL_scripts_193 rfl ?_
            refine lv_goto (tgt := 198) hx hb dL_scripts_194 (by decide) ?_
            refine z_iand_b hx hb (Or.inr rfl) dL_scripts_198 ?_
            refine lv_istore_n (lv' := [(2, .int (iZ 1)), (4, .int (iZ (q_pl σ.1 (q_xi σ.1 x)))), (3, .int (iZ ((q_xi σ.1 x) : Int))), (0, .ref (gad G 152)), (1, .int (iZ x))]) hx hb dL_scripts_199 rfl hl (by decide) rfl (fun ls hl => ?_)
            refine lv_iload_n hx hb dL_scripts_200 rfl (lv_at hl 0 rfl) ?_
            refine lv_aload_n hx hb dL_scripts_201 rfl (lv_at hl 3 rfl) ?_
            refine lv_iconst (v := iZ 2) hx hb dL_scripts_202 rfl ?_
            refine lv_ldc2 (v := lZ (2000)) hx hb hown (by rw [show lZ (2000) = (2000 : Int64) from by decide]; exact hts (.constantLong RL 198 (2000)) (List.mem_cons_of_mem _ (List.mem_append_left _ (by decide +kernel)))) dL_scripts_203 ?_
            refine lv_iload_n hx hb dL_scripts_206 rfl (lv_at hl 2 rfl) ?_
            refine z_i2l hx hb (by omega) dL_scripts_207 ?_
            refine z_ladd (z := (((q_xi σ.1 x) : Int) + 2000)) hx hb (by omega) dL_scripts_208 ?_
            refine lv_ldc2 (v := lZ (10000)) hx hb hown (by rw [show lZ (10000) = (10000 : Int64) from by decide]; exact hts (.constantLong RL 192 (10000)) (List.mem_cons_of_mem _ (List.mem_append_left _ (by decide +kernel)))) dL_scripts_209 ?_
            refine z_lmul (z := (10000 * ((q_xi σ.1 x) : Int) + 20000000)) hx hb (by omega) dL_scripts_212 ?_
            refine lv_ldc2 (v := lZ (2000)) hx hb hown (by rw [show lZ (2000) = (2000 : Int64) from by decide]; exact hts (.constantLong RL 198 (2000)) (List.mem_cons_of_mem _ (List.mem_append_left _ (by decide +kernel)))) dL_scripts_213 ?_
            refine z_ladd (z := (10000 * ((q_xi σ.1 x) : Int) + 20002000)) hx hb (by omega) dL_scripts_216 ?_
            refine lv_iload_n hx hb dL_scripts_217 rfl (lv_at hl 2 rfl) ?_
            refine z_i2l hx hb (by omega) dL_scripts_218 ?_
            refine z_ladd (z := (10001 * ((q_xi σ.1 x) : Int) + 20002000)) hx hb (by omega) dL_scripts_219 ?_
            refine g_cLW (As := [.ref (gad G 152), .int (iZ 2), .long (lZ (10001 * ((q_xi σ.1 x) : Int) + 20002000))]) (rest := [.int (iZ 1)]) (11) ⟨hx, hb, hml, hown, hts⟩ (c_L_tryScript l hl0 G hdm M0 σ hσ 2 (by omega) (10001 * ((q_xi σ.1 x) : Int) + 20002000) (by omega)) (vx_cwSW 3 hts gA_scripts_L_tryScript rfl rfl rfl (by decide +kernel) ⟨Nat.le_of_ble_eq_true rfl, Nat.le_of_ble_eq_true rfl⟩) hG rfl hl.1 rfl (Nat.le_of_ble_eq_true rfl) dL_scripts_220 ⟨by omega, by omega⟩ ⟨Nat.le_of_ble_eq_true rfl, Nat.le_of_ble_eq_true rfl⟩ (fun z21 K22 H locs hp_220 hG => ?_)
            obtain ⟨hz_220, hK_220⟩ := hp_220
            replace hz_220 := hz_220.trans (scr_gon hσ.1.1 (i := (q_xi σ.1 x)) hxi.2 (by omega))
            replace hz_220 := hz_220.symm; subst hz_220; replace hK_220 := hK_220.symm; subst hK_220
            have hy2 := y2 (P := q_sa σ.1 (q_xi σ.1 x) = 3)
            have J_241 : ∀ (H : Heap) (locs : List Loc) (ls : Array Slot), gKH G M0 (kS σ) s H locs → lv_has ls 6 [(2, .int (iZ 1)), (4, .int (iZ (q_pl σ.1 (q_xi σ.1 x)))), (3, .int (iZ ((q_xi σ.1 x) : Int))), (0, .ref (gad G 152)), (1, .int (iZ x))] → W p l e ({ frames := 10, cells := 20, slots := 120, locals := 238 } : Room) s m [.ref (gad G 152), .int (iZ x)].toArray below meth c H locs (12) (6 * (12)) (gLQ below G M0 (fun z K1 => z = 1 ∧ K1 = kS σ) [.ref (gad G 152), .int (iZ x)] s 20) (F0 m 241 ls [.int (iZ 1)]) := by
              intro  H locs ls hG hl
              refine lv_iconst (v := iZ 1) hx hb dL_scripts_241 rfl ?_
              refine lv_goto (tgt := 246) hx hb dL_scripts_242 (by decide) ?_
              refine z_iand_b hx hb (Or.inr rfl) dL_scripts_246 ?_
              refine lv_istore_n (lv' := [(2, .int (iZ 1)), (4, .int (iZ (q_pl σ.1 (q_xi σ.1 x)))), (3, .int (iZ ((q_xi σ.1 x) : Int))), (0, .ref (gad G 152)), (1, .int (iZ x))]) hx hb dL_scripts_247 rfl hl (by decide) rfl (fun ls hl => ?_)
              refine lv_bipush (v := iZ (60)) hx hb dL_scripts_248 (by decide) ?_
              refine lv_iload_n hx hb dL_scripts_250 rfl (lv_at hl 4 rfl) ?_
              refine lv_bipush (v := iZ (64)) hx hb dL_scripts_251 (by decide) ?_
              refine z_idiv (z := (x / 64)) hx hb (by omega) (by omega) rfl dL_scripts_253 ?_
              refine lv_sipush (v := iZ (541)) hx hb dL_scripts_254 (by decide) ?_
              refine z_irem (z := ((x / 64) % 541)) hx hb (by omega) (by omega) rfl dL_scripts_257 ?_
              refine z_iadd (z := (((x / 64) % 541) + 60)) hx hb (by omega) dL_scripts_258 ?_
              refine lv_istore (lv' := [(5, .int (iZ (((x / 64) % 541) + 60))), (2, .int (iZ 1)), (4, .int (iZ (q_pl σ.1 (q_xi σ.1 x)))), (3, .int (iZ ((q_xi σ.1 x) : Int))), (0, .ref (gad G 152)), (1, .int (iZ x))]) hx hb dL_scripts_259 hl (by decide) rfl (fun ls hl => ?_)
              refine lv_iload_n hx hb dL_scripts_261 rfl (lv_at hl 1 rfl) ?_
              refine z_if_eq (tgt := 309) hx hb (by decide) dL_scripts_262 (by decide) (fun c_262 => ?_) (fun c_262 => ?_)
              · exfalso; omega
              · skip
                refine lv_aload_n hx hb dL_scripts_265 rfl (lv_at hl 4 rfl) ?_
                refine lv_iconst (v := iZ 2) hx hb dL_scripts_266 rfl ?_
                refine lv_ldc2 (v := lZ (4000)) hx hb hown (by rw [show lZ (4000) = (4000 : Int64) from by decide]; exact hts (.constantLong RL 200 (4000)) (List.mem_cons_of_mem _ (List.mem_append_left _ (by decide +kernel)))) dL_scripts_267 ?_
                refine lv_iload hx hb dL_scripts_270 (lv_at hl 0 rfl) ?_
                refine z_i2l hx hb (by omega) dL_scripts_272 ?_
                refine z_ladd (z := (((x / 64) % 541) + 4060)) hx hb (by omega) dL_scripts_273 ?_
                refine lv_ldc2 (v := lZ (10000)) hx hb hown (by rw [show lZ (10000) = (10000 : Int64) from by decide]; exact hts (.constantLong RL 192 (10000)) (List.mem_cons_of_mem _ (List.mem_append_left _ (by decide +kernel)))) dL_scripts_274 ?_
                refine z_lmul (z := (10000 * ((x / 64) % 541) + 40600000)) hx hb (by omega) dL_scripts_277 ?_
                refine lv_ldc2 (v := lZ (9000)) hx hb hown (by rw [show lZ (9000) = (9000 : Int64) from by decide]; exact hts (.constantLong RL 188 (9000)) (List.mem_cons_of_mem _ (List.mem_append_left _ (by decide +kernel)))) dL_scripts_278 ?_
                refine z_ladd (z := (10000 * ((x / 64) % 541) + 40609000)) hx hb (by omega) dL_scripts_281 ?_
                refine lv_aload_n hx hb dL_scripts_282 rfl (lv_at hl 4 rfl) ?_
                refine lv_iconst (v := iZ 1) hx hb dL_scripts_283 rfl ?_
                refine g_cL (As := [.ref (gad G 152), .int (iZ 1)]) (rest := [.long (lZ (10000 * ((x / 64) % 541) + 40609000)), .int (iZ 2), .ref (gad G 152)]) (13) ⟨hx, hb, hml, hown, hts⟩ (c_L_about l hl0 G hdm M0 σ hσ 1 (by omega)) (va_cwS 2 hts gA_scripts_L_about rfl rfl rfl (by decide +kernel) ⟨Nat.le_of_ble_eq_true rfl, Nat.le_of_ble_eq_true rfl⟩) hG rfl hl.1 rfl (Nat.le_of_ble_eq_true rfl) dL_scripts_284 ⟨by omega, by omega⟩ ⟨Nat.le_of_ble_eq_true rfl, Nat.le_of_ble_eq_true rfl⟩ (fun z23 K24 H locs hp_284 hG => ?_)
                obtain ⟨hz_284, hK_284⟩ := hp_284
                replace hz_284 := hz_284.trans (a_about_1 σ)
                replace hz_284 := hz_284.symm; subst hz_284; replace hK_284 := hK_284.symm; subst hK_284
                refine z_if_ne (tgt := 294) hx hb (by omega) dL_scripts_287 (by decide) (fun c_287 => ?_) (fun c_287 => ?_)
                · skip
                  refine lv_iconst (v := iZ 0) hx hb dL_scripts_294 rfl ?_
                  refine z_i2l hx hb (by decide) dL_scripts_295 ?_
                  refine z_ladd (z := (10000 * ((x / 64) % 541) + 40609000)) hx hb (by omega) dL_scripts_296 ?_
                  refine g_cLW (As := [.ref (gad G 152), .int (iZ 2), .long (lZ (10000 * ((x / 64) % 541) + 40609000))]) (rest := []) (14) ⟨hx, hb, hml, hown, hts⟩ (c_L_tryScript l hl0 G hdm M0 σ hσ 2 (by omega) (10000 * ((x / 64) % 541) + 40609000) (by omega)) (vx_cwSW 3 hts gA_scripts_L_tryScript rfl rfl rfl (by decide +kernel) ⟨Nat.le_of_ble_eq_true rfl, Nat.le_of_ble_eq_true rfl⟩) hG rfl hl.1 rfl (Nat.le_of_ble_eq_true rfl) dL_scripts_297 ⟨by omega, by omega⟩ ⟨Nat.le_of_ble_eq_true rfl, Nat.le_of_ble_eq_true rfl⟩ (fun z25 K26 H locs hp_297 hG => ?_)
                  obtain ⟨hz_297, hK_297⟩ := hp_297
                  replace hz_297 := hz_297.trans (scr_day hσ.1.1 (d := x / 64 % 541 + 60) (by omega) (by first | rw [if_pos (by omega)]; omega | rw [if_neg (by omega)]; omega))
                  replace hz_297 := hz_297.symm; subst hz_297; replace hK_297 := hK_297.symm; subst hK_297
                  refine lv_bipush (v := iZ (-9)) hx hb dL_scripts_300 (by decide) ?_
                  refine z_icmp_ne (tgt := 309) hx hb (by decide) (by decide) dL_scripts_302 (by decide) (fun c_302 => ?_) (fun c_302 => ?_)
                  · exfalso; omega
                  · skip
                    refine lv_iconst (v := iZ 1) hx hb dL_scripts_305 rfl ?_
                    refine lv_goto (tgt := 310) hx hb dL_scripts_306 (by decide) ?_
                    exact g_zretL (z := 1) hx hb hr hG hlocks (Or.inr rfl) (⟨rfl, rfl⟩) ⟨by omega, by omega⟩ dL_scripts_310
                · skip
                  refine lv_iconst (v := iZ 1) hx hb dL_scripts_290 rfl ?_
                  refine lv_goto (tgt := 295) hx hb dL_scripts_291 (by decide) ?_
                  refine z_i2l hx hb (by decide) dL_scripts_295 ?_
                  refine z_ladd (z := (10000 * ((x / 64) % 541) + 40609001)) hx hb (by omega) dL_scripts_296 ?_
                  refine g_cLW (As := [.ref (gad G 152), .int (iZ 2), .long (lZ (10000 * ((x / 64) % 541) + 40609001))]) (rest := []) (14) ⟨hx, hb, hml, hown, hts⟩ (c_L_tryScript l hl0 G hdm M0 σ hσ 2 (by omega) (10000 * ((x / 64) % 541) + 40609001) (by omega)) (vx_cwSW 3 hts gA_scripts_L_tryScript rfl rfl rfl (by decide +kernel) ⟨Nat.le_of_ble_eq_true rfl, Nat.le_of_ble_eq_true rfl⟩) hG rfl hl.1 rfl (Nat.le_of_ble_eq_true rfl) dL_scripts_297 ⟨by omega, by omega⟩ ⟨Nat.le_of_ble_eq_true rfl, Nat.le_of_ble_eq_true rfl⟩ (fun z27 K28 H locs hp_297 hG => ?_)
                  obtain ⟨hz_297, hK_297⟩ := hp_297
                  replace hz_297 := hz_297.trans (scr_day hσ.1.1 (d := x / 64 % 541 + 60) (by omega) (by first | rw [if_pos (by omega)]; omega | rw [if_neg (by omega)]; omega))
                  replace hz_297 := hz_297.symm; subst hz_297; replace hK_297 := hK_297.symm; subst hK_297
                  refine lv_bipush (v := iZ (-9)) hx hb dL_scripts_300 (by decide) ?_
                  refine z_icmp_ne (tgt := 309) hx hb (by decide) (by decide) dL_scripts_302 (by decide) (fun c_302 => ?_) (fun c_302 => ?_)
                  · exfalso; omega
                  · skip
                    refine lv_iconst (v := iZ 1) hx hb dL_scripts_305 rfl ?_
                    refine lv_goto (tgt := 310) hx hb dL_scripts_306 (by decide) ?_
                    exact g_zretL (z := 1) hx hb hr hG hlocks (Or.inr rfl) (⟨rfl, rfl⟩) ⟨by omega, by omega⟩ dL_scripts_310
            refine lv_aload_n hx hb dL_scripts_223 rfl (lv_at hl 3 rfl) ?_
            refine lv_iload_n hx hb dL_scripts_224 rfl (lv_at hl 2 rfl) ?_
            refine lv_iconst (v := iZ 2) hx hb dL_scripts_225 rfl ?_
            refine g_cL (As := [.ref (gad G 152), .int (iZ ((q_xi σ.1 x) : Int)), .int (iZ 2)]) (rest := [.int (iZ (q_y2 (decide (q_sa σ.1 (q_xi σ.1 x) = 3)))), .int (iZ 1)]) (12) ⟨hx, hb, hml, hown, hts⟩ (c_L_dog l hl0 G hdm M0 σ hσ ((q_xi σ.1 x) : Int) (by omega) 2 (by omega)) (va_cwS 3 hts gA_scripts_L_dog rfl rfl rfl (by decide +kernel) ⟨Nat.le_of_ble_eq_true rfl, Nat.le_of_ble_eq_true rfl⟩) hG rfl hl.1 rfl (Nat.le_of_ble_eq_true rfl) dL_scripts_226 ⟨by omega, by omega⟩ ⟨Nat.le_of_ble_eq_true rfl, Nat.le_of_ble_eq_true rfl⟩ (fun z29 K30 H locs hp_226 hG => ?_)
            obtain ⟨hz_226, hK_226⟩ := hp_226
            replace hz_226 := hz_226.trans (a_dog_2 (σ := σ) (i := (q_xi σ.1 x)) (by omega))
            replace hz_226 := hz_226.symm; subst hz_226; replace hK_226 := hK_226.symm; subst hK_226
            refine lv_iconst (v := iZ 3) hx hb dL_scripts_229 rfl ?_
            refine z_icmp_ne (tgt := 237) hx hb (by omega) (by decide) dL_scripts_230 (by decide) (fun c_230 => ?_) (fun c_230 => ?_)
            · skip
              refine lv_iconst (v := iZ 1) hx hb dL_scripts_237 rfl ?_
              refine z_icmp_ne (tgt := 245) hx hb (by omega) (by decide) dL_scripts_238 (by decide) (fun c_238 => ?_) (fun c_238 => ?_)
              · exfalso; omega
              · skip
                refine W.widen (k := 12) (n := 6 * (12)) (by omega) (by omega) ?_
                exact J_241  _ _ _ hG (lv_sub hl [0, 1, 2, 3, 4] rfl)
            · skip
              refine lv_iconst (v := iZ 0) hx hb dL_scripts_233 rfl ?_
              refine lv_goto (tgt := 238) hx hb dL_scripts_234 (by decide) ?_
              refine z_icmp_ne (tgt := 245) hx hb (by omega) (by decide) dL_scripts_238 (by decide) (fun c_238 => ?_) (fun c_238 => ?_)
              · exfalso; omega
              · skip
                refine W.widen (k := 12) (n := 6 * (12)) (by omega) (by omega) ?_
                exact J_241  _ _ _ hG (lv_sub hl [0, 1, 2, 3, 4] rfl)
          refine lv_aload_n hx hb dL_scripts_174 rfl (lv_at hl 3 rfl) ?_
          refine lv_iload_n hx hb dL_scripts_175 rfl (lv_at hl 1 rfl) ?_
          refine lv_iconst (v := iZ 2) hx hb dL_scripts_176 rfl ?_
          refine g_cL (As := [.ref (gad G 152), .int (iZ ((q_xi σ.1 x) : Int)), .int (iZ 2)]) (rest := [.int (iZ (q_yn (decide (q_sa σ.1 (q_xi σ.1 x) = 1)))), .int (iZ 1)]) (10) ⟨hx, hb, hml, hown, hts⟩ (c_L_dog l hl0 G hdm M0 σ hσ ((q_xi σ.1 x) : Int) (by omega) 2 (by omega)) (va_cwS 3 hts gA_scripts_L_dog rfl rfl rfl (by decide +kernel) ⟨Nat.le_of_ble_eq_true rfl, Nat.le_of_ble_eq_true rfl⟩) hG rfl hl.1 rfl (Nat.le_of_ble_eq_true rfl) dL_scripts_177 ⟨by omega, by omega⟩ ⟨Nat.le_of_ble_eq_true rfl, Nat.le_of_ble_eq_true rfl⟩ (fun z31 K32 H locs hp_177 hG => ?_)
          obtain ⟨hz_177, hK_177⟩ := hp_177
          replace hz_177 := hz_177.trans (a_dog_2 (σ := σ) (i := (q_xi σ.1 x)) (by omega))
          replace hz_177 := hz_177.symm; subst hz_177; replace hK_177 := hK_177.symm; subst hK_177
          refine lv_iconst (v := iZ 1) hx hb dL_scripts_180 rfl ?_
          refine z_icmp_ne (tgt := 189) hx hb (by omega) (by decide) dL_scripts_181 (by decide) (fun c_181 => ?_) (fun c_181 => ?_)
          · skip
            refine lv_iconst (v := iZ 0) hx hb dL_scripts_189 rfl ?_
            refine z_icmp_ne (tgt := 197) hx hb (by omega) (by decide) dL_scripts_190 (by decide) (fun c_190 => ?_) (fun c_190 => ?_)
            · exfalso; omega
            · skip
              refine W.widen (k := 10) (n := 6 * (10)) (by omega) (by omega) ?_
              exact J_193  _ _ _ hG (lv_sub hl [0, 1, 2, 3, 4] rfl)
          · skip
            refine lv_bipush (v := iZ (-9)) hx hb dL_scripts_184 (by decide) ?_
            refine lv_goto (tgt := 190) hx hb dL_scripts_186 (by decide) ?_
            refine z_icmp_ne (tgt := 197) hx hb (by omega) (by decide) dL_scripts_190 (by decide) (fun c_190 => ?_) (fun c_190 => ?_)
            · exfalso; omega
            · skip
              refine W.widen (k := 10) (n := 6 * (10)) (by omega) (by omega) ?_
              exact J_193  _ _ _ hG (lv_sub hl [0, 1, 2, 3, 4] rfl)
        refine lv_iload hx hb dL_scripts_126 (lv_at hl 0 rfl) ?_
        refine lv_iconst (v := iZ 1) hx hb dL_scripts_128 rfl ?_
        refine lv_iload_n hx hb dL_scripts_129 rfl (lv_at hl 4 rfl) ?_
        refine lv_bipush (v := iZ (16)) hx hb dL_scripts_130 (by decide) ?_
        refine z_idiv (z := (x / 16)) hx hb (by omega) (by omega) rfl dL_scripts_132 ?_
        refine lv_bipush (v := iZ (9)) hx hb dL_scripts_133 (by decide) ?_
        refine z_irem (z := ((x / 16) % 9)) hx hb (by omega) (by omega) rfl dL_scripts_135 ?_
        refine z_iadd (z := (((x / 16) % 9) + 1)) hx hb (by omega) dL_scripts_136 ?_
        refine z_icmp_ne (tgt := 145) hx hb (by omega) (by omega) dL_scripts_137 (by decide) (fun c_137 => ?_) (fun c_137 => ?_)
        · skip
          refine lv_iconst (v := iZ 0) hx hb dL_scripts_145 rfl ?_
          refine z_icmp_ne (tgt := 197) hx hb (by omega) (by decide) dL_scripts_146 (by decide) (fun c_146 => ?_) (fun c_146 => ?_)
          · exfalso; omega
          · skip
            refine W.widen (k := 8) (n := 6 * (8)) (by omega) (by omega) ?_
            exact J_149  _ _ _ hG (lv_sub hl [0, 1, 2, 3, 4] rfl)
        · skip
          refine lv_bipush (v := iZ (-9)) hx hb dL_scripts_140 (by decide) ?_
          refine lv_goto (tgt := 146) hx hb dL_scripts_142 (by decide) ?_
          refine z_icmp_ne (tgt := 197) hx hb (by omega) (by decide) dL_scripts_146 (by decide) (fun c_146 => ?_) (fun c_146 => ?_)
          · exfalso; omega
          · skip
            refine W.widen (k := 8) (n := 6 * (8)) (by omega) (by omega) ?_
            exact J_149  _ _ _ hG (lv_sub hl [0, 1, 2, 3, 4] rfl)
