set_option maxHeartbeats 4000000 in
set_option maxRecDepth 100000 in
theorem c_L_act (l : Launch) (hl0 : l.stackTraces = false) (G : gG) (hdm : ∀ k, k < 169 → gdm G k) (M0 : Nat → Nat → Int) (σ : gS) (hσ : s_ok σ) (x : Int) (hx9 : 0 ≤ x ∧ x < 2147483648) (y : Int) (hy9 : 0 ≤ y ∧ y < 2147483648)  : gML l yL_act wA_act ({ frames := 10, cells := 3, slots := 18, locals := 237 } : Room) 3 G M0 (kS σ) [.ref (gad G 152), .int (iZ x), .int (iZ y)] (fun z K1 => z = (q_acg σ y (x % 16)).1 ∧ K1 = kS (q_acg σ y (x % 16)).2) := by
  refine gML_of (cc := cL_act) (maxL := 4) (ret := some .int) (by decide) rfl (Nat.le_of_ble_eq_true rfl) ?_
  intro p e s m below meth c ls hx hb hr hml hown hts hlocks hl hG
  have hown : s.vm.findClass RL = some m.cls := hown
  have hl : lv_has ls 4 [(0, .ref (gad G 152)), (1, .int (iZ x)), (2, .int (iZ y))] := hl
  have hnd : 1 ≤ q_nd σ.1 ∧ q_nd σ.1 ≤ 12 := ⟨hσ.1.2.2, hσ.1.1.1.2⟩
  have hyn : 0 ≤ y % q_nd σ.1 ∧ y % q_nd σ.1 < q_nd σ.1 := ⟨Int.emod_nonneg _ (by omega), Int.emod_lt_of_pos _ (by omega)⟩
  have hpv := pv6 (y / 64)
  refine lv_aload_n hx hb dL_act_0 rfl (lv_at hl 0 rfl) ?_
  refine lv_iconst (v := iZ 0) hx hb dL_act_1 rfl ?_
  refine g_cL (As := [.ref (gad G 152), .int (iZ 0)]) (rest := []) (1) ⟨hx, hb, hml, hown, hts⟩ (c_L_about l hl0 G hdm M0 σ hσ 0 (by omega)) (va_cwS 2 hts gA_act_L_about rfl rfl rfl (by decide +kernel) ⟨Nat.le_of_ble_eq_true rfl, Nat.le_of_ble_eq_true rfl⟩) hG rfl hl.1 rfl (Nat.le_of_ble_eq_true rfl) dL_act_2 ⟨by omega, by omega⟩ ⟨Nat.le_of_ble_eq_true rfl, Nat.le_of_ble_eq_true rfl⟩ (fun z1 K2 H locs hp_2 hG => ?_)
  obtain ⟨hz_2, hK_2⟩ := hp_2
  replace hz_2 := hz_2.trans (a_about_0 σ)
  replace hz_2 := hz_2.symm; subst hz_2; replace hK_2 := hK_2.symm; subst hK_2
  refine lv_istore_n (lv' := [(3, .int (iZ (q_nd σ.1))), (0, .ref (gad G 152)), (1, .int (iZ x)), (2, .int (iZ y))]) hx hb dL_act_5 rfl hl (by decide) rfl (fun ls hl => ?_)
  refine lv_iload_n hx hb dL_act_6 rfl (lv_at hl 2 rfl) ?_
  refine lv_bipush (v := iZ (16)) hx hb dL_act_7 (by decide) ?_
  refine z_irem (z := (x % 16)) hx hb (by omega) (by omega) rfl dL_act_9 ?_
  have hsw : (iZ (x % 16)).toInt = (x % 16) := iZ_int (by omega)
  by_cases c_sw : (x % 16) < 0 ∨ 9 < (x % 16)
  · refine lv_tableOut (tgt := 222) hx hb dL_act_10 (by rw [hsw]; exact c_sw) (by decide) ?_
    refine lv_aload_n hx hb dL_act_222 rfl (lv_at hl 1 rfl) ?_
    refine lv_iload_n hx hb dL_act_223 rfl (lv_at hl 3 rfl) ?_
    refine lv_bipush (v := iZ (64)) hx hb dL_act_224 (by decide) ?_
    refine z_idiv (z := (y / 64)) hx hb (by omega) (by omega) rfl dL_act_226 ?_
    refine g_cLl (As := [.int (iZ (y / 64))]) (rest := [.ref (gad G 152)]) (1) ⟨hx, hb, hml, hown, hts⟩ (c_L_points l hl0 G hdm M0 (kS σ) (y / 64) (by omega)) (va_cwS 1 hts gA_act_L_points rfl rfl rfl (by decide +kernel) ⟨Nat.le_of_ble_eq_true rfl, Nat.le_of_ble_eq_true rfl⟩) hG rfl hl.1 rfl (Nat.le_of_ble_eq_true rfl) dL_act_227 ⟨by omega, by omega⟩ ⟨Nat.le_of_ble_eq_true rfl, Nat.le_of_ble_eq_true rfl⟩ (fun z3 K4 H locs hp_227 hG => ?_)
    obtain ⟨hz_227, hK_227⟩ := hp_227
    replace hz_227 := hz_227.symm; subst hz_227; replace hK_227 := hK_227.symm; subst hK_227
    refine lv_iconst (v := iZ 1) hx hb dL_act_230 rfl ?_
    refine lv_iload_n hx hb dL_act_231 rfl (lv_at hl 3 rfl) ?_
    refine lv_bipush (v := iZ (30)) hx hb dL_act_232 (by decide) ?_
    refine z_irem (z := (y % 30)) hx hb (by omega) (by omega) rfl dL_act_234 ?_
    refine z_iadd (z := ((y % 30) + 1)) hx hb (by omega) dL_act_235 ?_
    refine g_cLW (As := [.ref (gad G 152), .long (lZ (q_pv (y / 64) 6)), .int (iZ ((y % 30) + 1))]) (rest := []) (2) ⟨hx, hb, hml, hown, hts⟩ (c_L_tryRun l hl0 G hdm M0 σ hσ (q_pv (y / 64) 6) (by omega) ((y % 30) + 1) (by omega)) (vx_cwSW 3 hts gA_act_L_tryRun rfl rfl rfl (by decide +kernel) ⟨Nat.le_of_ble_eq_true rfl, Nat.le_of_ble_eq_true rfl⟩) hG rfl hl.1 rfl (Nat.le_of_ble_eq_true rfl) dL_act_236 ⟨by omega, by omega⟩ ⟨Nat.le_of_ble_eq_true rfl, Nat.le_of_ble_eq_true rfl⟩ (fun z5 K6 H locs hp_236 hG => ?_)
    obtain ⟨hz_236, hK_236⟩ := hp_236
    replace hz_236 := hz_236.symm; subst hz_236; replace hK_236 := hK_236.symm; subst hK_236
    exact g_iretL (z := (a_run σ (q_pv (y / 64) 6) ((y % 30) + 1))) hx hb hr hG hlocks (⟨by rw [acg_run σ y c_sw], by rw [acg_run σ y c_sw]⟩) ⟨by omega, by omega⟩ dL_act_239
  · rcases (show (x % 16) = 0 ∨ 0 < (x % 16) by omega) with e_sw | e_sw
    · skip
      refine lv_tableIn (off := 54) (tgt := 64) hx hb dL_act_10 (by rw [hsw]; omega) (by rw [hsw]; omega) (by rw [hsw, e_sw]; rfl) (by decide) ?_
      refine lv_aload_n hx hb dL_act_64 rfl (lv_at hl 1 rfl) ?_
      refine lv_bipush (v := iZ (7)) hx hb dL_act_65 (by decide) ?_
      refine lv_iload_n hx hb dL_act_67 rfl (lv_at hl 3 rfl) ?_
      refine lv_bipush (v := iZ (6)) hx hb dL_act_68 (by decide) ?_
      refine z_irem (z := (y % 6)) hx hb (by omega) (by omega) rfl dL_act_70 ?_
      refine lv_iconst (v := iZ 1) hx hb dL_act_71 rfl ?_
      refine lv_iload_n hx hb dL_act_72 rfl (lv_at hl 3 rfl) ?_
      refine lv_bipush (v := iZ (8)) hx hb dL_act_73 (by decide) ?_
      refine z_idiv (z := (y / 8)) hx hb (by omega) (by omega) rfl dL_act_75 ?_
      refine lv_bipush (v := iZ (99)) hx hb dL_act_76 (by decide) ?_
      refine z_irem (z := ((y / 8) % 99)) hx hb (by omega) (by omega) rfl dL_act_78 ?_
      refine z_iadd (z := (((y / 8) % 99) + 1)) hx hb (by omega) dL_act_79 ?_
      refine lv_iconst (v := iZ 0) hx hb dL_act_80 rfl ?_
      refine lv_iconst (v := iZ 0) hx hb dL_act_81 rfl ?_
      refine g_cL (As := [.ref (gad G 152), .int (iZ 7), .int (iZ (y % 6)), .int (iZ (((y / 8) % 99) + 1)), .int (iZ 0), .int (iZ 0)]) (rest := []) (2) ⟨hx, hb, hml, hown, hts⟩ (c_L_call_Enter l hl0 G hdm M0 σ hσ (y % 6) (by omega) (((y / 8) % 99) + 1) (by omega) 0 0) (va_cwS 6 hts gA_act_L_call rfl rfl rfl (by decide +kernel) ⟨Nat.le_of_ble_eq_true rfl, Nat.le_of_ble_eq_true rfl⟩) hG rfl hl.1 rfl (Nat.le_of_ble_eq_true rfl) dL_act_82 ⟨by omega, by omega⟩ ⟨Nat.le_of_ble_eq_true rfl, Nat.le_of_ble_eq_true rfl⟩ (fun z7 K8 H locs hp_82 hG => ?_)
      obtain ⟨hz_82, hK_82⟩ := hp_82
      replace hz_82 := hz_82.symm; subst hz_82; replace hK_82 := hK_82.symm; subst hK_82
      exact g_iretL (z := (a_enter σ (y % 6) (((y / 8) % 99) + 1))) hx hb hr hG hlocks (⟨by rw [e_sw]; rfl, by rw [e_sw]; rfl⟩) ⟨by omega, by omega⟩ dL_act_85
    · rcases (show (x % 16) = 1 ∨ 1 < (x % 16) by omega) with e_sw | e_sw
      · skip
        refine lv_tableIn (off := 76) (tgt := 86) hx hb dL_act_10 (by rw [hsw]; omega) (by rw [hsw]; omega) (by rw [hsw, e_sw]; rfl) (by decide) ?_
        refine lv_aload_n hx hb dL_act_86 rfl (lv_at hl 1 rfl) ?_
        refine lv_bipush (v := iZ (8)) hx hb dL_act_87 (by decide) ?_
        refine lv_iload_n hx hb dL_act_89 rfl (lv_at hl 3 rfl) ?_
        refine lv_iload_n hx hb dL_act_90 rfl (lv_at hl 0 rfl) ?_
        refine z_irem (z := (y % (q_nd σ.1))) hx hb (by omega) (by omega) rfl dL_act_91 ?_
        refine lv_iconst (v := iZ 0) hx hb dL_act_92 rfl ?_
        refine lv_iconst (v := iZ 0) hx hb dL_act_93 rfl ?_
        refine lv_iconst (v := iZ 0) hx hb dL_act_94 rfl ?_
        refine g_cL (As := [.ref (gad G 152), .int (iZ 8), .int (iZ (y % (q_nd σ.1))), .int (iZ 0), .int (iZ 0), .int (iZ 0)]) (rest := []) (2) ⟨hx, hb, hml, hown, hts⟩ (c_L_call_Withdraw l hl0 G hdm M0 σ hσ (y % (q_nd σ.1)) (by omega) 0 0 0) (va_cwS 6 hts gA_act_L_call rfl rfl rfl (by decide +kernel) ⟨Nat.le_of_ble_eq_true rfl, Nat.le_of_ble_eq_true rfl⟩) hG rfl hl.1 rfl (Nat.le_of_ble_eq_true rfl) dL_act_95 ⟨by omega, by omega⟩ ⟨Nat.le_of_ble_eq_true rfl, Nat.le_of_ble_eq_true rfl⟩ (fun z9 K10 H locs hp_95 hG => ?_)
        obtain ⟨hz_95, hK_95⟩ := hp_95
        replace hz_95 := hz_95.symm; subst hz_95; replace hK_95 := hK_95.symm; subst hK_95
        exact g_iretL (z := (a_withdraw σ (y % (q_nd σ.1)))) hx hb hr hG hlocks (⟨by rw [e_sw]; rfl, by rw [e_sw]; rfl⟩) ⟨by omega, by omega⟩ dL_act_98
      · rcases (show (x % 16) = 2 ∨ 2 < (x % 16) by omega) with e_sw | e_sw
        · skip
          refine lv_tableIn (off := 89) (tgt := 99) hx hb dL_act_10 (by rw [hsw]; omega) (by rw [hsw]; omega) (by rw [hsw, e_sw]; rfl) (by decide) ?_
          refine lv_aload_n hx hb dL_act_99 rfl (lv_at hl 1 rfl) ?_
          refine lv_bipush (v := iZ (9)) hx hb dL_act_100 (by decide) ?_
          refine lv_iload_n hx hb dL_act_102 rfl (lv_at hl 3 rfl) ?_
          refine lv_iload_n hx hb dL_act_103 rfl (lv_at hl 0 rfl) ?_
          refine z_irem (z := (y % (q_nd σ.1))) hx hb (by omega) (by omega) rfl dL_act_104 ?_
          refine lv_iload_n hx hb dL_act_105 rfl (lv_at hl 3 rfl) ?_
          refine lv_bipush (v := iZ (16)) hx hb dL_act_106 (by decide) ?_
          refine z_idiv (z := (y / 16)) hx hb (by omega) (by omega) rfl dL_act_108 ?_
          refine lv_bipush (v := iZ (6)) hx hb dL_act_109 (by decide) ?_
          refine z_irem (z := ((y / 16) % 6)) hx hb (by omega) (by omega) rfl dL_act_111 ?_
          refine lv_iconst (v := iZ 0) hx hb dL_act_112 rfl ?_
          refine lv_iconst (v := iZ 0) hx hb dL_act_113 rfl ?_
          refine g_cL (As := [.ref (gad G 152), .int (iZ 9), .int (iZ (y % (q_nd σ.1))), .int (iZ ((y / 16) % 6)), .int (iZ 0), .int (iZ 0)]) (rest := []) (2) ⟨hx, hb, hml, hown, hts⟩ (c_L_call_Interfere l hl0 G hdm M0 σ hσ (y % (q_nd σ.1)) (by omega) ((y / 16) % 6) (by omega) 0 0) (va_cwS 6 hts gA_act_L_call rfl rfl rfl (by decide +kernel) ⟨Nat.le_of_ble_eq_true rfl, Nat.le_of_ble_eq_true rfl⟩) hG rfl hl.1 rfl (Nat.le_of_ble_eq_true rfl) dL_act_114 ⟨by omega, by omega⟩ ⟨Nat.le_of_ble_eq_true rfl, Nat.le_of_ble_eq_true rfl⟩ (fun z11 K12 H locs hp_114 hG => ?_)
          obtain ⟨hz_114, hK_114⟩ := hp_114
          replace hz_114 := hz_114.symm; subst hz_114; replace hK_114 := hK_114.symm; subst hK_114
          exact g_iretL (z := (a_interfere σ (y % (q_nd σ.1)) ((y / 16) % 6))) hx hb hr hG hlocks (⟨by rw [e_sw]; rfl, by rw [e_sw]; rfl⟩) ⟨by omega, by omega⟩ dL_act_117
        · rcases (show (x % 16) = 3 ∨ 3 < (x % 16) by omega) with e_sw | e_sw
          · skip
            refine lv_tableIn (off := 89) (tgt := 99) hx hb dL_act_10 (by rw [hsw]; omega) (by rw [hsw]; omega) (by rw [hsw, e_sw]; rfl) (by decide) ?_
            refine lv_aload_n hx hb dL_act_99 rfl (lv_at hl 1 rfl) ?_
            refine lv_bipush (v := iZ (9)) hx hb dL_act_100 (by decide) ?_
            refine lv_iload_n hx hb dL_act_102 rfl (lv_at hl 3 rfl) ?_
            refine lv_iload_n hx hb dL_act_103 rfl (lv_at hl 0 rfl) ?_
            refine z_irem (z := (y % (q_nd σ.1))) hx hb (by omega) (by omega) rfl dL_act_104 ?_
            refine lv_iload_n hx hb dL_act_105 rfl (lv_at hl 3 rfl) ?_
            refine lv_bipush (v := iZ (16)) hx hb dL_act_106 (by decide) ?_
            refine z_idiv (z := (y / 16)) hx hb (by omega) (by omega) rfl dL_act_108 ?_
            refine lv_bipush (v := iZ (6)) hx hb dL_act_109 (by decide) ?_
            refine z_irem (z := ((y / 16) % 6)) hx hb (by omega) (by omega) rfl dL_act_111 ?_
            refine lv_iconst (v := iZ 0) hx hb dL_act_112 rfl ?_
            refine lv_iconst (v := iZ 0) hx hb dL_act_113 rfl ?_
            refine g_cL (As := [.ref (gad G 152), .int (iZ 9), .int (iZ (y % (q_nd σ.1))), .int (iZ ((y / 16) % 6)), .int (iZ 0), .int (iZ 0)]) (rest := []) (2) ⟨hx, hb, hml, hown, hts⟩ (c_L_call_Interfere l hl0 G hdm M0 σ hσ (y % (q_nd σ.1)) (by omega) ((y / 16) % 6) (by omega) 0 0) (va_cwS 6 hts gA_act_L_call rfl rfl rfl (by decide +kernel) ⟨Nat.le_of_ble_eq_true rfl, Nat.le_of_ble_eq_true rfl⟩) hG rfl hl.1 rfl (Nat.le_of_ble_eq_true rfl) dL_act_114 ⟨by omega, by omega⟩ ⟨Nat.le_of_ble_eq_true rfl, Nat.le_of_ble_eq_true rfl⟩ (fun z13 K14 H locs hp_114 hG => ?_)
            obtain ⟨hz_114, hK_114⟩ := hp_114
            replace hz_114 := hz_114.symm; subst hz_114; replace hK_114 := hK_114.symm; subst hK_114
            exact g_iretL (z := (a_interfere σ (y % (q_nd σ.1)) ((y / 16) % 6))) hx hb hr hG hlocks (⟨by rw [e_sw]; rfl, by rw [e_sw]; rfl⟩) ⟨by omega, by omega⟩ dL_act_117
          · rcases (show (x % 16) = 4 ∨ 4 < (x % 16) by omega) with e_sw | e_sw
            · skip
              refine lv_tableIn (off := 108) (tgt := 118) hx hb dL_act_10 (by rw [hsw]; omega) (by rw [hsw]; omega) (by rw [hsw, e_sw]; rfl) (by decide) ?_
              refine lv_aload_n hx hb dL_act_118 rfl (lv_at hl 1 rfl) ?_
              refine lv_bipush (v := iZ (10)) hx hb dL_act_119 (by decide) ?_
              refine lv_bipush (v := iZ (60)) hx hb dL_act_121 (by decide) ?_
              refine lv_iload_n hx hb dL_act_123 rfl (lv_at hl 3 rfl) ?_
              refine lv_sipush (v := iZ (541)) hx hb dL_act_124 (by decide) ?_
              refine z_irem (z := (y % 541)) hx hb (by omega) (by omega) rfl dL_act_127 ?_
              refine z_iadd (z := ((y % 541) + 60)) hx hb (by omega) dL_act_128 ?_
              refine lv_iconst (v := iZ 0) hx hb dL_act_129 rfl ?_
              refine lv_iconst (v := iZ 0) hx hb dL_act_130 rfl ?_
              refine lv_iconst (v := iZ 0) hx hb dL_act_131 rfl ?_
              refine g_cL (As := [.ref (gad G 152), .int (iZ 10), .int (iZ ((y % 541) + 60)), .int (iZ 0), .int (iZ 0), .int (iZ 0)]) (rest := []) (2) ⟨hx, hb, hml, hown, hts⟩ (c_L_call_Next l hl0 G hdm M0 σ hσ ((y % 541) + 60) (by omega) 0 0 0) (va_cwS 6 hts gA_act_L_call rfl rfl rfl (by decide +kernel) ⟨Nat.le_of_ble_eq_true rfl, Nat.le_of_ble_eq_true rfl⟩) hG rfl hl.1 rfl (Nat.le_of_ble_eq_true rfl) dL_act_132 ⟨by omega, by omega⟩ ⟨Nat.le_of_ble_eq_true rfl, Nat.le_of_ble_eq_true rfl⟩ (fun z15 K16 H locs hp_132 hG => ?_)
              obtain ⟨hz_132, hK_132⟩ := hp_132
              replace hz_132 := hz_132.symm; subst hz_132; replace hK_132 := hK_132.symm; subst hK_132
              exact g_iretL (z := (a_next σ ((y % 541) + 60))) hx hb hr hG hlocks (⟨by rw [e_sw]; rfl, by rw [e_sw]; rfl⟩) ⟨by omega, by omega⟩ dL_act_135
            · rcases (show (x % 16) = 5 ∨ 5 < (x % 16) by omega) with e_sw | e_sw
              · skip
                refine lv_tableIn (off := 108) (tgt := 118) hx hb dL_act_10 (by rw [hsw]; omega) (by rw [hsw]; omega) (by rw [hsw, e_sw]; rfl) (by decide) ?_
                refine lv_aload_n hx hb dL_act_118 rfl (lv_at hl 1 rfl) ?_
                refine lv_bipush (v := iZ (10)) hx hb dL_act_119 (by decide) ?_
                refine lv_bipush (v := iZ (60)) hx hb dL_act_121 (by decide) ?_
                refine lv_iload_n hx hb dL_act_123 rfl (lv_at hl 3 rfl) ?_
                refine lv_sipush (v := iZ (541)) hx hb dL_act_124 (by decide) ?_
                refine z_irem (z := (y % 541)) hx hb (by omega) (by omega) rfl dL_act_127 ?_
                refine z_iadd (z := ((y % 541) + 60)) hx hb (by omega) dL_act_128 ?_
                refine lv_iconst (v := iZ 0) hx hb dL_act_129 rfl ?_
                refine lv_iconst (v := iZ 0) hx hb dL_act_130 rfl ?_
                refine lv_iconst (v := iZ 0) hx hb dL_act_131 rfl ?_
                refine g_cL (As := [.ref (gad G 152), .int (iZ 10), .int (iZ ((y % 541) + 60)), .int (iZ 0), .int (iZ 0), .int (iZ 0)]) (rest := []) (2) ⟨hx, hb, hml, hown, hts⟩ (c_L_call_Next l hl0 G hdm M0 σ hσ ((y % 541) + 60) (by omega) 0 0 0) (va_cwS 6 hts gA_act_L_call rfl rfl rfl (by decide +kernel) ⟨Nat.le_of_ble_eq_true rfl, Nat.le_of_ble_eq_true rfl⟩) hG rfl hl.1 rfl (Nat.le_of_ble_eq_true rfl) dL_act_132 ⟨by omega, by omega⟩ ⟨Nat.le_of_ble_eq_true rfl, Nat.le_of_ble_eq_true rfl⟩ (fun z17 K18 H locs hp_132 hG => ?_)
                obtain ⟨hz_132, hK_132⟩ := hp_132
                replace hz_132 := hz_132.symm; subst hz_132; replace hK_132 := hK_132.symm; subst hK_132
                exact g_iretL (z := (a_next σ ((y % 541) + 60))) hx hb hr hG hlocks (⟨by rw [e_sw]; rfl, by rw [e_sw]; rfl⟩) ⟨by omega, by omega⟩ dL_act_135
              · rcases (show (x % 16) = 6 ∨ 6 < (x % 16) by omega) with e_sw | e_sw
                · skip
                  refine lv_tableIn (off := 126) (tgt := 136) hx hb dL_act_10 (by rw [hsw]; omega) (by rw [hsw]; omega) (by rw [hsw, e_sw]; rfl) (by decide) ?_
                  refine lv_aload_n hx hb dL_act_136 rfl (lv_at hl 1 rfl) ?_
                  refine lv_bipush (v := iZ (11)) hx hb dL_act_137 (by decide) ?_
                  refine lv_iload_n hx hb dL_act_139 rfl (lv_at hl 3 rfl) ?_
                  refine lv_iconst (v := iZ 2) hx hb dL_act_140 rfl ?_
                  refine z_irem (z := (y % 2)) hx hb (by omega) (by omega) rfl dL_act_141 ?_
                  refine z_if_ne (tgt := 150) hx hb (by omega) dL_act_142 (by decide) (fun c_142 => ?_) (fun c_142 => ?_)
                  · skip
                    refine lv_sipush (v := iZ (12345)) hx hb dL_act_150 (by decide) ?_
                    refine lv_iconst (v := iZ 0) hx hb dL_act_153 rfl ?_
                    refine lv_iconst (v := iZ 0) hx hb dL_act_154 rfl ?_
                    refine lv_iconst (v := iZ 0) hx hb dL_act_155 rfl ?_
                    refine g_cL (As := [.ref (gad G 152), .int (iZ 11), .int (iZ 12345), .int (iZ 0), .int (iZ 0), .int (iZ 0)]) (rest := []) (2) ⟨hx, hb, hml, hown, hts⟩ (c_L_call_Rank l hl0 G hdm M0 σ hσ 12345 (by omega) 0 0 0) (va_cwS 6 hts gA_act_L_call rfl rfl rfl (by decide +kernel) ⟨Nat.le_of_ble_eq_true rfl, Nat.le_of_ble_eq_true rfl⟩) hG rfl hl.1 rfl (Nat.le_of_ble_eq_true rfl) dL_act_156 ⟨by omega, by omega⟩ ⟨Nat.le_of_ble_eq_true rfl, Nat.le_of_ble_eq_true rfl⟩ (fun z19 K20 H locs hp_156 hG => ?_)
                    obtain ⟨hz_156, hK_156⟩ := hp_156
                    replace hz_156 := hz_156.symm; subst hz_156; replace hK_156 := hK_156.symm; subst hK_156
                    exact g_iretL (z := (a_rank σ 12345)) hx hb hr hG hlocks (⟨by rw [e_sw]; unfold q_acg; simp only [reduceIte, Int.reduceEq]; first | rw [if_pos (by omega)] | rw [if_neg (by omega)], by rw [e_sw]; unfold q_acg; simp only [reduceIte, Int.reduceEq]; first | rw [if_pos (by omega)] | rw [if_neg (by omega)]⟩) ⟨by omega, by omega⟩ dL_act_159
                  · skip
                    refine lv_ldc (v := iZ (342015)) hx hb hown (by rw [show iZ (342015) = (342015 : Int32) from by decide]; exact hts (.constant RL 214 (342015)) (List.mem_cons_of_mem _ (List.mem_append_left _ (by decide +kernel)))) dL_act_145 ?_
                    refine lv_goto (tgt := 153) hx hb dL_act_147 (by decide) ?_
                    refine lv_iconst (v := iZ 0) hx hb dL_act_153 rfl ?_
                    refine lv_iconst (v := iZ 0) hx hb dL_act_154 rfl ?_
                    refine lv_iconst (v := iZ 0) hx hb dL_act_155 rfl ?_
                    refine g_cL (As := [.ref (gad G 152), .int (iZ 11), .int (iZ 342015), .int (iZ 0), .int (iZ 0), .int (iZ 0)]) (rest := []) (2) ⟨hx, hb, hml, hown, hts⟩ (c_L_call_Rank l hl0 G hdm M0 σ hσ 342015 (by omega) 0 0 0) (va_cwS 6 hts gA_act_L_call rfl rfl rfl (by decide +kernel) ⟨Nat.le_of_ble_eq_true rfl, Nat.le_of_ble_eq_true rfl⟩) hG rfl hl.1 rfl (Nat.le_of_ble_eq_true rfl) dL_act_156 ⟨by omega, by omega⟩ ⟨Nat.le_of_ble_eq_true rfl, Nat.le_of_ble_eq_true rfl⟩ (fun z21 K22 H locs hp_156 hG => ?_)
                    obtain ⟨hz_156, hK_156⟩ := hp_156
                    replace hz_156 := hz_156.symm; subst hz_156; replace hK_156 := hK_156.symm; subst hK_156
                    exact g_iretL (z := (a_rank σ 342015)) hx hb hr hG hlocks (⟨by rw [e_sw]; unfold q_acg; simp only [reduceIte, Int.reduceEq]; first | rw [if_pos (by omega)] | rw [if_neg (by omega)], by rw [e_sw]; unfold q_acg; simp only [reduceIte, Int.reduceEq]; first | rw [if_pos (by omega)] | rw [if_neg (by omega)]⟩) ⟨by omega, by omega⟩ dL_act_159
                · rcases (show (x % 16) = 7 ∨ 7 < (x % 16) by omega) with e_sw | e_sw
                  · skip
                    refine lv_tableIn (off := 150) (tgt := 160) hx hb dL_act_10 (by rw [hsw]; omega) (by rw [hsw]; omega) (by rw [hsw, e_sw]; rfl) (by decide) ?_
                    refine lv_aload_n hx hb dL_act_160 rfl (lv_at hl 1 rfl) ?_
                    refine lv_bipush (v := iZ (12)) hx hb dL_act_161 (by decide) ?_
                    refine lv_iload_n hx hb dL_act_163 rfl (lv_at hl 3 rfl) ?_
                    refine lv_iload_n hx hb dL_act_164 rfl (lv_at hl 0 rfl) ?_
                    refine z_irem (z := (y % (q_nd σ.1))) hx hb (by omega) (by omega) rfl dL_act_165 ?_
                    refine lv_iconst (v := iZ 1) hx hb dL_act_166 rfl ?_
                    refine lv_iload_n hx hb dL_act_167 rfl (lv_at hl 3 rfl) ?_
                    refine lv_bipush (v := iZ (16)) hx hb dL_act_168 (by decide) ?_
                    refine z_idiv (z := (y / 16)) hx hb (by omega) (by omega) rfl dL_act_170 ?_
                    refine lv_bipush (v := iZ (99)) hx hb dL_act_171 (by decide) ?_
                    refine z_irem (z := ((y / 16) % 99)) hx hb (by omega) (by omega) rfl dL_act_173 ?_
                    refine z_iadd (z := (((y / 16) % 99) + 1)) hx hb (by omega) dL_act_174 ?_
                    refine lv_iconst (v := iZ 0) hx hb dL_act_175 rfl ?_
                    refine lv_iconst (v := iZ 0) hx hb dL_act_176 rfl ?_
                    refine g_cL (As := [.ref (gad G 152), .int (iZ 12), .int (iZ (y % (q_nd σ.1))), .int (iZ (((y / 16) % 99) + 1)), .int (iZ 0), .int (iZ 0)]) (rest := []) (2) ⟨hx, hb, hml, hown, hts⟩ (c_L_call_Draw l hl0 G hdm M0 σ hσ (y % (q_nd σ.1)) (by omega) (((y / 16) % 99) + 1) (by omega) 0 0) (va_cwS 6 hts gA_act_L_call rfl rfl rfl (by decide +kernel) ⟨Nat.le_of_ble_eq_true rfl, Nat.le_of_ble_eq_true rfl⟩) hG rfl hl.1 rfl (Nat.le_of_ble_eq_true rfl) dL_act_177 ⟨by omega, by omega⟩ ⟨Nat.le_of_ble_eq_true rfl, Nat.le_of_ble_eq_true rfl⟩ (fun z23 K24 H locs hp_177 hG => ?_)
                    obtain ⟨hz_177, hK_177⟩ := hp_177
                    replace hz_177 := hz_177.symm; subst hz_177; replace hK_177 := hK_177.symm; subst hK_177
                    exact g_iretL (z := (a_draw σ (y % (q_nd σ.1)) (((y / 16) % 99) + 1))) hx hb hr hG hlocks (⟨by rw [e_sw]; rfl, by rw [e_sw]; rfl⟩) ⟨by omega, by omega⟩ dL_act_180
                  · rcases (show (x % 16) = 8 ∨ 8 < (x % 16) by omega) with e_sw | e_sw
                    · skip
                      refine lv_tableIn (off := 171) (tgt := 181) hx hb dL_act_10 (by rw [hsw]; omega) (by rw [hsw]; omega) (by rw [hsw, e_sw]; rfl) (by decide) ?_
                      refine lv_aload_n hx hb dL_act_181 rfl (lv_at hl 1 rfl) ?_
                      refine lv_bipush (v := iZ (13)) hx hb dL_act_182 (by decide) ?_
                      refine lv_iconst (v := iZ 0) hx hb dL_act_184 rfl ?_
                      refine lv_iconst (v := iZ 0) hx hb dL_act_185 rfl ?_
                      refine lv_iconst (v := iZ 0) hx hb dL_act_186 rfl ?_
                      refine lv_iconst (v := iZ 0) hx hb dL_act_187 rfl ?_
                      refine g_cL (As := [.ref (gad G 152), .int (iZ 13), .int (iZ 0), .int (iZ 0), .int (iZ 0), .int (iZ 0)]) (rest := []) (2) ⟨hx, hb, hml, hown, hts⟩ (c_L_call_Undo l hl0 G hdm M0 σ hσ  0 0 0 0) (va_cwS 6 hts gA_act_L_call rfl rfl rfl (by decide +kernel) ⟨Nat.le_of_ble_eq_true rfl, Nat.le_of_ble_eq_true rfl⟩) hG rfl hl.1 rfl (Nat.le_of_ble_eq_true rfl) dL_act_188 ⟨by omega, by omega⟩ ⟨Nat.le_of_ble_eq_true rfl, Nat.le_of_ble_eq_true rfl⟩ (fun z25 K26 H locs hp_188 hG => ?_)
                      obtain ⟨hz_188, hK_188⟩ := hp_188
                      replace hz_188 := hz_188.symm; subst hz_188; replace hK_188 := hK_188.symm; subst hK_188
                      exact g_iretL (z := (a_undo σ)) hx hb hr hG hlocks (⟨by rw [e_sw]; rfl, by rw [e_sw]; rfl⟩) ⟨by omega, by omega⟩ dL_act_191
                    · have e_sw : (x % 16) = 9 := by omega
                      refine lv_tableIn (off := 182) (tgt := 192) hx hb dL_act_10 (by rw [hsw]; omega) (by rw [hsw]; omega) (by rw [hsw, e_sw]; rfl) (by decide) ?_
                      refine lv_iload_n hx hb dL_act_192 rfl (lv_at hl 3 rfl) ?_
                      refine lv_iconst (v := iZ 2) hx hb dL_act_193 rfl ?_
                      refine z_irem (z := (y % 2)) hx hb (by omega) (by omega) rfl dL_act_194 ?_
                      refine z_if_ne (tgt := 211) hx hb (by omega) dL_act_195 (by decide) (fun c_195 => ?_) (fun c_195 => ?_)
                      · skip
                        refine lv_aload_n hx hb dL_act_211 rfl (lv_at hl 1 rfl) ?_
                        refine lv_bipush (v := iZ (18)) hx hb dL_act_212 (by decide) ?_
                        refine lv_iconst (v := iZ 1) hx hb dL_act_214 rfl ?_
                        refine lv_iconst (v := iZ 0) hx hb dL_act_215 rfl ?_
                        refine lv_iconst (v := iZ 0) hx hb dL_act_216 rfl ?_
                        refine lv_iconst (v := iZ 0) hx hb dL_act_217 rfl ?_
                        refine g_cL (As := [.ref (gad G 152), .int (iZ 18), .int (iZ 1), .int (iZ 0), .int (iZ 0), .int (iZ 0)]) (rest := []) (2) ⟨hx, hb, hml, hown, hts⟩ (c_L_call_Restore l hl0 G hdm M0 σ hσ 1 (by omega) 0 0 0) (va_cwS 6 hts gA_act_L_call rfl rfl rfl (by decide +kernel) ⟨Nat.le_of_ble_eq_true rfl, Nat.le_of_ble_eq_true rfl⟩) hG rfl hl.1 rfl (Nat.le_of_ble_eq_true rfl) dL_act_218 ⟨by omega, by omega⟩ ⟨Nat.le_of_ble_eq_true rfl, Nat.le_of_ble_eq_true rfl⟩ (fun z27 K28 H locs hp_218 hG => ?_)
                        obtain ⟨hz_218, hK_218⟩ := hp_218
                        replace hz_218 := hz_218.symm; subst hz_218; replace hK_218 := hK_218.symm; subst hK_218
                        exact g_iretL (z := (a_restore σ 1)) hx hb hr hG hlocks (⟨by rw [e_sw]; unfold q_acg; simp only [reduceIte, Int.reduceEq]; first | rw [if_pos (by omega)] | rw [if_neg (by omega)], by rw [e_sw]; unfold q_acg; simp only [reduceIte, Int.reduceEq]; first | rw [if_pos (by omega)] | rw [if_neg (by omega)]⟩) ⟨by omega, by omega⟩ dL_act_221
                      · skip
                        refine lv_aload_n hx hb dL_act_198 rfl (lv_at hl 1 rfl) ?_
                        refine lv_bipush (v := iZ (17)) hx hb dL_act_199 (by decide) ?_
                        refine lv_iconst (v := iZ 1) hx hb dL_act_201 rfl ?_
                        refine lv_iconst (v := iZ 0) hx hb dL_act_202 rfl ?_
                        refine lv_iconst (v := iZ 0) hx hb dL_act_203 rfl ?_
                        refine lv_iconst (v := iZ 0) hx hb dL_act_204 rfl ?_
                        refine g_cL (As := [.ref (gad G 152), .int (iZ 17), .int (iZ 1), .int (iZ 0), .int (iZ 0), .int (iZ 0)]) (rest := []) (2) ⟨hx, hb, hml, hown, hts⟩ (c_L_call_Save l hl0 G hdm M0 σ hσ 1 (by omega) 0 0 0) (va_cwS 6 hts gA_act_L_call rfl rfl rfl (by decide +kernel) ⟨Nat.le_of_ble_eq_true rfl, Nat.le_of_ble_eq_true rfl⟩) hG rfl hl.1 rfl (Nat.le_of_ble_eq_true rfl) dL_act_205 ⟨by omega, by omega⟩ ⟨Nat.le_of_ble_eq_true rfl, Nat.le_of_ble_eq_true rfl⟩ (fun z29 K30 H locs hp_205 hG => ?_)
                        obtain ⟨hz_205, hK_205⟩ := hp_205
                        replace hz_205 := hz_205.symm; subst hz_205; replace hK_205 := hK_205.symm; subst hK_205
                        refine lv_goto (tgt := 221) hx hb dL_act_208 (by decide) ?_
                        exact g_iretL (z := (a_save σ 1)) hx hb hr hG hlocks (⟨by rw [e_sw]; unfold q_acg; simp only [reduceIte, Int.reduceEq]; first | rw [if_pos (by omega)] | rw [if_neg (by omega)], by rw [e_sw]; unfold q_acg; simp only [reduceIte, Int.reduceEq]; first | rw [if_pos (by omega)] | rw [if_neg (by omega)]⟩) ⟨by omega, by omega⟩ dL_act_221
