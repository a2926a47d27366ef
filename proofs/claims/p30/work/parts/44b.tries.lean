set_option maxHeartbeats 8000000 in
set_option maxRecDepth 100000 in
theorem c_L_tries (l : Launch) (hl0 : l.stackTraces = false) (G : gG) (hdm : ∀ k, k < 169 → gdm G k) (M0 : Nat → Nat → Int) (σ : gS) (hσ : s_ok σ) (a : Int) (ha : 1 ≤ a ∧ a ≤ 12)  : gML l yL_tries wA_tries ({ frames := 11, cells := 700, slots := 4200, locals := 262 } : Room) 700 G M0 (kS σ) [.ref (gad G 152), .int (iZ a)] (fun z K1 => z = 1 ∧ K1 = kS (t_tries σ a)) := by
  refine gML_of (cc := cL_tries) (maxL := 15) (ret := some .boolean) (by decide) rfl (Nat.le_of_ble_eq_true rfl) ?_
  intro p e s m below meth c ls hx hb hr hml hown hts hlocks hl hG
  have hown : s.vm.findClass RL = some m.cls := hown
  have hl : lv_has ls 15 [(0, .ref (gad G 152)), (1, .int (iZ a))] := hl
  have hnd : 1 ≤ q_nd σ.1 ∧ q_nd σ.1 ≤ 12 := ⟨hσ.1.2.2, hσ.1.1.1.2⟩
  have hobr := ob_in σ.1
  have h19 := hσ.1.1.2.2.2.1
  have h29 := hσ.1.1.2.2.2.2.1
  refine lv_aload_n hx hb dL_tries_0 rfl (lv_at hl 0 rfl) ?_
  refine g_cLl (As := [.ref (gad G 152)]) (rest := []) (200) ⟨hx, hb, hml, hown, hts⟩ (c_L_sum l hl0 G hdm M0 σ hσ) (va_cwS 1 hts gA_tries_L_sum rfl rfl rfl (by decide +kernel) ⟨Nat.le_of_ble_eq_true rfl, Nat.le_of_ble_eq_true rfl⟩) hG rfl hl.1 rfl (Nat.le_of_ble_eq_true rfl) dL_tries_1 ⟨by omega, by omega⟩ ⟨Nat.le_of_ble_eq_true rfl, Nat.le_of_ble_eq_true rfl⟩ (fun z1 K2 H locs hp_1 hG => ?_)
  obtain ⟨hz_1, hK_1⟩ := hp_1
  replace hz_1 := hz_1.symm; subst hz_1; replace hK_1 := hK_1.symm; subst hK_1
  refine lv_lstore_n (lv' := [(2, .long (lZ (q_all σ.1))), (0, .ref (gad G 152)), (1, .int (iZ a))]) hx hb dL_tries_4 rfl hl (by decide) rfl (fun ls hl => ?_)
  refine lv_aload_n hx hb dL_tries_5 rfl (lv_at hl 1 rfl) ?_
  refine g_cK (b := 152) (As := []) (rest := []) ⟨hx, hb, hml, hown, hts⟩ (hdm 152 (by decide)) (fun f => rfl) rfl rfl (fun M9 hK9 => c_X5_whyNot l G M9 hdm σ.1 (show q_K M9 σ from hK9).1 (hσ).1.1) (cwV 0 hts gA_tries_X5_whyNot rfl rfl rfl (by decide +kernel) ⟨Nat.le_of_ble_eq_true rfl, Nat.le_of_ble_eq_true rfl⟩) hG rfl hl.1 rfl (Nat.le_of_ble_eq_true rfl) dL_tries_6 ⟨by dsimp only; omega, by dsimp only; omega⟩ (fun M9 z9 N9 hK9 hp9 hF9 => by rw [hp9.2]; exact ⟨hK9, hF9⟩) (fun z3 H locs hp_6 hG => ?_)
  obtain ⟨M9, N9, -, hz_6, -⟩ := hp_6
  replace hz_6 := hz_6.symm; subst hz_6
  refine z_if_ne (tgt := 28) hx hb (by omega) dL_tries_9 (by decide) (fun c_9 => ?_) (fun c_9 => ?_)
  · skip
    refine lv_aload_n hx hb dL_tries_28 rfl (lv_at hl 1 rfl) ?_
    refine lv_lconst (v := lZ 0) hx hb dL_tries_29 rfl ?_
    refine lv_bipush (v := iZ (30)) hx hb dL_tries_30 (by decide) ?_
    refine g_cLW (As := [.ref (gad G 152), .long (lZ 0), .int (iZ 30)]) (rest := []) (201) ⟨hx, hb, hml, hown, hts⟩ (c_L_tryRun l hl0 G hdm M0 σ hσ 0 (by omega) 30 (by omega)) (vx_cwSW 3 hts gA_tries_L_tryRun rfl rfl rfl (by decide +kernel) ⟨Nat.le_of_ble_eq_true rfl, Nat.le_of_ble_eq_true rfl⟩) hG rfl hl.1 rfl (Nat.le_of_ble_eq_true rfl) dL_tries_32 ⟨by omega, by omega⟩ ⟨Nat.le_of_ble_eq_true rfl, Nat.le_of_ble_eq_true rfl⟩ (fun z4 K5 H locs hp_32 hG => ?_)
    obtain ⟨hz_32, hK_32⟩ := hp_32
    replace hz_32 := hz_32.trans (ax_run_2 (run_no c_9))
    replace hK_32 := hK_32.trans (congrArg kS (t_run_no (by rw [run_no c_9]; decide)))
    replace hz_32 := hz_32.symm; subst hz_32; replace hK_32 := hK_32.symm; subst hK_32
    refine lv_ldc (v := iZ (-9999003)) hx hb hown (by rw [show iZ (-9999003) = (-9999003 : Int32) from by decide]; exact hts (.constant RL 18 (-9999003)) (List.mem_cons_of_mem _ (List.mem_append_left _ (by decide +kernel)))) dL_tries_35 ?_
    refine z_icmp_eq (tgt := 47) hx hb (by decide) (by decide) dL_tries_37 (by decide) (fun c_37 => ?_) (fun c_37 => ?_)
    · skip
      refine lv_iconst (v := iZ 1) hx hb dL_tries_47 rfl ?_
      refine lv_goto (tgt := 52) hx hb dL_tries_48 (by decide) ?_
      exact g_zretL (z := 1) hx hb hr hG hlocks (Or.inr rfl) (⟨rfl, by unfold t_tries; rw [if_pos c_9]⟩) ⟨by omega, by omega⟩ dL_tries_52
    · exfalso; omega
  · skip
    have hob : q_ob σ.1 = 0 := by omega
    have hon := ob0 hσ.1.1 hob
    have hdi := di_in hσ.1.1 hon.1
    have hd5 := dok5 hσ.1.1 (q_di σ.1 0) hdi.1
    have hfp := fp_in hσ.1.1 hdi.1
    have hbpr := bp_in hσ.1.1 (q_di σ.1 0)
    have hmlr := ml_rng hfp a
    have hrn := rn_in hσ
    have hrn2 := rn_in (ok_bk hσ)
    have hr1 := run1 hσ.1.1 hob (v := 0) (by decide +kernel)
    have hs1 : s_ok (s_act σ (q_tp σ.1 0)) := by rw [← hr1.2.2]; exact ok_run hσ
    have hi1 : ((q_di σ.1 0 : Nat) : Int) < q_nd (s_act σ (q_tp σ.1 0)).1 := by show _ < q_nd (q_tp σ.1 0); rw [tp_nd hσ.1.1 hob]; exact hdi.1
    have hsc1 : 0 ≤ (q_sc (q_tp σ.1 0) (q_di σ.1 0)) ∧ (q_sc (q_tp σ.1 0) (q_di σ.1 0)) ≤ 100 := sc_in (hs1.1.1.2.1 _ hi1)
    refine lv_aload_n hx hb dL_tries_12 rfl (lv_at hl 1 rfl) ?_
    refine lv_iconst (v := iZ 5) hx hb dL_tries_13 rfl ?_
    refine g_cL (As := [.ref (gad G 152), .int (iZ 5)]) (rest := []) (201) ⟨hx, hb, hml, hown, hts⟩ (c_L_about l hl0 G hdm M0 σ hσ 5 (by omega)) (va_cwS 2 hts gA_tries_L_about rfl rfl rfl (by decide +kernel) ⟨Nat.le_of_ble_eq_true rfl, Nat.le_of_ble_eq_true rfl⟩) hG rfl hl.1 rfl (Nat.le_of_ble_eq_true rfl) dL_tries_14 ⟨by omega, by omega⟩ ⟨Nat.le_of_ble_eq_true rfl, Nat.le_of_ble_eq_true rfl⟩ (fun z6 K7 H locs hp_14 hG => ?_)
    obtain ⟨hz_14, hK_14⟩ := hp_14
    replace hz_14 := hz_14.trans (a_about_5 σ)
    replace hz_14 := hz_14.symm; subst hz_14; replace hK_14 := hK_14.symm; subst hK_14
    refine lv_iconst (v := iZ 1) hx hb dL_tries_17 rfl ?_
    refine z_iadd (z := ((σ.1 1) + 1)) hx hb (by omega) dL_tries_18 ?_
    refine lv_aload_n hx hb dL_tries_19 rfl (lv_at hl 1 rfl) ?_
    refine lv_bipush (v := iZ (6)) hx hb dL_tries_20 (by decide) ?_
    refine g_cL (As := [.ref (gad G 152), .int (iZ 6)]) (rest := [.int (iZ ((σ.1 1) + 1))]) (202) ⟨hx, hb, hml, hown, hts⟩ (c_L_about l hl0 G hdm M0 σ hσ 6 (by omega)) (va_cwS 2 hts gA_tries_L_about rfl rfl rfl (by decide +kernel) ⟨Nat.le_of_ble_eq_true rfl, Nat.le_of_ble_eq_true rfl⟩) hG rfl hl.1 rfl (Nat.le_of_ble_eq_true rfl) dL_tries_22 ⟨by omega, by omega⟩ ⟨Nat.le_of_ble_eq_true rfl, Nat.le_of_ble_eq_true rfl⟩ (fun z8 K9 H locs hp_22 hG => ?_)
    obtain ⟨hz_22, hK_22⟩ := hp_22
    replace hz_22 := hz_22.trans (a_about_6 σ)
    replace hz_22 := hz_22.symm; subst hz_22; replace hK_22 := hK_22.symm; subst hK_22
    refine z_icmp_le (tgt := 53) hx hb (by omega) (by omega) dL_tries_25 (by decide) (fun c_25 => ?_) (fun c_25 => ?_)
    · skip
      refine lv_aload_n hx hb dL_tries_53 rfl (lv_at hl 1 rfl) ?_
      refine lv_iconst (v := iZ 5) hx hb dL_tries_54 rfl ?_
      refine lv_iconst (v := iZ 0) hx hb dL_tries_55 rfl ?_
      refine lv_iconst (v := iZ 0) hx hb dL_tries_56 rfl ?_
      refine lv_iconst (v := iZ 0) hx hb dL_tries_57 rfl ?_
      refine lv_iconst (v := iZ 0) hx hb dL_tries_58 rfl ?_
      refine g_cL (As := [.ref (gad G 152), .int (iZ 5), .int (iZ 0), .int (iZ 0), .int (iZ 0), .int (iZ 0)]) (rest := []) (203) ⟨hx, hb, hml, hown, hts⟩ (c_L_call_Order l hl0 G hdm M0 σ hσ 0 (by omega) 0 0 0) (va_cwS 6 hts gA_tries_L_call rfl rfl rfl (by decide +kernel) ⟨Nat.le_of_ble_eq_true rfl, Nat.le_of_ble_eq_true rfl⟩) hG rfl hl.1 rfl (Nat.le_of_ble_eq_true rfl) dL_tries_59 ⟨by omega, by omega⟩ ⟨Nat.le_of_ble_eq_true rfl, Nat.le_of_ble_eq_true rfl⟩ (fun z10 K11 H locs hp_59 hG => ?_)
      obtain ⟨hz_59, hK_59⟩ := hp_59
      replace hz_59 := hz_59.trans ((a_order_in (by omega)).trans (atk_0 hσ.1.1 hon.1))
      replace hz_59 := hz_59.symm; subst hz_59; replace hK_59 := hK_59.symm; subst hK_59
      refine lv_istore (lv' := [(4, .int (iZ ((q_di σ.1 0) : Int))), (2, .long (lZ (q_all σ.1))), (0, .ref (gad G 152)), (1, .int (iZ a))]) hx hb dL_tries_62 hl (by decide) rfl (fun ls hl => ?_)
      refine lv_aload_n hx hb dL_tries_64 rfl (lv_at hl 2 rfl) ?_
      refine lv_bipush (v := iZ (15)) hx hb dL_tries_65 (by decide) ?_
      refine lv_iload hx hb dL_tries_67 (lv_at hl 0 rfl) ?_
      refine lv_iconst (v := iZ 0) hx hb dL_tries_69 rfl ?_
      refine lv_iconst (v := iZ 0) hx hb dL_tries_70 rfl ?_
      refine lv_iconst (v := iZ 0) hx hb dL_tries_71 rfl ?_
      refine g_cL (As := [.ref (gad G 152), .int (iZ 15), .int (iZ ((q_di σ.1 0) : Int)), .int (iZ 0), .int (iZ 0), .int (iZ 0)]) (rest := []) (204) ⟨hx, hb, hml, hown, hts⟩ (c_L_call_Best l hl0 G hdm M0 σ hσ ((q_di σ.1 0) : Int) (by omega) 0 0 0) (va_cwS 6 hts gA_tries_L_call rfl rfl rfl (by decide +kernel) ⟨Nat.le_of_ble_eq_true rfl, Nat.le_of_ble_eq_true rfl⟩) hG rfl hl.1 rfl (Nat.le_of_ble_eq_true rfl) dL_tries_72 ⟨by omega, by omega⟩ ⟨Nat.le_of_ble_eq_true rfl, Nat.le_of_ble_eq_true rfl⟩ (fun z12 K13 H locs hp_72 hG => ?_)
      obtain ⟨hz_72, hK_72⟩ := hp_72
      replace hz_72 := hz_72.trans (a_best_in hdi.1)
      replace hz_72 := hz_72.symm; subst hz_72; replace hK_72 := hK_72.symm; subst hK_72
      refine lv_istore (lv' := [(5, .int (iZ (q_bp σ.1 (q_di σ.1 0)))), (4, .int (iZ ((q_di σ.1 0) : Int))), (2, .long (lZ (q_all σ.1))), (0, .ref (gad G 152)), (1, .int (iZ a))]) hx hb dL_tries_75 hl (by decide) rfl (fun ls hl => ?_)
      refine lv_aload_n hx hb dL_tries_77 rfl (lv_at hl 3 rfl) ?_
      refine lv_bipush (v := iZ (16)) hx hb dL_tries_78 (by decide) ?_
      refine lv_iload hx hb dL_tries_80 (lv_at hl 1 rfl) ?_
      refine lv_iload_n hx hb dL_tries_82 rfl (lv_at hl 4 rfl) ?_
      refine lv_iconst (v := iZ 0) hx hb dL_tries_83 rfl ?_
      refine lv_iconst (v := iZ 0) hx hb dL_tries_84 rfl ?_
      refine g_cL (As := [.ref (gad G 152), .int (iZ 16), .int (iZ ((q_di σ.1 0) : Int)), .int (iZ a), .int (iZ 0), .int (iZ 0)]) (rest := []) (205) ⟨hx, hb, hml, hown, hts⟩ (c_L_call_May l hl0 G hdm M0 σ hσ ((q_di σ.1 0) : Int) (by omega) a (by omega) 0 0) (va_cwS 6 hts gA_tries_L_call rfl rfl rfl (by decide +kernel) ⟨Nat.le_of_ble_eq_true rfl, Nat.le_of_ble_eq_true rfl⟩) hG rfl hl.1 rfl (Nat.le_of_ble_eq_true rfl) dL_tries_85 ⟨by omega, by omega⟩ ⟨Nat.le_of_ble_eq_true rfl, Nat.le_of_ble_eq_true rfl⟩ (fun z14 K15 H locs hp_85 hG => ?_)
      obtain ⟨hz_85, hK_85⟩ := hp_85
      replace hz_85 := hz_85.trans (a_may_in hdi.1 ha)
      replace hz_85 := hz_85.symm; subst hz_85; replace hK_85 := hK_85.symm; subst hK_85
      refine lv_istore (lv' := [(6, .int (iZ (q_ml σ.1 (q_di σ.1 0) a))), (5, .int (iZ (q_bp σ.1 (q_di σ.1 0)))), (4, .int (iZ ((q_di σ.1 0) : Int))), (2, .long (lZ (q_all σ.1))), (0, .ref (gad G 152)), (1, .int (iZ a))]) hx hb dL_tries_88 hl (by decide) rfl (fun ls hl => ?_)
      have J_112 : ∀ (v9 : Int), (v9 = (q_fp σ.1 (q_di σ.1 0))) → ∀ (H : Heap) (locs : List Loc) (ls : Array Slot), gKH G M0 (kS σ) s H locs → lv_has ls 15 [(6, .int (iZ (q_ml σ.1 (q_di σ.1 0) a))), (5, .int (iZ (q_bp σ.1 (q_di σ.1 0)))), (4, .int (iZ ((q_di σ.1 0) : Int))), (2, .long (lZ (q_all σ.1))), (0, .ref (gad G 152)), (1, .int (iZ a))] → W p l e ({ frames := 11, cells := 700, slots := 4200, locals := 262 } : Room) s m [.ref (gad G 152), .int (iZ a)].toArray below meth c H locs (207) (6 * (207)) (gLQ below G M0 (fun z K1 => z = 1 ∧ K1 = kS (t_tries σ a)) [.ref (gad G 152), .int (iZ a)] s 700) (F0 m 112 ls [.int (iZ v9)]) := by
        intro v9 hv9 H locs ls hG hl
        subst hv9
        refine lv_istore (lv' := [(7, .int (iZ (q_fp σ.1 (q_di σ.1 0)))), (6, .int (iZ (q_ml σ.1 (q_di σ.1 0) a))), (5, .int (iZ (q_bp σ.1 (q_di σ.1 0)))), (4, .int (iZ ((q_di σ.1 0) : Int))), (2, .long (lZ (q_all σ.1))), (0, .ref (gad G 152)), (1, .int (iZ a))]) hx hb dL_tries_112 hl (by decide) rfl (fun ls hl => ?_)
        refine lv_aload_n hx hb dL_tries_114 rfl (lv_at hl 5 rfl) ?_
        refine lv_lconst (v := lZ 0) hx hb dL_tries_115 rfl ?_
        refine lv_iconst (v := iZ 1) hx hb dL_tries_116 rfl ?_
        refine g_cLW (As := [.ref (gad G 152), .long (lZ 0), .int (iZ 1)]) (rest := []) (208) ⟨hx, hb, hml, hown, hts⟩ (c_L_tryRun l hl0 G hdm M0 σ hσ 0 (by omega) 1 (by omega)) (vx_cwSW 3 hts gA_tries_L_tryRun rfl rfl rfl (by decide +kernel) ⟨Nat.le_of_ble_eq_true rfl, Nat.le_of_ble_eq_true rfl⟩) hG rfl hl.1 rfl (Nat.le_of_ble_eq_true rfl) dL_tries_117 ⟨by omega, by omega⟩ ⟨Nat.le_of_ble_eq_true rfl, Nat.le_of_ble_eq_true rfl⟩ (fun z16 K17 H locs hp_117 hG => ?_)
        obtain ⟨hz_117, hK_117⟩ := hp_117
        replace hz_117 := hz_117.trans hr1.2.1
        replace hK_117 := hK_117.trans (congrArg kS (hr1.2.2))
        replace hz_117 := hz_117.symm; subst hz_117; replace hK_117 := hK_117.symm; subst hK_117
        refine lv_aload_n hx hb dL_tries_120 rfl (lv_at hl 5 rfl) ?_
        refine lv_iload hx hb dL_tries_121 (lv_at hl 3 rfl) ?_
        refine lv_iconst (v := iZ 4) hx hb dL_tries_123 rfl ?_
        refine g_cL (As := [.ref (gad G 152), .int (iZ ((q_di σ.1 0) : Int)), .int (iZ 4)]) (rest := [.int (iZ (q_sc (q_tp σ.1 0) (q_di σ.1 0)))]) (209) ⟨hx, hb, hml, hown, hts⟩ (c_L_dog l hl0 G hdm M0 (s_act σ (q_tp σ.1 0)) hs1 ((q_di σ.1 0) : Int) (by omega) 4 (by omega)) (va_cwS 3 hts gA_tries_L_dog rfl rfl rfl (by decide +kernel) ⟨Nat.le_of_ble_eq_true rfl, Nat.le_of_ble_eq_true rfl⟩) hG rfl hl.1 rfl (Nat.le_of_ble_eq_true rfl) dL_tries_124 ⟨by omega, by omega⟩ ⟨Nat.le_of_ble_eq_true rfl, Nat.le_of_ble_eq_true rfl⟩ (fun z18 K19 H locs hp_124 hG => ?_)
        obtain ⟨hz_124, hK_124⟩ := hp_124
        replace hz_124 := hz_124.trans (show a_dog (s_act σ (q_tp σ.1 0)) ((q_di σ.1 0) : Int) 4 = (q_sc (q_tp σ.1 0) (q_di σ.1 0)) from a_dog_4 hi1)
        replace hz_124 := hz_124.symm; subst hz_124; replace hK_124 := hK_124.symm; subst hK_124
        refine lv_iconst (v := iZ 1) hx hb dL_tries_127 rfl ?_
        refine z_isub (z := ((q_sc (q_tp σ.1 0) (q_di σ.1 0)) - 1)) hx hb (by omega) dL_tries_128 ?_
        refine z_icmp_le (tgt := 209) hx hb (by omega) (by omega) dL_tries_129 (by decide) (fun c_129 => ?_) (fun c_129 => ?_)
        · exfalso; omega
        · skip
          refine lv_aload_n hx hb dL_tries_132 rfl (lv_at hl 5 rfl) ?_
          refine lv_iload hx hb dL_tries_133 (lv_at hl 3 rfl) ?_
          refine lv_bipush (v := iZ (6)) hx hb dL_tries_135 (by decide) ?_
          refine g_cL (As := [.ref (gad G 152), .int (iZ ((q_di σ.1 0) : Int)), .int (iZ 6)]) (rest := []) (210) ⟨hx, hb, hml, hown, hts⟩ (c_L_dog l hl0 G hdm M0 (s_act σ (q_tp σ.1 0)) hs1 ((q_di σ.1 0) : Int) (by omega) 6 (by omega)) (va_cwS 3 hts gA_tries_L_dog rfl rfl rfl (by decide +kernel) ⟨Nat.le_of_ble_eq_true rfl, Nat.le_of_ble_eq_true rfl⟩) hG rfl hl.1 rfl (Nat.le_of_ble_eq_true rfl) dL_tries_137 ⟨by omega, by omega⟩ ⟨Nat.le_of_ble_eq_true rfl, Nat.le_of_ble_eq_true rfl⟩ (fun z20 K21 H locs hp_137 hG => ?_)
          obtain ⟨hz_137, hK_137⟩ := hp_137
          replace hz_137 := hz_137.trans ((a_dog_6 hi1).trans (tp_bp hσ.1.1 hob))
          replace hz_137 := hz_137.symm; subst hz_137; replace hK_137 := hK_137.symm; subst hK_137
          refine lv_iload hx hb dL_tries_140 (lv_at hl 2 rfl) ?_
          refine lv_icmp_ne (tgt := 209) hx hb dL_tries_142 (by decide) (fun q9 => absurd rfl q9) (fun _ => ?_)
          refine lv_aload_n hx hb dL_tries_145 rfl (lv_at hl 5 rfl) ?_
          refine lv_bipush (v := iZ (7)) hx hb dL_tries_146 (by decide) ?_
          refine g_cL (As := [.ref (gad G 152), .int (iZ 7)]) (rest := []) (211) ⟨hx, hb, hml, hown, hts⟩ (c_L_about l hl0 G hdm M0 (s_act σ (q_tp σ.1 0)) hs1 7 (by omega)) (va_cwS 2 hts gA_tries_L_about rfl rfl rfl (by decide +kernel) ⟨Nat.le_of_ble_eq_true rfl, Nat.le_of_ble_eq_true rfl⟩) hG rfl hl.1 rfl (Nat.le_of_ble_eq_true rfl) dL_tries_148 ⟨by omega, by omega⟩ ⟨Nat.le_of_ble_eq_true rfl, Nat.le_of_ble_eq_true rfl⟩ (fun z22 K23 H locs hp_148 hG => ?_)
          obtain ⟨hz_148, hK_148⟩ := hp_148
          replace hz_148 := hz_148.trans ((a_about_7 (s_act σ (q_tp σ.1 0))).trans (tp_3 hσ.1.1 hob 0))
          replace hz_148 := hz_148.symm; subst hz_148; replace hK_148 := hK_148.symm; subst hK_148
          refine lv_iload hx hb dL_tries_151 (lv_at hl 3 rfl) ?_
          refine lv_icmp_ne (tgt := 209) hx hb dL_tries_153 (by decide) (fun q9 => absurd rfl q9) (fun _ => ?_)
          refine lv_aload_n hx hb dL_tries_156 rfl (lv_at hl 5 rfl) ?_
          refine lv_iload hx hb dL_tries_157 (lv_at hl 3 rfl) ?_
          refine lv_iconst (v := iZ 2) hx hb dL_tries_159 rfl ?_
          refine g_cL (As := [.ref (gad G 152), .int (iZ ((q_di σ.1 0) : Int)), .int (iZ 2)]) (rest := []) (212) ⟨hx, hb, hml, hown, hts⟩ (c_L_dog l hl0 G hdm M0 (s_act σ (q_tp σ.1 0)) hs1 ((q_di σ.1 0) : Int) (by omega) 2 (by omega)) (va_cwS 3 hts gA_tries_L_dog rfl rfl rfl (by decide +kernel) ⟨Nat.le_of_ble_eq_true rfl, Nat.le_of_ble_eq_true rfl⟩) hG rfl hl.1 rfl (Nat.le_of_ble_eq_true rfl) dL_tries_160 ⟨by omega, by omega⟩ ⟨Nat.le_of_ble_eq_true rfl, Nat.le_of_ble_eq_true rfl⟩ (fun z24 K25 H locs hp_160 hG => ?_)
          obtain ⟨hz_160, hK_160⟩ := hp_160
          replace hz_160 := hz_160.trans ((a_dog_2 hi1).trans (tp_sa hσ.1.1 hob 0))
          replace hz_160 := hz_160.symm; subst hz_160; replace hK_160 := hK_160.symm; subst hK_160
          refine lv_iconst (v := iZ 1) hx hb dL_tries_163 rfl ?_
          refine z_icmp_ne (tgt := 209) hx hb (by decide) (by decide) dL_tries_164 (by decide) (fun c_164 => ?_) (fun c_164 => ?_)
          · exfalso; omega
          · skip
            refine lv_aload_n hx hb dL_tries_167 rfl (lv_at hl 5 rfl) ?_
            refine lv_bipush (v := iZ (15)) hx hb dL_tries_168 (by decide) ?_
            refine lv_iload hx hb dL_tries_170 (lv_at hl 3 rfl) ?_
            refine lv_iconst (v := iZ 0) hx hb dL_tries_172 rfl ?_
            refine lv_iconst (v := iZ 0) hx hb dL_tries_173 rfl ?_
            refine lv_iconst (v := iZ 0) hx hb dL_tries_174 rfl ?_
            refine g_cL (As := [.ref (gad G 152), .int (iZ 15), .int (iZ ((q_di σ.1 0) : Int)), .int (iZ 0), .int (iZ 0), .int (iZ 0)]) (rest := []) (213) ⟨hx, hb, hml, hown, hts⟩ (c_L_call_Best l hl0 G hdm M0 (s_act σ (q_tp σ.1 0)) hs1 ((q_di σ.1 0) : Int) (by omega) 0 0 0) (va_cwS 6 hts gA_tries_L_call rfl rfl rfl (by decide +kernel) ⟨Nat.le_of_ble_eq_true rfl, Nat.le_of_ble_eq_true rfl⟩) hG rfl hl.1 rfl (Nat.le_of_ble_eq_true rfl) dL_tries_175 ⟨by omega, by omega⟩ ⟨Nat.le_of_ble_eq_true rfl, Nat.le_of_ble_eq_true rfl⟩ (fun z26 K27 H locs hp_175 hG => ?_)
            obtain ⟨hz_175, hK_175⟩ := hp_175
            replace hz_175 := hz_175.trans ((a_best_in (σ := (s_act σ (q_tp σ.1 0))) hi1).trans (tp_bp2 hσ.1.1 hob))
            replace hz_175 := hz_175.symm; subst hz_175; replace hK_175 := hK_175.symm; subst hK_175
            refine lv_iload hx hb dL_tries_178 (lv_at hl 2 rfl) ?_
            refine lv_icmp_ne (tgt := 209) hx hb dL_tries_180 (by decide) (fun q9 => absurd rfl q9) (fun _ => ?_)
            refine lv_aload_n hx hb dL_tries_183 rfl (lv_at hl 5 rfl) ?_
            refine lv_bipush (v := iZ (13)) hx hb dL_tries_184 (by decide) ?_
            refine lv_iconst (v := iZ 0) hx hb dL_tries_186 rfl ?_
            refine lv_iconst (v := iZ 0) hx hb dL_tries_187 rfl ?_
            refine lv_iconst (v := iZ 0) hx hb dL_tries_188 rfl ?_
            refine lv_iconst (v := iZ 0) hx hb dL_tries_189 rfl ?_
            refine g_cL (As := [.ref (gad G 152), .int (iZ 13), .int (iZ 0), .int (iZ 0), .int (iZ 0), .int (iZ 0)]) (rest := []) (214) ⟨hx, hb, hml, hown, hts⟩ (c_L_call_Undo l hl0 G hdm M0 (s_act σ (q_tp σ.1 0)) hs1  0 0 0 0) (va_cwS 6 hts gA_tries_L_call rfl rfl rfl (by decide +kernel) ⟨Nat.le_of_ble_eq_true rfl, Nat.le_of_ble_eq_true rfl⟩) hG rfl hl.1 rfl (Nat.le_of_ble_eq_true rfl) dL_tries_190 ⟨by omega, by omega⟩ ⟨Nat.le_of_ble_eq_true rfl, Nat.le_of_ble_eq_true rfl⟩ (fun z28 K29 H locs hp_190 hG => ?_)
            obtain ⟨hz_190, hK_190⟩ := hp_190
            replace hz_190 := hz_190.trans ((und_act σ (q_tp σ.1 0)).2.2)
            replace hK_190 := hK_190.trans (congrArg kS ((und_act σ (q_tp σ.1 0)).2.1))
            replace hz_190 := hz_190.symm; subst hz_190; replace hK_190 := hK_190.symm; subst hK_190
            refine z_if_lt (tgt := 209) hx hb (by omega) dL_tries_193 (by decide) (fun c_193 => ?_) (fun c_193 => ?_)
            · exfalso; omega
            · skip
              refine lv_aload_n hx hb dL_tries_196 rfl (lv_at hl 5 rfl) ?_
              refine g_cLl (As := [.ref (gad G 152)]) (rest := []) (414) ⟨hx, hb, hml, hown, hts⟩ (c_L_sum l hl0 G hdm M0 (s_bk σ) (ok_bk hσ)) (va_cwS 1 hts gA_tries_L_sum rfl rfl rfl (by decide +kernel) ⟨Nat.le_of_ble_eq_true rfl, Nat.le_of_ble_eq_true rfl⟩) hG rfl hl.1 rfl (Nat.le_of_ble_eq_true rfl) dL_tries_197 ⟨by omega, by omega⟩ ⟨Nat.le_of_ble_eq_true rfl, Nat.le_of_ble_eq_true rfl⟩ (fun z30 K31 H locs hp_197 hG => ?_)
              obtain ⟨hz_197, hK_197⟩ := hp_197
              replace hz_197 := hz_197.trans (rfl : q_all (s_bk σ).1 = q_all σ.1)
              replace hz_197 := hz_197.symm; subst hz_197; replace hK_197 := hK_197.symm; subst hK_197
              refine lv_lload_n hx hb dL_tries_200 rfl (lv_at hl 4 rfl) ?_
              refine z_lcmp_same hx hb dL_tries_201 ?_
              refine z_if_ne (tgt := 209) hx hb (by decide) dL_tries_202 (by decide) (fun c_202 => ?_) (fun c_202 => ?_)
              · exfalso; omega
              · skip
                refine lv_iconst (v := iZ 1) hx hb dL_tries_205 rfl ?_
                refine lv_goto (tgt := 210) hx hb dL_tries_206 (by decide) ?_
                refine lv_istore (lv' := [(8, .int (iZ 1)), (7, .int (iZ (q_fp σ.1 (q_di σ.1 0)))), (6, .int (iZ (q_ml σ.1 (q_di σ.1 0) a))), (5, .int (iZ (q_bp σ.1 (q_di σ.1 0)))), (4, .int (iZ ((q_di σ.1 0) : Int))), (2, .long (lZ (q_all σ.1))), (0, .ref (gad G 152)), (1, .int (iZ a))]) hx hb dL_tries_210 hl (by decide) rfl (fun ls hl => ?_)
                refine lv_iload hx hb dL_tries_212 (lv_at hl 2 rfl) ?_
                refine lv_bipush (v := iZ (-9)) hx hb dL_tries_214 (by decide) ?_
                refine z_icmp_eq (tgt := 390) hx hb (by omega) (by decide) dL_tries_216 (by decide) (fun c_216 => ?_) (fun c_216 => ?_)
                · skip
                  refine lv_iload hx hb dL_tries_390 (lv_at hl 0 rfl) ?_
                  exact g_zretL (z := 1) hx hb hr hG hlocks (Or.inr rfl) (⟨rfl, by unfold t_tries; rw [if_neg (fun h9 => h9 hob), if_pos c_216]⟩) ⟨by omega, by omega⟩ dL_tries_392
                · skip
                  have hmlx := ml_in hfp c_216
                  refine lv_lconst (v := lZ 0) hx hb dL_tries_219 rfl ?_
                  refine lv_lstore (lv' := [(9, .long (lZ 0)), (8, .int (iZ 1)), (7, .int (iZ (q_fp σ.1 (q_di σ.1 0)))), (6, .int (iZ (q_ml σ.1 (q_di σ.1 0) a))), (5, .int (iZ (q_bp σ.1 (q_di σ.1 0)))), (4, .int (iZ ((q_di σ.1 0) : Int))), (2, .long (lZ (q_all σ.1))), (0, .ref (gad G 152)), (1, .int (iZ a))]) hx hb dL_tries_220 hl (by decide) rfl (fun ls hl => ?_)
                  refine lv_iload hx hb dL_tries_222 (lv_at hl 3 rfl) ?_
                  refine lv_istore (lv' := [(11, .int (iZ (q_ml σ.1 (q_di σ.1 0) a))), (9, .long (lZ 0)), (8, .int (iZ 1)), (7, .int (iZ (q_fp σ.1 (q_di σ.1 0)))), (6, .int (iZ (q_ml σ.1 (q_di σ.1 0) a))), (5, .int (iZ (q_bp σ.1 (q_di σ.1 0)))), (4, .int (iZ ((q_di σ.1 0) : Int))), (2, .long (lZ (q_all σ.1))), (0, .ref (gad G 152)), (1, .int (iZ a))]) hx hb dL_tries_224 hl (by decide) rfl (fun ls hl => ?_)
                  refine lv_iconst (v := iZ 0) hx hb dL_tries_226 rfl ?_
                  refine lv_istore (lv' := [(12, .int (iZ 0)), (11, .int (iZ (q_ml σ.1 (q_di σ.1 0) a))), (9, .long (lZ 0)), (8, .int (iZ 1)), (7, .int (iZ (q_fp σ.1 (q_di σ.1 0)))), (6, .int (iZ (q_ml σ.1 (q_di σ.1 0) a))), (5, .int (iZ (q_bp σ.1 (q_di σ.1 0)))), (4, .int (iZ ((q_di σ.1 0) : Int))), (2, .long (lZ (q_all σ.1))), (0, .ref (gad G 152)), (1, .int (iZ a))]) hx hb dL_tries_227 hl (by decide) rfl (fun ls hl => ?_)
                  have L_229 : ∀ (n_229 : Nat) (p9 : Nat) (x_12 : Int) (x_11 : Int) (x_9 : Int), (x_12 = (p9 : Int)) → (x_11 = (q_lf (q_fp σ.1 (q_di σ.1 0)) (q_ml σ.1 (q_di σ.1 0) a) p9)) → (x_9 = (q_pd (q_pa (q_fp σ.1 (q_di σ.1 0)) (q_ml σ.1 (q_di σ.1 0) a)) p9)) → (p9 ≤ 6) → 6 - p9 < n_229 → ∀ (H : Heap) (locs : List Loc) (ls : Array Slot), gKH G M0 (kS (s_bk σ)) s H locs → lv_has ls 15 [(12, .int (iZ x_12)), (11, .int (iZ x_11)), (9, .long (lZ x_9)), (8, .int (iZ 1)), (7, .int (iZ (q_fp σ.1 (q_di σ.1 0)))), (6, .int (iZ (q_ml σ.1 (q_di σ.1 0) a))), (5, .int (iZ (q_bp σ.1 (q_di σ.1 0)))), (4, .int (iZ ((q_di σ.1 0) : Int))), (2, .long (lZ (q_all σ.1))), (0, .ref (gad G 152)), (1, .int (iZ a))] → W p l e ({ frames := 11, cells := 700, slots := 4200, locals := 262 } : Room) s m [.ref (gad G 152), .int (iZ a)].toArray below meth c H locs (414) (6 * (414)) (gLQ below G M0 (fun z K1 => z = 1 ∧ K1 = kS (t_tries σ a)) [.ref (gad G 152), .int (iZ a)] s 700) (F0 m 229 ls []) := by
                    intro n_229
                    induction n_229 with
                    | zero => intro p9 x_12 x_11 x_9 he_12 he_11 he_9 hp9 hm_229; exact absurd hm_229 (Nat.not_lt_zero _)
                    | succ n_229 ih_229 =>
                      intro p9 x_12 x_11 x_9 he_12 he_11 he_9 hp9 hm_229 H locs ls hG hl
                      subst he_12
                      subst he_11
                      subst he_9
                      refine lv_iload hx hb dL_tries_229 (lv_at hl 0 rfl) ?_
                      refine lv_bipush (v := iZ (6)) hx hb dL_tries_231 (by decide) ?_
                      refine z_icmp_ge (tgt := 294) hx hb (by omega) (by decide) dL_tries_233 (by decide) (fun c_233 => ?_) (fun c_233 => ?_)
                      · skip
                        obtain rfl : p9 = 6 := by omega
                        have hpb := pd_ptb (a := (q_pa (q_fp σ.1 (q_di σ.1 0)) (q_ml σ.1 (q_di σ.1 0) a))) (fun p => pa_in hmlx.1.1 p)
                        have hr2 : cd_run (s_bk σ) (q_pd (q_pa (q_fp σ.1 (q_di σ.1 0)) (q_ml σ.1 (q_di σ.1 0) a)) 6) 1 = 0 ∧ a_run (s_bk σ) (q_pd (q_pa (q_fp σ.1 (q_di σ.1 0)) (q_ml σ.1 (q_di σ.1 0) a)) 6) 1 = (q_sc (q_tp σ.1 (q_pd (q_pa (q_fp σ.1 (q_di σ.1 0)) (q_ml σ.1 (q_di σ.1 0) a)) 6)) (q_di σ.1 0)) ∧ t_run (s_bk σ) (q_pd (q_pa (q_fp σ.1 (q_di σ.1 0)) (q_ml σ.1 (q_di σ.1 0) a)) 6) 1 = (s_act (s_bk σ) (q_tp σ.1 (q_pd (q_pa (q_fp σ.1 (q_di σ.1 0)) (q_ml σ.1 (q_di σ.1 0) a)) 6))) := run1 (σ := s_bk σ) hσ.1.1 hob hpb.1
                        have hs2 : s_ok (s_act (s_bk σ) (q_tp σ.1 (q_pd (q_pa (q_fp σ.1 (q_di σ.1 0)) (q_ml σ.1 (q_di σ.1 0) a)) 6))) := by rw [← hr2.2.2]; exact ok_run (ok_bk hσ)
                        have hi2 : ((q_di σ.1 0 : Nat) : Int) < q_nd (s_act (s_bk σ) (q_tp σ.1 (q_pd (q_pa (q_fp σ.1 (q_di σ.1 0)) (q_ml σ.1 (q_di σ.1 0) a)) 6))).1 := by show _ < q_nd (q_tp σ.1 (q_pd (q_pa (q_fp σ.1 (q_di σ.1 0)) (q_ml σ.1 (q_di σ.1 0) a)) 6)); rw [tp_nd hσ.1.1 hob]; exact hdi.1
                        have hsc2 : 0 ≤ (q_sc (q_tp σ.1 (q_pd (q_pa (q_fp σ.1 (q_di σ.1 0)) (q_ml σ.1 (q_di σ.1 0) a)) 6)) (q_di σ.1 0)) ∧ (q_sc (q_tp σ.1 (q_pd (q_pa (q_fp σ.1 (q_di σ.1 0)) (q_ml σ.1 (q_di σ.1 0) a)) 6)) (q_di σ.1 0)) ≤ 100 := sc_in (hs2.1.1.2.1 _ hi2)
                        have hls := lose_sc hσ.1.1 hob hmlx.1 hfp
                        have hlf6 := lf_end hfp hmlx.1
                        refine lv_aload_n hx hb dL_tries_294 rfl (lv_at hl 9 rfl) ?_
                        refine lv_lload hx hb dL_tries_295 (lv_at hl 2 rfl) ?_
                        refine lv_iconst (v := iZ 1) hx hb dL_tries_297 rfl ?_
                        refine g_cLW (As := [.ref (gad G 152), .long (lZ (q_pd (q_pa (q_fp σ.1 (q_di σ.1 0)) (q_ml σ.1 (q_di σ.1 0) a)) 6)), .int (iZ 1)]) (rest := []) (415) ⟨hx, hb, hml, hown, hts⟩ (c_L_tryRun l hl0 G hdm M0 (s_bk σ) (ok_bk hσ) (q_pd (q_pa (q_fp σ.1 (q_di σ.1 0)) (q_ml σ.1 (q_di σ.1 0) a)) 6) (by omega) 1 (by omega)) (vx_cwSW 3 hts gA_tries_L_tryRun rfl rfl rfl (by decide +kernel) ⟨Nat.le_of_ble_eq_true rfl, Nat.le_of_ble_eq_true rfl⟩) hG rfl hl.1 rfl (Nat.le_of_ble_eq_true rfl) dL_tries_298 ⟨by omega, by omega⟩ ⟨Nat.le_of_ble_eq_true rfl, Nat.le_of_ble_eq_true rfl⟩ (fun z32 K33 H locs hp_298 hG => ?_)
                        obtain ⟨hz_298, hK_298⟩ := hp_298
                        replace hz_298 := hz_298.trans hr2.2.1
                        replace hK_298 := hK_298.trans (congrArg kS (hr2.2.2))
                        replace hz_298 := hz_298.symm; subst hz_298; replace hK_298 := hK_298.symm; subst hK_298
                        refine lv_istore (lv' := [(12, .int (iZ (q_sc (q_tp σ.1 (q_pd (q_pa (q_fp σ.1 (q_di σ.1 0)) (q_ml σ.1 (q_di σ.1 0) a)) 6)) (q_di σ.1 0)))), (11, .int (iZ (q_lf (q_fp σ.1 (q_di σ.1 0)) (q_ml σ.1 (q_di σ.1 0) a) 6))), (9, .long (lZ (q_pd (q_pa (q_fp σ.1 (q_di σ.1 0)) (q_ml σ.1 (q_di σ.1 0) a)) 6))), (8, .int (iZ 1)), (7, .int (iZ (q_fp σ.1 (q_di σ.1 0)))), (6, .int (iZ (q_ml σ.1 (q_di σ.1 0) a))), (5, .int (iZ (q_bp σ.1 (q_di σ.1 0)))), (4, .int (iZ ((q_di σ.1 0) : Int))), (2, .long (lZ (q_all σ.1))), (0, .ref (gad G 152)), (1, .int (iZ a))]) hx hb dL_tries_301 hl (by decide) rfl (fun ls hl => ?_)
                        refine lv_iconst (v := iZ 0) hx hb dL_tries_303 rfl ?_
                        refine lv_istore (lv' := [(13, .int (iZ 0)), (12, .int (iZ (q_sc (q_tp σ.1 (q_pd (q_pa (q_fp σ.1 (q_di σ.1 0)) (q_ml σ.1 (q_di σ.1 0) a)) 6)) (q_di σ.1 0)))), (11, .int (iZ (q_lf (q_fp σ.1 (q_di σ.1 0)) (q_ml σ.1 (q_di σ.1 0) a) 6))), (9, .long (lZ (q_pd (q_pa (q_fp σ.1 (q_di σ.1 0)) (q_ml σ.1 (q_di σ.1 0) a)) 6))), (8, .int (iZ 1)), (7, .int (iZ (q_fp σ.1 (q_di σ.1 0)))), (6, .int (iZ (q_ml σ.1 (q_di σ.1 0) a))), (5, .int (iZ (q_bp σ.1 (q_di σ.1 0)))), (4, .int (iZ ((q_di σ.1 0) : Int))), (2, .long (lZ (q_all σ.1))), (0, .ref (gad G 152)), (1, .int (iZ a))]) hx hb dL_tries_304 hl (by decide) rfl (fun ls hl => ?_)
                        refine lv_iconst (v := iZ 0) hx hb dL_tries_306 rfl ?_
                        refine lv_istore (lv' := [(14, .int (iZ 0)), (13, .int (iZ 0)), (12, .int (iZ (q_sc (q_tp σ.1 (q_pd (q_pa (q_fp σ.1 (q_di σ.1 0)) (q_ml σ.1 (q_di σ.1 0) a)) 6)) (q_di σ.1 0)))), (11, .int (iZ (q_lf (q_fp σ.1 (q_di σ.1 0)) (q_ml σ.1 (q_di σ.1 0) a) 6))), (9, .long (lZ (q_pd (q_pa (q_fp σ.1 (q_di σ.1 0)) (q_ml σ.1 (q_di σ.1 0) a)) 6))), (8, .int (iZ 1)), (7, .int (iZ (q_fp σ.1 (q_di σ.1 0)))), (6, .int (iZ (q_ml σ.1 (q_di σ.1 0) a))), (5, .int (iZ (q_bp σ.1 (q_di σ.1 0)))), (4, .int (iZ ((q_di σ.1 0) : Int))), (2, .long (lZ (q_all σ.1))), (0, .ref (gad G 152)), (1, .int (iZ a))]) hx hb dL_tries_307 hl (by decide) rfl (fun ls hl => ?_)
                        have L_309 : ∀ (n_309 : Nat) (j : Nat) (x_14 : Int) (x_13 : Int), (x_14 = (j : Int)) → (x_13 = (q_ct (fun x => decide ((q_sc (q_tp σ.1 (q_pd (q_pa (q_fp σ.1 (q_di σ.1 0)) (q_ml σ.1 (q_di σ.1 0) a)) 6)) (q_di σ.1 0)) < q_sc (q_tp σ.1 (q_pd (q_pa (q_fp σ.1 (q_di σ.1 0)) (q_ml σ.1 (q_di σ.1 0) a)) 6)) x)) j)) → ((j : Int) ≤ q_nd σ.1) → (q_nd σ.1).toNat - j < n_309 → ∀ (H : Heap) (locs : List Loc) (ls : Array Slot), gKH G M0 (kS (s_act (s_bk σ) (q_tp σ.1 (q_pd (q_pa (q_fp σ.1 (q_di σ.1 0)) (q_ml σ.1 (q_di σ.1 0) a)) 6)))) s H locs → lv_has ls 15 [(14, .int (iZ x_14)), (13, .int (iZ x_13)), (12, .int (iZ (q_sc (q_tp σ.1 (q_pd (q_pa (q_fp σ.1 (q_di σ.1 0)) (q_ml σ.1 (q_di σ.1 0) a)) 6)) (q_di σ.1 0)))), (11, .int (iZ (q_lf (q_fp σ.1 (q_di σ.1 0)) (q_ml σ.1 (q_di σ.1 0) a) 6))), (9, .long (lZ (q_pd (q_pa (q_fp σ.1 (q_di σ.1 0)) (q_ml σ.1 (q_di σ.1 0) a)) 6))), (8, .int (iZ 1)), (7, .int (iZ (q_fp σ.1 (q_di σ.1 0)))), (6, .int (iZ (q_ml σ.1 (q_di σ.1 0) a))), (5, .int (iZ (q_bp σ.1 (q_di σ.1 0)))), (4, .int (iZ ((q_di σ.1 0) : Int))), (2, .long (lZ (q_all σ.1))), (0, .ref (gad G 152)), (1, .int (iZ a))] → W p l e ({ frames := 11, cells := 700, slots := 4200, locals := 262 } : Room) s m [.ref (gad G 152), .int (iZ a)].toArray below meth c H locs (415 + 2 * j) (6 * (415 + 2 * j)) (gLQ below G M0 (fun z K1 => z = 1 ∧ K1 = kS (t_tries σ a)) [.ref (gad G 152), .int (iZ a)] s 700) (F0 m 309 ls []) := by
                          intro n_309
                          induction n_309 with
                          | zero => intro j x_14 x_13 he_14 he_13 hj hm_309; exact absurd hm_309 (Nat.not_lt_zero _)
                          | succ n_309 ih_309 =>
                            intro j x_14 x_13 he_14 he_13 hj hm_309 H locs ls hG hl
                            subst he_14
                            subst he_13
                            refine lv_iload hx hb dL_tries_309 (lv_at hl 0 rfl) ?_
                            refine lv_aload_n hx hb dL_tries_311 rfl (lv_at hl 11 rfl) ?_
                            refine lv_iconst (v := iZ 0) hx hb dL_tries_312 rfl ?_
                            refine g_cL (As := [.ref (gad G 152), .int (iZ 0)]) (rest := [.int (iZ (j : Int))]) (415 + 2 * j + 1) ⟨hx, hb, hml, hown, hts⟩ (c_L_about l hl0 G hdm M0 (s_act (s_bk σ) (q_tp σ.1 (q_pd (q_pa (q_fp σ.1 (q_di σ.1 0)) (q_ml σ.1 (q_di σ.1 0) a)) 6))) hs2 0 (by omega)) (va_cwS 2 hts gA_tries_L_about rfl rfl rfl (by decide +kernel) ⟨Nat.le_of_ble_eq_true rfl, Nat.le_of_ble_eq_true rfl⟩) hG rfl hl.1 rfl (Nat.le_of_ble_eq_true rfl) dL_tries_313 ⟨by omega, by omega⟩ ⟨by dsimp only; omega, by dsimp only; omega⟩ (fun z34 K35 H locs hp_313 hG => ?_)
                            obtain ⟨hz_313, hK_313⟩ := hp_313
                            replace hz_313 := hz_313.trans ((a_about_0 (s_act (s_bk σ) (q_tp σ.1 (q_pd (q_pa (q_fp σ.1 (q_di σ.1 0)) (q_ml σ.1 (q_di σ.1 0) a)) 6)))).trans (tp_nd hσ.1.1 hob (q_pd (q_pa (q_fp σ.1 (q_di σ.1 0)) (q_ml σ.1 (q_di σ.1 0) a)) 6)))
                            replace hz_313 := hz_313.symm; subst hz_313; replace hK_313 := hK_313.symm; subst hK_313
                            refine z_icmp_ge (tgt := 347) hx hb (by omega) (by omega) dL_tries_316 (by decide) (fun c_316 => ?_) (fun c_316 => ?_)
                            · skip
                              refine lv_iload hx hb dL_tries_347 (lv_at hl 5 rfl) ?_
                              refine lv_iload hx hb dL_tries_349 (lv_at hl 3 rfl) ?_
                              refine z_if_ne (tgt := 386) hx hb (by omega) dL_tries_351 (by decide) (fun c_351 => ?_) (fun c_351 => ?_)
                              · exfalso; omega
                              · skip
                                have hjn : j = (q_nd σ.1).toNat := by omega
                                have hab9 := lose_ab hσ.1.1 hob (v := (q_pd (q_pa (q_fp σ.1 (q_di σ.1 0)) (q_ml σ.1 (q_di σ.1 0) a)) 6)) (s := (q_sc (q_tp σ.1 (q_pd (q_pa (q_fp σ.1 (q_di σ.1 0)) (q_ml σ.1 (q_di σ.1 0) a)) 6)) (q_di σ.1 0))) rfl
                                rw [← hjn] at hab9
                                have hml2 := hmlx.2
                                rw [← hls] at hml2
                                have hct9 := ct_in (fun x => decide ((q_sc (q_tp σ.1 (q_pd (q_pa (q_fp σ.1 (q_di σ.1 0)) (q_ml σ.1 (q_di σ.1 0) a)) 6)) (q_di σ.1 0)) < q_sc (q_tp σ.1 (q_pd (q_pa (q_fp σ.1 (q_di σ.1 0)) (q_ml σ.1 (q_di σ.1 0) a)) 6)) x)) j
                                refine lv_iload hx hb dL_tries_354 (lv_at hl 1 rfl) ?_
                                refine lv_iload_n hx hb dL_tries_356 rfl (lv_at hl 12 rfl) ?_
                                refine z_icmp_ge (tgt := 386) hx hb (by omega) (by omega) dL_tries_357 (by decide) (fun c_357 => ?_) (fun c_357 => ?_)
                                · exfalso; omega
                                · skip
                                  refine lv_aload_n hx hb dL_tries_360 rfl (lv_at hl 11 rfl) ?_
                                  refine lv_bipush (v := iZ (13)) hx hb dL_tries_361 (by decide) ?_
                                  refine lv_iconst (v := iZ 0) hx hb dL_tries_363 rfl ?_
                                  refine lv_iconst (v := iZ 0) hx hb dL_tries_364 rfl ?_
                                  refine lv_iconst (v := iZ 0) hx hb dL_tries_365 rfl ?_
                                  refine lv_iconst (v := iZ 0) hx hb dL_tries_366 rfl ?_
                                  refine g_cL (As := [.ref (gad G 152), .int (iZ 13), .int (iZ 0), .int (iZ 0), .int (iZ 0), .int (iZ 0)]) (rest := [.int (iZ 1)]) (415 + 2 * j + 2) ⟨hx, hb, hml, hown, hts⟩ (c_L_call_Undo l hl0 G hdm M0 (s_act (s_bk σ) (q_tp σ.1 (q_pd (q_pa (q_fp σ.1 (q_di σ.1 0)) (q_ml σ.1 (q_di σ.1 0) a)) 6))) hs2  0 0 0 0) (va_cwS 6 hts gA_tries_L_call rfl rfl rfl (by decide +kernel) ⟨Nat.le_of_ble_eq_true rfl, Nat.le_of_ble_eq_true rfl⟩) hG rfl hl.1 rfl (Nat.le_of_ble_eq_true rfl) dL_tries_367 ⟨by omega, by omega⟩ ⟨by dsimp only; omega, by dsimp only; omega⟩ (fun z36 K37 H locs hp_367 hG => ?_)
                                  obtain ⟨hz_367, hK_367⟩ := hp_367
                                  replace hz_367 := hz_367.trans ((und_act (s_bk σ) (q_tp σ.1 (q_pd (q_pa (q_fp σ.1 (q_di σ.1 0)) (q_ml σ.1 (q_di σ.1 0) a)) 6))).2.2)
                                  replace hK_367 := hK_367.trans (congrArg kS ((und_act (s_bk σ) (q_tp σ.1 (q_pd (q_pa (q_fp σ.1 (q_di σ.1 0)) (q_ml σ.1 (q_di σ.1 0) a)) 6))).2.1))
                                  replace hz_367 := hz_367.symm; subst hz_367; replace hK_367 := hK_367.symm; subst hK_367
                                  refine z_if_lt (tgt := 386) hx hb (by omega) dL_tries_370 (by decide) (fun c_370 => ?_) (fun c_370 => ?_)
                                  · exfalso; omega
                                  · skip
                                    refine lv_aload_n hx hb dL_tries_373 rfl (lv_at hl 11 rfl) ?_
                                    refine g_cLl (As := [.ref (gad G 152)]) (rest := [.int (iZ 1)]) (415 + 2 * j + 202) ⟨hx, hb, hml, hown, hts⟩ (c_L_sum l hl0 G hdm M0 (s_bk (s_bk σ)) (ok_bk (ok_bk hσ))) (va_cwS 1 hts gA_tries_L_sum rfl rfl rfl (by decide +kernel) ⟨Nat.le_of_ble_eq_true rfl, Nat.le_of_ble_eq_true rfl⟩) hG rfl hl.1 rfl (Nat.le_of_ble_eq_true rfl) dL_tries_374 ⟨by omega, by omega⟩ ⟨by dsimp only; omega, by dsimp only; omega⟩ (fun z38 K39 H locs hp_374 hG => ?_)
                                    obtain ⟨hz_374, hK_374⟩ := hp_374
                                    replace hz_374 := hz_374.trans (rfl : q_all (s_bk (s_bk σ)).1 = q_all σ.1)
                                    replace hz_374 := hz_374.symm; subst hz_374; replace hK_374 := hK_374.symm; subst hK_374
                                    refine lv_lload_n hx hb dL_tries_377 rfl (lv_at hl 10 rfl) ?_
                                    refine z_lcmp_same hx hb dL_tries_378 ?_
                                    refine z_if_ne (tgt := 386) hx hb (by decide) dL_tries_379 (by decide) (fun c_379 => ?_) (fun c_379 => ?_)
                                    · exfalso; omega
                                    · skip
                                      refine lv_iconst (v := iZ 1) hx hb dL_tries_382 rfl ?_
                                      refine lv_goto (tgt := 387) hx hb dL_tries_383 (by decide) ?_
                                      refine z_iand_b hx hb (Or.inr rfl) dL_tries_387 ?_
                                      refine lv_istore (lv' := [(8, .int (iZ 1)), (14, .int (iZ (j : Int))), (13, .int (iZ (q_ct (fun x => decide ((q_sc (q_tp σ.1 (q_pd (q_pa (q_fp σ.1 (q_di σ.1 0)) (q_ml σ.1 (q_di σ.1 0) a)) 6)) (q_di σ.1 0)) < q_sc (q_tp σ.1 (q_pd (q_pa (q_fp σ.1 (q_di σ.1 0)) (q_ml σ.1 (q_di σ.1 0) a)) 6)) x)) j))), (12, .int (iZ (q_sc (q_tp σ.1 (q_pd (q_pa (q_fp σ.1 (q_di σ.1 0)) (q_ml σ.1 (q_di σ.1 0) a)) 6)) (q_di σ.1 0)))), (11, .int (iZ (q_lf (q_fp σ.1 (q_di σ.1 0)) (q_ml σ.1 (q_di σ.1 0) a) 6))), (9, .long (lZ (q_pd (q_pa (q_fp σ.1 (q_di σ.1 0)) (q_ml σ.1 (q_di σ.1 0) a)) 6))), (7, .int (iZ (q_fp σ.1 (q_di σ.1 0)))), (6, .int (iZ (q_ml σ.1 (q_di σ.1 0) a))), (5, .int (iZ (q_bp σ.1 (q_di σ.1 0)))), (4, .int (iZ ((q_di σ.1 0) : Int))), (2, .long (lZ (q_all σ.1))), (0, .ref (gad G 152)), (1, .int (iZ a))]) hx hb dL_tries_388 hl (by decide) rfl (fun ls hl => ?_)
                                      refine lv_iload hx hb dL_tries_390 (lv_at hl 0 rfl) ?_
                                      exact g_zretL (z := 1) hx hb hr hG hlocks (Or.inr rfl) (⟨rfl, by unfold t_tries; rw [if_neg (fun h9 => h9 hob), if_neg c_216]⟩) ⟨by omega, by omega⟩ dL_tries_392
                            · skip
                              have hj2 : (j : Int) < q_nd (s_act (s_bk σ) (q_tp σ.1 (q_pd (q_pa (q_fp σ.1 (q_di σ.1 0)) (q_ml σ.1 (q_di σ.1 0) a)) 6))).1 := by show _ < q_nd (q_tp σ.1 (q_pd (q_pa (q_fp σ.1 (q_di σ.1 0)) (q_ml σ.1 (q_di σ.1 0) a)) 6)); rw [tp_nd hσ.1.1 hob]; omega
                              have hscj : 0 ≤ q_sc (q_tp σ.1 (q_pd (q_pa (q_fp σ.1 (q_di σ.1 0)) (q_ml σ.1 (q_di σ.1 0) a)) 6)) j ∧ q_sc (q_tp σ.1 (q_pd (q_pa (q_fp σ.1 (q_di σ.1 0)) (q_ml σ.1 (q_di σ.1 0) a)) 6)) j ≤ 100 := sc_in (hs2.1.1.2.1 _ hj2)
                              refine lv_iload hx hb dL_tries_319 (lv_at hl 1 rfl) ?_
                              have J_338 : ∀ (v9 : Int), (v9 = (if (q_sc (q_tp σ.1 (q_pd (q_pa (q_fp σ.1 (q_di σ.1 0)) (q_ml σ.1 (q_di σ.1 0) a)) 6)) (q_di σ.1 0)) < q_sc (q_tp σ.1 (q_pd (q_pa (q_fp σ.1 (q_di σ.1 0)) (q_ml σ.1 (q_di σ.1 0) a)) 6)) j then (1 : Int) else 0)) → ∀ (H : Heap) (locs : List Loc) (ls : Array Slot), gKH G M0 (kS (s_act (s_bk σ) (q_tp σ.1 (q_pd (q_pa (q_fp σ.1 (q_di σ.1 0)) (q_ml σ.1 (q_di σ.1 0) a)) 6)))) s H locs → lv_has ls 15 [(14, .int (iZ (j : Int))), (13, .int (iZ (q_ct (fun x => decide ((q_sc (q_tp σ.1 (q_pd (q_pa (q_fp σ.1 (q_di σ.1 0)) (q_ml σ.1 (q_di σ.1 0) a)) 6)) (q_di σ.1 0)) < q_sc (q_tp σ.1 (q_pd (q_pa (q_fp σ.1 (q_di σ.1 0)) (q_ml σ.1 (q_di σ.1 0) a)) 6)) x)) j))), (12, .int (iZ (q_sc (q_tp σ.1 (q_pd (q_pa (q_fp σ.1 (q_di σ.1 0)) (q_ml σ.1 (q_di σ.1 0) a)) 6)) (q_di σ.1 0)))), (11, .int (iZ (q_lf (q_fp σ.1 (q_di σ.1 0)) (q_ml σ.1 (q_di σ.1 0) a) 6))), (9, .long (lZ (q_pd (q_pa (q_fp σ.1 (q_di σ.1 0)) (q_ml σ.1 (q_di σ.1 0) a)) 6))), (8, .int (iZ 1)), (7, .int (iZ (q_fp σ.1 (q_di σ.1 0)))), (6, .int (iZ (q_ml σ.1 (q_di σ.1 0) a))), (5, .int (iZ (q_bp σ.1 (q_di σ.1 0)))), (4, .int (iZ ((q_di σ.1 0) : Int))), (2, .long (lZ (q_all σ.1))), (0, .ref (gad G 152)), (1, .int (iZ a))] → W p l e ({ frames := 11, cells := 700, slots := 4200, locals := 262 } : Room) s m [.ref (gad G 152), .int (iZ a)].toArray below meth c H locs (415 + 2 * j + 2) (6 * (415 + 2 * j + 2)) (gLQ below G M0 (fun z K1 => z = 1 ∧ K1 = kS (t_tries σ a)) [.ref (gad G 152), .int (iZ a)] s 700) (F0 m 338 ls [.int (iZ v9), .int (iZ (q_ct (fun x => decide ((q_sc (q_tp σ.1 (q_pd (q_pa (q_fp σ.1 (q_di σ.1 0)) (q_ml σ.1 (q_di σ.1 0) a)) 6)) (q_di σ.1 0)) < q_sc (q_tp σ.1 (q_pd (q_pa (q_fp σ.1 (q_di σ.1 0)) (q_ml σ.1 (q_di σ.1 0) a)) 6)) x)) j))]) := by
                                intro v9 hv9 H locs ls hG hl
                                refine z_iadd (z := ((q_ct (fun x => decide ((q_sc (q_tp σ.1 (q_pd (q_pa (q_fp σ.1 (q_di σ.1 0)) (q_ml σ.1 (q_di σ.1 0) a)) 6)) (q_di σ.1 0)) < q_sc (q_tp σ.1 (q_pd (q_pa (q_fp σ.1 (q_di σ.1 0)) (q_ml σ.1 (q_di σ.1 0) a)) 6)) x)) j) + v9)) hx hb (by omega) dL_tries_338 ?_
                                refine lv_istore (lv' := [(13, .int (iZ ((q_ct (fun x => decide ((q_sc (q_tp σ.1 (q_pd (q_pa (q_fp σ.1 (q_di σ.1 0)) (q_ml σ.1 (q_di σ.1 0) a)) 6)) (q_di σ.1 0)) < q_sc (q_tp σ.1 (q_pd (q_pa (q_fp σ.1 (q_di σ.1 0)) (q_ml σ.1 (q_di σ.1 0) a)) 6)) x)) j) + v9))), (14, .int (iZ (j : Int))), (12, .int (iZ (q_sc (q_tp σ.1 (q_pd (q_pa (q_fp σ.1 (q_di σ.1 0)) (q_ml σ.1 (q_di σ.1 0) a)) 6)) (q_di σ.1 0)))), (11, .int (iZ (q_lf (q_fp σ.1 (q_di σ.1 0)) (q_ml σ.1 (q_di σ.1 0) a) 6))), (9, .long (lZ (q_pd (q_pa (q_fp σ.1 (q_di σ.1 0)) (q_ml σ.1 (q_di σ.1 0) a)) 6))), (8, .int (iZ 1)), (7, .int (iZ (q_fp σ.1 (q_di σ.1 0)))), (6, .int (iZ (q_ml σ.1 (q_di σ.1 0) a))), (5, .int (iZ (q_bp σ.1 (q_di σ.1 0)))), (4, .int (iZ ((q_di σ.1 0) : Int))), (2, .long (lZ (q_all σ.1))), (0, .ref (gad G 152)), (1, .int (iZ a))]) hx hb dL_tries_339 hl (by decide) rfl (fun ls hl => ?_)
                                refine z_iinc (z := ((j : Int) + 1)) (lv' := [(14, .int (iZ ((j : Int) + 1))), (13, .int (iZ ((q_ct (fun x => decide ((q_sc (q_tp σ.1 (q_pd (q_pa (q_fp σ.1 (q_di σ.1 0)) (q_ml σ.1 (q_di σ.1 0) a)) 6)) (q_di σ.1 0)) < q_sc (q_tp σ.1 (q_pd (q_pa (q_fp σ.1 (q_di σ.1 0)) (q_ml σ.1 (q_di σ.1 0) a)) 6)) x)) j) + v9))), (12, .int (iZ (q_sc (q_tp σ.1 (q_pd (q_pa (q_fp σ.1 (q_di σ.1 0)) (q_ml σ.1 (q_di σ.1 0) a)) 6)) (q_di σ.1 0)))), (11, .int (iZ (q_lf (q_fp σ.1 (q_di σ.1 0)) (q_ml σ.1 (q_di σ.1 0) a) 6))), (9, .long (lZ (q_pd (q_pa (q_fp σ.1 (q_di σ.1 0)) (q_ml σ.1 (q_di σ.1 0) a)) 6))), (8, .int (iZ 1)), (7, .int (iZ (q_fp σ.1 (q_di σ.1 0)))), (6, .int (iZ (q_ml σ.1 (q_di σ.1 0) a))), (5, .int (iZ (q_bp σ.1 (q_di σ.1 0)))), (4, .int (iZ ((q_di σ.1 0) : Int))), (2, .long (lZ (q_all σ.1))), (0, .ref (gad G 152)), (1, .int (iZ a))]) hx hb dL_tries_341 hl (k := 1) rfl (by omega) (by decide) rfl (fun ls hl => ?_)
                                refine lv_goto (tgt := 309) hx hb dL_tries_344 (by decide) ?_
                                refine W.widen (k := 415 + 2 * (j + 1)) (n := 6 * (415 + 2 * (j + 1))) (by omega) (by omega) ?_
                                exact ih_309 (j + 1) ((j : Int) + 1) ((q_ct (fun x => decide ((q_sc (q_tp σ.1 (q_pd (q_pa (q_fp σ.1 (q_di σ.1 0)) (q_ml σ.1 (q_di σ.1 0) a)) 6)) (q_di σ.1 0)) < q_sc (q_tp σ.1 (q_pd (q_pa (q_fp σ.1 (q_di σ.1 0)) (q_ml σ.1 (q_di σ.1 0) a)) 6)) x)) j) + v9) (by omega) (by rw [q_ct, hv9]; simp only [decide_eq_true_eq]) (by omega) (by omega) _ _ _ hG (lv_sub hl [0, 1, 2, 3, 4, 5, 6, 7, 8, 9, 10, 11, 12] rfl)
                              refine lv_aload_n hx hb dL_tries_321 rfl (lv_at hl 11 rfl) ?_
                              refine lv_iload hx hb dL_tries_322 (lv_at hl 0 rfl) ?_
                              refine lv_iconst (v := iZ 4) hx hb dL_tries_324 rfl ?_
                              refine g_cL (As := [.ref (gad G 152), .int (iZ (j : Int)), .int (iZ 4)]) (rest := [.int (iZ (q_ct (fun x => decide ((q_sc (q_tp σ.1 (q_pd (q_pa (q_fp σ.1 (q_di σ.1 0)) (q_ml σ.1 (q_di σ.1 0) a)) 6)) (q_di σ.1 0)) < q_sc (q_tp σ.1 (q_pd (q_pa (q_fp σ.1 (q_di σ.1 0)) (q_ml σ.1 (q_di σ.1 0) a)) 6)) x)) j))]) (415 + 2 * j + 2) ⟨hx, hb, hml, hown, hts⟩ (c_L_dog l hl0 G hdm M0 (s_act (s_bk σ) (q_tp σ.1 (q_pd (q_pa (q_fp σ.1 (q_di σ.1 0)) (q_ml σ.1 (q_di σ.1 0) a)) 6))) hs2 (j : Int) (by omega) 4 (by omega)) (va_cwS 3 hts gA_tries_L_dog rfl rfl rfl (by decide +kernel) ⟨Nat.le_of_ble_eq_true rfl, Nat.le_of_ble_eq_true rfl⟩) hG rfl hl.1 rfl (Nat.le_of_ble_eq_true rfl) dL_tries_325 ⟨by omega, by omega⟩ ⟨by dsimp only; omega, by dsimp only; omega⟩ (fun z40 K41 H locs hp_325 hG => ?_)
                              obtain ⟨hz_325, hK_325⟩ := hp_325
                              replace hz_325 := hz_325.trans (show a_dog (s_act (s_bk σ) (q_tp σ.1 (q_pd (q_pa (q_fp σ.1 (q_di σ.1 0)) (q_ml σ.1 (q_di σ.1 0) a)) 6))) (j : Int) 4 = q_sc (q_tp σ.1 (q_pd (q_pa (q_fp σ.1 (q_di σ.1 0)) (q_ml σ.1 (q_di σ.1 0) a)) 6)) j from a_dog_4 hj2)
                              replace hz_325 := hz_325.symm; subst hz_325; replace hK_325 := hK_325.symm; subst hK_325
                              refine lv_iload hx hb dL_tries_328 (lv_at hl 2 rfl) ?_
                              refine z_icmp_le (tgt := 337) hx hb (by omega) (by omega) dL_tries_330 (by decide) (fun c_330 => ?_) (fun c_330 => ?_)
                              · skip
                                refine lv_iconst (v := iZ 0) hx hb dL_tries_337 rfl ?_
                                refine W.widen (k := 415 + 2 * j + 2) (n := 6 * (415 + 2 * j + 2)) (by omega) (by omega) ?_
                                exact J_338 0 (by split <;> omega) _ _ _ hG (lv_sub hl [0, 1, 2, 3, 4, 5, 6, 7, 8, 9, 10, 11, 12] rfl)
                              · skip
                                refine lv_iconst (v := iZ 1) hx hb dL_tries_333 rfl ?_
                                refine lv_goto (tgt := 338) hx hb dL_tries_334 (by decide) ?_
                                refine W.widen (k := 415 + 2 * j + 2) (n := 6 * (415 + 2 * j + 2)) (by omega) (by omega) ?_
                                exact J_338 1 (by split <;> omega) _ _ _ hG (lv_sub hl [0, 1, 2, 3, 4, 5, 6, 7, 8, 9, 10, 11, 12] rfl)
                        refine W.widen (k := 415 + 2 * 0) (n := 6 * (415 + 2 * 0)) (by omega) (by omega) ?_
                        exact L_309 _ 0 0 0 rfl rfl (by omega) (Nat.lt_succ_self _) _ _ _ hG (lv_sub hl [0, 1, 2, 3, 4, 5, 6, 7, 8, 9, 10, 11, 12] rfl)
                      · skip
                        have hlf9 := lf_in (f := (q_fp σ.1 (q_di σ.1 0))) hmlx.1.1 p9
                        have hwt9 := wth_in p9
                        have J_267 : ∀ (v9 : Int), (v9 = q_pa (q_fp σ.1 (q_di σ.1 0)) (q_ml σ.1 (q_di σ.1 0) a) p9) → ∀ (H : Heap) (locs : List Loc) (ls : Array Slot), gKH G M0 (kS (s_bk σ)) s H locs → lv_has ls 15 [(12, .int (iZ (p9 : Int))), (11, .int (iZ (q_lf (q_fp σ.1 (q_di σ.1 0)) (q_ml σ.1 (q_di σ.1 0) a) p9))), (9, .long (lZ (q_pd (q_pa (q_fp σ.1 (q_di σ.1 0)) (q_ml σ.1 (q_di σ.1 0) a)) p9))), (8, .int (iZ 1)), (7, .int (iZ (q_fp σ.1 (q_di σ.1 0)))), (6, .int (iZ (q_ml σ.1 (q_di σ.1 0) a))), (5, .int (iZ (q_bp σ.1 (q_di σ.1 0)))), (4, .int (iZ ((q_di σ.1 0) : Int))), (2, .long (lZ (q_all σ.1))), (0, .ref (gad G 152)), (1, .int (iZ a))] → W p l e ({ frames := 11, cells := 700, slots := 4200, locals := 262 } : Room) s m [.ref (gad G 152), .int (iZ a)].toArray below meth c H locs (414) (6 * (414)) (gLQ below G M0 (fun z K1 => z = 1 ∧ K1 = kS (t_tries σ a)) [.ref (gad G 152), .int (iZ a)] s 700) (F0 m 267 ls [.int (iZ v9)]) := by
                          intro v9 hv9 H locs ls hG hl
                          subst hv9
                          refine lv_istore (lv' := [(13, .int (iZ (q_pa (q_fp σ.1 (q_di σ.1 0)) (q_ml σ.1 (q_di σ.1 0) a) p9))), (12, .int (iZ (p9 : Int))), (11, .int (iZ (q_lf (q_fp σ.1 (q_di σ.1 0)) (q_ml σ.1 (q_di σ.1 0) a) p9))), (9, .long (lZ (q_pd (q_pa (q_fp σ.1 (q_di σ.1 0)) (q_ml σ.1 (q_di σ.1 0) a)) p9))), (8, .int (iZ 1)), (7, .int (iZ (q_fp σ.1 (q_di σ.1 0)))), (6, .int (iZ (q_ml σ.1 (q_di σ.1 0) a))), (5, .int (iZ (q_bp σ.1 (q_di σ.1 0)))), (4, .int (iZ ((q_di σ.1 0) : Int))), (2, .long (lZ (q_all σ.1))), (0, .ref (gad G 152)), (1, .int (iZ a))]) hx hb dL_tries_267 hl (by decide) rfl (fun ls hl => ?_)
                          have hpa9 := pa_in (f := (q_fp σ.1 (q_di σ.1 0))) hmlx.1.1 p9
                          refine lv_ldc2 (v := lZ (100)) hx hb hown (by rw [show lZ (100) = (100 : Int64) from by decide]; exact hts (.constantLong RL 163 (100)) (List.mem_cons_of_mem _ (List.mem_append_left _ (by decide +kernel)))) dL_tries_269 ?_
                          refine lv_lload hx hb dL_tries_272 (lv_at hl 3 rfl) ?_
                          refine z_lmul (z := (100 * (q_pd (q_pa (q_fp σ.1 (q_di σ.1 0)) (q_ml σ.1 (q_di σ.1 0) a)) p9))) hx hb (by omega) dL_tries_274 ?_
                          refine lv_iload hx hb dL_tries_275 (lv_at hl 0 rfl) ?_
                          refine z_i2l hx hb (by omega) dL_tries_277 ?_
                          refine z_ladd (z := (100 * (q_pd (q_pa (q_fp σ.1 (q_di σ.1 0)) (q_ml σ.1 (q_di σ.1 0) a)) p9) + (q_pa (q_fp σ.1 (q_di σ.1 0)) (q_ml σ.1 (q_di σ.1 0) a) p9))) hx hb (by omega) dL_tries_278 ?_
                          refine lv_lstore (lv' := [(9, .long (lZ (100 * (q_pd (q_pa (q_fp σ.1 (q_di σ.1 0)) (q_ml σ.1 (q_di σ.1 0) a)) p9) + (q_pa (q_fp σ.1 (q_di σ.1 0)) (q_ml σ.1 (q_di σ.1 0) a) p9)))), (13, .int (iZ (q_pa (q_fp σ.1 (q_di σ.1 0)) (q_ml σ.1 (q_di σ.1 0) a) p9))), (12, .int (iZ (p9 : Int))), (11, .int (iZ (q_lf (q_fp σ.1 (q_di σ.1 0)) (q_ml σ.1 (q_di σ.1 0) a) p9))), (8, .int (iZ 1)), (7, .int (iZ (q_fp σ.1 (q_di σ.1 0)))), (6, .int (iZ (q_ml σ.1 (q_di σ.1 0) a))), (5, .int (iZ (q_bp σ.1 (q_di σ.1 0)))), (4, .int (iZ ((q_di σ.1 0) : Int))), (2, .long (lZ (q_all σ.1))), (0, .ref (gad G 152)), (1, .int (iZ a))]) hx hb dL_tries_279 hl (by decide) rfl (fun ls hl => ?_)
                          refine lv_iload hx hb dL_tries_281 (lv_at hl 3 rfl) ?_
                          refine lv_iload hx hb dL_tries_283 (lv_at hl 1 rfl) ?_
                          refine z_isub (z := ((q_lf (q_fp σ.1 (q_di σ.1 0)) (q_ml σ.1 (q_di σ.1 0) a) p9) - (q_pa (q_fp σ.1 (q_di σ.1 0)) (q_ml σ.1 (q_di σ.1 0) a) p9))) hx hb (by omega) dL_tries_285 ?_
                          refine lv_istore (lv' := [(11, .int (iZ ((q_lf (q_fp σ.1 (q_di σ.1 0)) (q_ml σ.1 (q_di σ.1 0) a) p9) - (q_pa (q_fp σ.1 (q_di σ.1 0)) (q_ml σ.1 (q_di σ.1 0) a) p9)))), (9, .long (lZ (100 * (q_pd (q_pa (q_fp σ.1 (q_di σ.1 0)) (q_ml σ.1 (q_di σ.1 0) a)) p9) + (q_pa (q_fp σ.1 (q_di σ.1 0)) (q_ml σ.1 (q_di σ.1 0) a) p9)))), (13, .int (iZ (q_pa (q_fp σ.1 (q_di σ.1 0)) (q_ml σ.1 (q_di σ.1 0) a) p9))), (12, .int (iZ (p9 : Int))), (8, .int (iZ 1)), (7, .int (iZ (q_fp σ.1 (q_di σ.1 0)))), (6, .int (iZ (q_ml σ.1 (q_di σ.1 0) a))), (5, .int (iZ (q_bp σ.1 (q_di σ.1 0)))), (4, .int (iZ ((q_di σ.1 0) : Int))), (2, .long (lZ (q_all σ.1))), (0, .ref (gad G 152)), (1, .int (iZ a))]) hx hb dL_tries_286 hl (by decide) rfl (fun ls hl => ?_)
                          refine z_iinc (z := ((p9 : Int) + 1)) (lv' := [(12, .int (iZ ((p9 : Int) + 1))), (11, .int (iZ ((q_lf (q_fp σ.1 (q_di σ.1 0)) (q_ml σ.1 (q_di σ.1 0) a) p9) - (q_pa (q_fp σ.1 (q_di σ.1 0)) (q_ml σ.1 (q_di σ.1 0) a) p9)))), (9, .long (lZ (100 * (q_pd (q_pa (q_fp σ.1 (q_di σ.1 0)) (q_ml σ.1 (q_di σ.1 0) a)) p9) + (q_pa (q_fp σ.1 (q_di σ.1 0)) (q_ml σ.1 (q_di σ.1 0) a) p9)))), (13, .int (iZ (q_pa (q_fp σ.1 (q_di σ.1 0)) (q_ml σ.1 (q_di σ.1 0) a) p9))), (8, .int (iZ 1)), (7, .int (iZ (q_fp σ.1 (q_di σ.1 0)))), (6, .int (iZ (q_ml σ.1 (q_di σ.1 0) a))), (5, .int (iZ (q_bp σ.1 (q_di σ.1 0)))), (4, .int (iZ ((q_di σ.1 0) : Int))), (2, .long (lZ (q_all σ.1))), (0, .ref (gad G 152)), (1, .int (iZ a))]) hx hb dL_tries_288 hl (k := 3) rfl (by omega) (by decide) rfl (fun ls hl => ?_)
                          refine lv_goto (tgt := 229) hx hb dL_tries_291 (by decide) ?_
                          refine W.widen (k := 414) (n := 6 * (414)) (by omega) (by omega) ?_
                          exact ih_229 (p9 + 1) ((p9 : Int) + 1) ((q_lf (q_fp σ.1 (q_di σ.1 0)) (q_ml σ.1 (q_di σ.1 0) a) p9) - (q_pa (q_fp σ.1 (q_di σ.1 0)) (q_ml σ.1 (q_di σ.1 0) a) p9)) (100 * (q_pd (q_pa (q_fp σ.1 (q_di σ.1 0)) (q_ml σ.1 (q_di σ.1 0) a)) p9) + (q_pa (q_fp σ.1 (q_di σ.1 0)) (q_ml σ.1 (q_di σ.1 0) a) p9)) (by omega) rfl rfl (by omega) (by omega) _ _ _ hG (lv_sub hl [0, 1, 2, 4, 5, 6, 7, 8, 9, 10, 11] rfl)
                        refine lv_iload hx hb dL_tries_236 (lv_at hl 0 rfl) ?_
                        refine lv_iload hx hb dL_tries_238 (lv_at hl 4 rfl) ?_
                        refine z_icmp_ge (tgt := 247) hx hb (by omega) (by omega) dL_tries_240 (by decide) (fun c_240 => ?_) (fun c_240 => ?_)
                        · skip
                          refine lv_iload hx hb dL_tries_247 (lv_at hl 1 rfl) ?_
                          refine lv_iload hx hb dL_tries_249 (lv_at hl 0 rfl) ?_
                          refine g_cL (As := [.int (iZ (p9 : Int))]) (rest := [.int (iZ (q_lf (q_fp σ.1 (q_di σ.1 0)) (q_ml σ.1 (q_di σ.1 0) a) p9))]) (414) ⟨hx, hb, hml, hown, hts⟩ (c_L_worth l hl0 G hdm M0 (kS (s_bk σ)) p9 (by omega)) (va_cwS 1 hts gA_tries_L_worth rfl rfl rfl (by decide +kernel) ⟨Nat.le_of_ble_eq_true rfl, Nat.le_of_ble_eq_true rfl⟩) hG rfl hl.1 rfl (Nat.le_of_ble_eq_true rfl) dL_tries_251 ⟨by omega, by omega⟩ ⟨Nat.le_of_ble_eq_true rfl, Nat.le_of_ble_eq_true rfl⟩ (fun z42 K43 H locs hp_251 hG => ?_)
                          obtain ⟨hz_251, hK_251⟩ := hp_251
                          replace hz_251 := hz_251.symm; subst hz_251; replace hK_251 := hK_251.symm; subst hK_251
                          refine z_icmp_ge (tgt := 262) hx hb (by omega) (by omega) dL_tries_254 (by decide) (fun c_254 => ?_) (fun c_254 => ?_)
                          · skip
                            refine lv_iload hx hb dL_tries_262 (lv_at hl 0 rfl) ?_
                            refine g_cL (As := [.int (iZ (p9 : Int))]) (rest := []) (414) ⟨hx, hb, hml, hown, hts⟩ (c_L_worth l hl0 G hdm M0 (kS (s_bk σ)) p9 (by omega)) (va_cwS 1 hts gA_tries_L_worth rfl rfl rfl (by decide +kernel) ⟨Nat.le_of_ble_eq_true rfl, Nat.le_of_ble_eq_true rfl⟩) hG rfl hl.1 rfl (Nat.le_of_ble_eq_true rfl) dL_tries_264 ⟨by omega, by omega⟩ ⟨Nat.le_of_ble_eq_true rfl, Nat.le_of_ble_eq_true rfl⟩ (fun z44 K45 H locs hp_264 hG => ?_)
                            obtain ⟨hz_264, hK_264⟩ := hp_264
                            replace hz_264 := hz_264.symm; subst hz_264; replace hK_264 := hK_264.symm; subst hK_264
                            refine W.widen (k := 414) (n := 6 * (414)) (by omega) (by omega) ?_
                            exact J_267 (q_wth p9) (by unfold q_pa; (repeat' split) <;> omega) _ _ _ hG (lv_sub hl [0, 1, 2, 3, 4, 5, 6, 7, 8, 9, 10] rfl)
                          · skip
                            refine lv_iload hx hb dL_tries_257 (lv_at hl 1 rfl) ?_
                            refine lv_goto (tgt := 267) hx hb dL_tries_259 (by decide) ?_
                            refine W.widen (k := 414) (n := 6 * (414)) (by omega) (by omega) ?_
                            exact J_267 (q_lf (q_fp σ.1 (q_di σ.1 0)) (q_ml σ.1 (q_di σ.1 0) a) p9) (by unfold q_pa; (repeat' split) <;> omega) _ _ _ hG (lv_sub hl [0, 1, 2, 3, 4, 5, 6, 7, 8, 9, 10] rfl)
                        · skip
                          refine lv_iconst (v := iZ 0) hx hb dL_tries_243 rfl ?_
                          refine lv_goto (tgt := 267) hx hb dL_tries_244 (by decide) ?_
                          refine W.widen (k := 414) (n := 6 * (414)) (by omega) (by omega) ?_
                          exact J_267 0 (by unfold q_pa; (repeat' split) <;> omega) _ _ _ hG (lv_sub hl [0, 1, 2, 3, 4, 5, 6, 7, 8, 9, 10] rfl)
                  refine W.widen (k := 414) (n := 6 * (414)) (by omega) (by omega) ?_
                  exact L_229 _ 0 0 (q_ml σ.1 (q_di σ.1 0) a) 0 rfl rfl rfl (by omega) (Nat.lt_succ_self _) _ _ _ hG (lv_sub hl [0, 1, 2, 3, 4, 5, 6, 7, 8, 9, 10] rfl)
      refine lv_aload_n hx hb dL_tries_90 rfl (lv_at hl 4 rfl) ?_
      refine lv_iload hx hb dL_tries_91 (lv_at hl 2 rfl) ?_
      refine lv_iconst (v := iZ 2) hx hb dL_tries_93 rfl ?_
      refine g_cL (As := [.ref (gad G 152), .int (iZ ((q_di σ.1 0) : Int)), .int (iZ 2)]) (rest := []) (206) ⟨hx, hb, hml, hown, hts⟩ (c_L_dog l hl0 G hdm M0 σ hσ ((q_di σ.1 0) : Int) (by omega) 2 (by omega)) (va_cwS 3 hts gA_tries_L_dog rfl rfl rfl (by decide +kernel) ⟨Nat.le_of_ble_eq_true rfl, Nat.le_of_ble_eq_true rfl⟩) hG rfl hl.1 rfl (Nat.le_of_ble_eq_true rfl) dL_tries_94 ⟨by omega, by omega⟩ ⟨Nat.le_of_ble_eq_true rfl, Nat.le_of_ble_eq_true rfl⟩ (fun z46 K47 H locs hp_94 hG => ?_)
      obtain ⟨hz_94, hK_94⟩ := hp_94
      replace hz_94 := hz_94.trans (a_dog_2 (σ := σ) (i := (q_di σ.1 0)) (by omega))
      replace hz_94 := hz_94.symm; subst hz_94; replace hK_94 := hK_94.symm; subst hK_94
      refine lv_iconst (v := iZ 2) hx hb dL_tries_97 rfl ?_
      refine z_icmp_ne (tgt := 111) hx hb (by omega) (by decide) dL_tries_98 (by decide) (fun c_98 => ?_) (fun c_98 => ?_)
      · skip
        refine lv_iconst (v := iZ 0) hx hb dL_tries_111 rfl ?_
        refine W.widen (k := 207) (n := 6 * (207)) (by omega) (by omega) ?_
        exact J_112 0 (by unfold q_fp; rw [if_neg (by omega)]) _ _ _ hG (lv_sub hl [0, 1, 2, 3, 4, 5] rfl)
      · skip
        refine lv_aload_n hx hb dL_tries_101 rfl (lv_at hl 4 rfl) ?_
        refine lv_iload hx hb dL_tries_102 (lv_at hl 2 rfl) ?_
        refine lv_iconst (v := iZ 5) hx hb dL_tries_104 rfl ?_
        refine g_cL (As := [.ref (gad G 152), .int (iZ ((q_di σ.1 0) : Int)), .int (iZ 5)]) (rest := []) (207) ⟨hx, hb, hml, hown, hts⟩ (c_L_dog l hl0 G hdm M0 σ hσ ((q_di σ.1 0) : Int) (by omega) 5 (by omega)) (va_cwS 3 hts gA_tries_L_dog rfl rfl rfl (by decide +kernel) ⟨Nat.le_of_ble_eq_true rfl, Nat.le_of_ble_eq_true rfl⟩) hG rfl hl.1 rfl (Nat.le_of_ble_eq_true rfl) dL_tries_105 ⟨by omega, by omega⟩ ⟨Nat.le_of_ble_eq_true rfl, Nat.le_of_ble_eq_true rfl⟩ (fun z48 K49 H locs hp_105 hG => ?_)
        obtain ⟨hz_105, hK_105⟩ := hp_105
        replace hz_105 := hz_105.trans (a_dog_5 (σ := σ) (i := (q_di σ.1 0)) (by omega))
        replace hz_105 := hz_105.symm; subst hz_105; replace hK_105 := hK_105.symm; subst hK_105
        refine lv_goto (tgt := 112) hx hb dL_tries_108 (by decide) ?_
        refine W.widen (k := 207) (n := 6 * (207)) (by omega) (by omega) ?_
        exact J_112 (q_fr σ.1 (q_di σ.1 0)) (by unfold q_fp; rw [if_pos (by omega)]) _ _ _ hG (lv_sub hl [0, 1, 2, 3, 4, 5] rfl)
    · exfalso; omega
