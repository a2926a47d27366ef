set_option maxHeartbeats 4000000 in
set_option maxRecDepth 100000 in
theorem c_L_begin (l : Launch) (hl0 : l.stackTraces = false) (G : gG) (hdm : ∀ k, k < 169 → gdm G k) (M0 : Nat → Nat → Int) (X : Nat → Int) (x : Int) (hx9 : 0 ≤ x ∧ x < 2147483648)  : gML l yL_begin wA_begin ({ frames := 9, cells := 60, slots := 360, locals := 216 } : Room) 60 G M0 (kT X 0) [.ref (gad G 152), .int (iZ x)] (fun z K1 => z = 1 ∧ K1 = kS (q_s0 x)) := by
  refine gML_of (cc := cL_begin) (maxL := 5) (ret := some .boolean) (by decide) rfl (Nat.le_of_ble_eq_true rfl) ?_
  intro p e s m below meth c ls hx hb hr hml hown hts hlocks hl hG
  have hown : s.vm.findClass RL = some m.cls := hown
  have hl : lv_has ls 5 [(0, .ref (gad G 152)), (1, .int (iZ x))] := hl
  have hn0 := n0_in x
  have hG : gKH G M0 (kT (q_tX X x 0) 0) s s.heap [] := by rw [tX_0]; exact hG
  refine lv_aload_n hx hb dL_begin_0 rfl (lv_at hl 0 rfl) ?_
  refine lv_iconst (v := iZ 0) hx hb dL_begin_1 rfl ?_
  refine lv_bipush (v := iZ (84)) hx hb dL_begin_2 (by decide) ?_
  refine lv_iconst (v := iZ 0) hx hb dL_begin_4 rfl ?_
  refine lv_iconst (v := iZ 0) hx hb dL_begin_5 rfl ?_
  refine lv_iconst (v := iZ 0) hx hb dL_begin_6 rfl ?_
  refine g_cL (As := [.ref (gad G 152), .int (iZ 0), .int (iZ 84), .int (iZ 0), .int (iZ 0), .int (iZ 0)]) (rest := []) (1) ⟨hx, hb, hml, hown, hts⟩ (c_L_call_AppendT l hl0 G hdm M0 (q_tX X x (0)) (0) (by omega) 84 (by omega) (by omega) 0 0 0) (va_cwS 6 hts gA_begin_L_call rfl rfl rfl (by decide +kernel) ⟨Nat.le_of_ble_eq_true rfl, Nat.le_of_ble_eq_true rfl⟩) hG rfl hl.1 rfl (Nat.le_of_ble_eq_true rfl) dL_begin_7 ⟨by omega, by omega⟩ ⟨Nat.le_of_ble_eq_true rfl, Nat.le_of_ble_eq_true rfl⟩ (fun z1 K2 H locs hp_7 hG => ?_)
  obtain ⟨hz_7, hK_7⟩ := hp_7
  replace hz_7 := hz_7.trans (show ((0 : Nat) : Int) + 1 = 1 by omega)
  replace hK_7 := hK_7.trans (tX_up X x (c := 0) (d := 1) (by omega) rfl)
  replace hz_7 := hz_7.symm; subst hz_7; replace hK_7 := hK_7.symm; subst hK_7
  refine lv_iconst (v := iZ 1) hx hb dL_begin_10 rfl ?_
  refine z_icmp_ne (tgt := 89) hx hb (by decide) (by decide) dL_begin_11 (by decide) (fun c_11 => ?_) (fun c_11 => ?_)
  · exfalso; omega
  · skip
    refine lv_aload_n hx hb dL_begin_14 rfl (lv_at hl 0 rfl) ?_
    refine g_cK (b := 152) (As := []) (rest := []) ⟨hx, hb, hml, hown, hts⟩ (hdm 152 (by decide)) (fun f => rfl) rfl rfl (fun M9 hK9 => c_X5_errorPosition l G M9 hdm (q_tX X x (1)) (1) (show q_T M9 (q_tX X x (1)) (1) from hK9).2.1 (show q_T M9 (q_tX X x (1)) (1) from hK9).1 (show q_T M9 (q_tX X x (1)) (1) from hK9).2.2.1 (show q_T M9 (q_tX X x (1)) (1) from hK9).2.2.2.1 (show q_T M9 (q_tX X x (1)) (1) from hK9).2.2.2.2.1) (cwV 0 hts gA_begin_X5_errorPosition rfl rfl rfl (by decide +kernel) ⟨Nat.le_of_ble_eq_true rfl, Nat.le_of_ble_eq_true rfl⟩) hG rfl hl.1 rfl (Nat.le_of_ble_eq_true rfl) dL_begin_15 ⟨by dsimp only; omega, by dsimp only; omega⟩ (fun M9 z9 N9 hK9 hp9 hF9 => ⟨(show q_T M9 (q_tX X x (1)) (1) from hK9).cs hp9.2, hF9.tr (q_bd.cs hp9.2)⟩) (fun z3 H locs hp_15 hG => ?_)
    obtain ⟨M9, N9, -, hz_15, -⟩ := hp_15
    replace hz_15 := hz_15.trans (err_1 X x)
    replace hz_15 := hz_15.symm; subst hz_15
    refine lv_iconst (v := iZ 1) hx hb dL_begin_18 rfl ?_
    refine z_icmp_ne (tgt := 89) hx hb (by decide) (by decide) dL_begin_19 (by decide) (fun c_19 => ?_) (fun c_19 => ?_)
    · exfalso; omega
    · skip
      refine lv_aload_n hx hb dL_begin_22 rfl (lv_at hl 0 rfl) ?_
      refine lv_iconst (v := iZ 0) hx hb dL_begin_23 rfl ?_
      refine lv_bipush (v := iZ (49)) hx hb dL_begin_24 (by decide) ?_
      refine lv_iload_n hx hb dL_begin_26 rfl (lv_at hl 1 rfl) ?_
      refine lv_iconst (v := iZ 5) hx hb dL_begin_27 rfl ?_
      refine z_irem (z := (x % 5)) hx hb (by omega) (by omega) rfl dL_begin_28 ?_
      refine z_iadd (z := ((x % 5) + 49)) hx hb (by omega) dL_begin_29 ?_
      refine lv_iconst (v := iZ 0) hx hb dL_begin_30 rfl ?_
      refine lv_iconst (v := iZ 0) hx hb dL_begin_31 rfl ?_
      refine lv_iconst (v := iZ 0) hx hb dL_begin_32 rfl ?_
      refine g_cL (As := [.ref (gad G 152), .int (iZ 0), .int (iZ ((x % 5) + 49)), .int (iZ 0), .int (iZ 0), .int (iZ 0)]) (rest := []) (2) ⟨hx, hb, hml, hown, hts⟩ (c_L_call_AppendT l hl0 G hdm M0 (q_tX X x (1)) (1) (by omega) ((x % 5) + 49) (by omega) (by omega) 0 0 0) (va_cwS 6 hts gA_begin_L_call rfl rfl rfl (by decide +kernel) ⟨Nat.le_of_ble_eq_true rfl, Nat.le_of_ble_eq_true rfl⟩) hG rfl hl.1 rfl (Nat.le_of_ble_eq_true rfl) dL_begin_33 ⟨by omega, by omega⟩ ⟨Nat.le_of_ble_eq_true rfl, Nat.le_of_ble_eq_true rfl⟩ (fun z4 K5 H locs hp_33 hG => ?_)
      obtain ⟨hz_33, hK_33⟩ := hp_33
      replace hz_33 := hz_33.trans (show ((1 : Nat) : Int) + 1 = 2 by omega)
      replace hK_33 := hK_33.trans (tX_up X x (c := 1) (d := 2) (by omega) rfl)
      replace hz_33 := hz_33.symm; subst hz_33; replace hK_33 := hK_33.symm; subst hK_33
      refine lv_iconst (v := iZ 2) hx hb dL_begin_36 rfl ?_
      refine z_icmp_ne (tgt := 89) hx hb (by decide) (by decide) dL_begin_37 (by decide) (fun c_37 => ?_) (fun c_37 => ?_)
      · exfalso; omega
      · skip
        refine lv_aload_n hx hb dL_begin_40 rfl (lv_at hl 0 rfl) ?_
        refine lv_iconst (v := iZ 0) hx hb dL_begin_41 rfl ?_
        refine lv_bipush (v := iZ (48)) hx hb dL_begin_42 (by decide) ?_
        refine lv_iload_n hx hb dL_begin_44 rfl (lv_at hl 1 rfl) ?_
        refine lv_bipush (v := iZ (8)) hx hb dL_begin_45 (by decide) ?_
        refine z_idiv (z := (x / 8)) hx hb (by omega) (by omega) rfl dL_begin_47 ?_
        refine lv_bipush (v := iZ (10)) hx hb dL_begin_48 (by decide) ?_
        refine z_irem (z := ((x / 8) % 10)) hx hb (by omega) (by omega) rfl dL_begin_50 ?_
        refine z_iadd (z := (((x / 8) % 10) + 48)) hx hb (by omega) dL_begin_51 ?_
        refine lv_iconst (v := iZ 0) hx hb dL_begin_52 rfl ?_
        refine lv_iconst (v := iZ 0) hx hb dL_begin_53 rfl ?_
        refine lv_iconst (v := iZ 0) hx hb dL_begin_54 rfl ?_
        refine g_cL (As := [.ref (gad G 152), .int (iZ 0), .int (iZ (((x / 8) % 10) + 48)), .int (iZ 0), .int (iZ 0), .int (iZ 0)]) (rest := []) (3) ⟨hx, hb, hml, hown, hts⟩ (c_L_call_AppendT l hl0 G hdm M0 (q_tX X x (2)) (2) (by omega) (((x / 8) % 10) + 48) (by omega) (by omega) 0 0 0) (va_cwS 6 hts gA_begin_L_call rfl rfl rfl (by decide +kernel) ⟨Nat.le_of_ble_eq_true rfl, Nat.le_of_ble_eq_true rfl⟩) hG rfl hl.1 rfl (Nat.le_of_ble_eq_true rfl) dL_begin_55 ⟨by omega, by omega⟩ ⟨Nat.le_of_ble_eq_true rfl, Nat.le_of_ble_eq_true rfl⟩ (fun z6 K7 H locs hp_55 hG => ?_)
        obtain ⟨hz_55, hK_55⟩ := hp_55
        replace hz_55 := hz_55.trans (show ((2 : Nat) : Int) + 1 = 3 by omega)
        replace hK_55 := hK_55.trans (tX_up X x (c := 2) (d := 3) (by omega) rfl)
        replace hz_55 := hz_55.symm; subst hz_55; replace hK_55 := hK_55.symm; subst hK_55
        refine lv_iconst (v := iZ 3) hx hb dL_begin_58 rfl ?_
        refine z_icmp_ne (tgt := 89) hx hb (by decide) (by decide) dL_begin_59 (by decide) (fun c_59 => ?_) (fun c_59 => ?_)
        · exfalso; omega
        · skip
          refine lv_aload_n hx hb dL_begin_62 rfl (lv_at hl 0 rfl) ?_
          refine lv_iconst (v := iZ 0) hx hb dL_begin_63 rfl ?_
          refine lv_bipush (v := iZ (48)) hx hb dL_begin_64 (by decide) ?_
          refine lv_iconst (v := iZ 0) hx hb dL_begin_66 rfl ?_
          refine lv_iconst (v := iZ 0) hx hb dL_begin_67 rfl ?_
          refine lv_iconst (v := iZ 0) hx hb dL_begin_68 rfl ?_
          refine g_cL (As := [.ref (gad G 152), .int (iZ 0), .int (iZ 48), .int (iZ 0), .int (iZ 0), .int (iZ 0)]) (rest := []) (4) ⟨hx, hb, hml, hown, hts⟩ (c_L_call_AppendT l hl0 G hdm M0 (q_tX X x (3)) (3) (by omega) 48 (by omega) (by omega) 0 0 0) (va_cwS 6 hts gA_begin_L_call rfl rfl rfl (by decide +kernel) ⟨Nat.le_of_ble_eq_true rfl, Nat.le_of_ble_eq_true rfl⟩) hG rfl hl.1 rfl (Nat.le_of_ble_eq_true rfl) dL_begin_69 ⟨by omega, by omega⟩ ⟨Nat.le_of_ble_eq_true rfl, Nat.le_of_ble_eq_true rfl⟩ (fun z8 K9 H locs hp_69 hG => ?_)
          obtain ⟨hz_69, hK_69⟩ := hp_69
          replace hz_69 := hz_69.trans (show ((3 : Nat) : Int) + 1 = 4 by omega)
          replace hK_69 := hK_69.trans (tX_up X x (c := 3) (d := 4) (by omega) rfl)
          replace hz_69 := hz_69.symm; subst hz_69; replace hK_69 := hK_69.symm; subst hK_69
          refine lv_iconst (v := iZ 4) hx hb dL_begin_72 rfl ?_
          refine z_icmp_ne (tgt := 89) hx hb (by decide) (by decide) dL_begin_73 (by decide) (fun c_73 => ?_) (fun c_73 => ?_)
          · exfalso; omega
          · skip
            refine lv_aload_n hx hb dL_begin_76 rfl (lv_at hl 0 rfl) ?_
            refine g_cK (b := 152) (As := []) (rest := []) ⟨hx, hb, hml, hown, hts⟩ (hdm 152 (by decide)) (fun f => rfl) rfl rfl (fun M9 hK9 => c_X5_errorPosition l G M9 hdm (q_tX X x (4)) (4) (show q_T M9 (q_tX X x (4)) (4) from hK9).2.1 (show q_T M9 (q_tX X x (4)) (4) from hK9).1 (show q_T M9 (q_tX X x (4)) (4) from hK9).2.2.1 (show q_T M9 (q_tX X x (4)) (4) from hK9).2.2.2.1 (show q_T M9 (q_tX X x (4)) (4) from hK9).2.2.2.2.1) (cwV 0 hts gA_begin_X5_errorPosition rfl rfl rfl (by decide +kernel) ⟨Nat.le_of_ble_eq_true rfl, Nat.le_of_ble_eq_true rfl⟩) hG rfl hl.1 rfl (Nat.le_of_ble_eq_true rfl) dL_begin_77 ⟨by dsimp only; omega, by dsimp only; omega⟩ (fun M9 z9 N9 hK9 hp9 hF9 => ⟨(show q_T M9 (q_tX X x (4)) (4) from hK9).cs hp9.2, hF9.tr (q_bd.cs hp9.2)⟩) (fun z10 H locs hp_77 hG => ?_)
            obtain ⟨M9, N9, -, hz_77, -⟩ := hp_77
            replace hz_77 := hz_77.trans (err_ok X hx9.1 (J := 0) (by omega))
            replace hz_77 := hz_77.symm; subst hz_77
            refine lv_bipush (v := iZ (-9)) hx hb dL_begin_80 (by decide) ?_
            refine z_icmp_ne (tgt := 89) hx hb (by decide) (by decide) dL_begin_82 (by decide) (fun c_82 => ?_) (fun c_82 => ?_)
            · exfalso; omega
            · skip
              refine lv_iconst (v := iZ 1) hx hb dL_begin_85 rfl ?_
              refine lv_goto (tgt := 90) hx hb dL_begin_86 (by decide) ?_
              refine lv_istore_n (lv' := [(2, .int (iZ 1)), (0, .ref (gad G 152)), (1, .int (iZ x))]) hx hb dL_begin_90 rfl hl (by decide) rfl (fun ls hl => ?_)
              refine lv_iconst (v := iZ 2) hx hb dL_begin_91 rfl ?_
              refine lv_iload_n hx hb dL_begin_92 rfl (lv_at hl 2 rfl) ?_
              refine lv_sipush (v := iZ (128)) hx hb dL_begin_93 (by decide) ?_
              refine z_idiv (z := (x / 128)) hx hb (by omega) (by omega) rfl dL_begin_96 ?_
              refine lv_iconst (v := iZ 5) hx hb dL_begin_97 rfl ?_
              refine z_irem (z := ((x / 128) % 5)) hx hb (by omega) (by omega) rfl dL_begin_98 ?_
              refine z_iadd (z := (((x / 128) % 5) + 2)) hx hb (by omega) dL_begin_99 ?_
              refine lv_istore_n (lv' := [(3, .int (iZ (((x / 128) % 5) + 2))), (2, .int (iZ 1)), (0, .ref (gad G 152)), (1, .int (iZ x))]) hx hb dL_begin_100 rfl hl (by decide) rfl (fun ls hl => ?_)
              refine lv_iconst (v := iZ 0) hx hb dL_begin_101 rfl ?_
              refine lv_istore (lv' := [(4, .int (iZ 0)), (3, .int (iZ (((x / 128) % 5) + 2))), (2, .int (iZ 1)), (0, .ref (gad G 152)), (1, .int (iZ x))]) hx hb dL_begin_102 hl (by decide) rfl (fun ls hl => ?_)
              have L_104 : ∀ (n_104 : Nat) (i : Nat) (x_4 : Int), (x_4 = (i : Int)) → ((i : Int) ≤ x / 128 % 5 + 2) → q_n0 x - i < n_104 → ∀ (H : Heap) (locs : List Loc) (ls : Array Slot), gKH G M0 (kT (q_tX X x (4 + 4 * i)) (4 + 4 * i)) s H locs → lv_has ls 5 [(4, .int (iZ x_4)), (3, .int (iZ (((x / 128) % 5) + 2))), (2, .int (iZ 1)), (0, .ref (gad G 152)), (1, .int (iZ x))] → W p l e ({ frames := 9, cells := 60, slots := 360, locals := 216 } : Room) s m [.ref (gad G 152), .int (iZ x)].toArray below meth c H locs (5 + 4 * i) (6 * (5 + 4 * i)) (gLQ below G M0 (fun z K1 => z = 1 ∧ K1 = kS (q_s0 x)) [.ref (gad G 152), .int (iZ x)] s 60) (F0 m 104 ls []) := by
                intro n_104
                induction n_104 with
                | zero => intro i x_4 he_4 hi hm_104; exact absurd hm_104 (Nat.not_lt_zero _)
                | succ n_104 ih_104 =>
                  intro i x_4 he_4 hi hm_104 H locs ls hG hl
                  subst he_4
                  refine lv_iload hx hb dL_begin_104 (lv_at hl 0 rfl) ?_
                  refine lv_iload_n hx hb dL_begin_106 rfl (lv_at hl 1 rfl) ?_
                  refine z_icmp_ge (tgt := 218) hx hb (by omega) (by omega) dL_begin_107 (by decide) (fun c_107 => ?_) (fun c_107 => ?_)
                  · skip
                    refine lv_iload_n hx hb dL_begin_218 rfl (lv_at hl 2 rfl) ?_
                    refine z_if_eq (tgt := 239) hx hb (by decide) dL_begin_219 (by decide) (fun c_219 => ?_) (fun c_219 => ?_)
                    · exfalso; omega
                    · skip
                      refine lv_aload_n hx hb dL_begin_222 rfl (lv_at hl 3 rfl) ?_
                      refine lv_iconst (v := iZ 1) hx hb dL_begin_223 rfl ?_
                      refine lv_iconst (v := iZ 0) hx hb dL_begin_224 rfl ?_
                      refine lv_iconst (v := iZ 0) hx hb dL_begin_225 rfl ?_
                      refine lv_iconst (v := iZ 0) hx hb dL_begin_226 rfl ?_
                      refine lv_iconst (v := iZ 0) hx hb dL_begin_227 rfl ?_
                      refine g_cL (As := [.ref (gad G 152), .int (iZ 1), .int (iZ 0), .int (iZ 0), .int (iZ 0), .int (iZ 0)]) (rest := []) (5 + 4 * i + 1) ⟨hx, hb, hml, hown, hts⟩ (c_L_call_Load l hl0 G hdm M0 (q_tX X x (4 + 4 * i)) (4 + 4 * i) (err_ok X hx9.1 (by omega)) 0 0 0 0) (va_cwS 6 hts gA_begin_L_call rfl rfl rfl (by decide +kernel) ⟨Nat.le_of_ble_eq_true rfl, Nat.le_of_ble_eq_true rfl⟩) hG rfl hl.1 rfl (Nat.le_of_ble_eq_true rfl) dL_begin_228 ⟨by omega, by omega⟩ ⟨by dsimp only; omega, by dsimp only; omega⟩ (fun z11 K12 H locs hp_228 hG => ?_)
                      obtain ⟨hz_228, hK_228⟩ := hp_228
                      replace hz_228 := hz_228.trans (show q_nd (q_rdt (q_tX X x (4 + 4 * i)) (4 + 4 * i)).2.2 = (i : Int) by rw [rdt_eq X hx9.1 (by omega)]; exact (pg_all hx9.1 (by omega)).2.2.1)
                      replace hK_228 := hK_228.trans ((show kS (s_new (q_rdt (q_tX X x (4 + 4 * i)) (4 + 4 * i)).2.2) = kS (s_new (q_pg x i)) by rw [rdt_eq X hx9.1 (by omega)]))
                      replace hz_228 := hz_228.symm; subst hz_228; replace hK_228 := hK_228.symm; subst hK_228
                      refine lv_iload_n hx hb dL_begin_231 rfl (lv_at hl 1 rfl) ?_
                      refine z_icmp_ne (tgt := 239) hx hb (by omega) (by omega) dL_begin_232 (by decide) (fun c_232 => ?_) (fun c_232 => ?_)
                      · exfalso; omega
                      · skip
                        refine lv_iconst (v := iZ 1) hx hb dL_begin_235 rfl ?_
                        refine lv_goto (tgt := 240) hx hb dL_begin_236 (by decide) ?_
                        exact g_zretL (z := 1) hx hb hr hG hlocks (Or.inr rfl) (⟨rfl, by unfold q_s0; rw [show q_n0 x = i by omega]⟩) ⟨by omega, by omega⟩ dL_begin_240
                  · skip
                    refine lv_iload_n hx hb dL_begin_110 rfl (lv_at hl 2 rfl) ?_
                    refine z_if_eq (tgt := 218) hx hb (by decide) dL_begin_111 (by decide) (fun c_111 => ?_) (fun c_111 => ?_)
                    · exfalso; omega
                    · skip
                      have hq1 : 0 ≤ x / ((i : Int) + 1024) ∧ x / ((i : Int) + 1024) < 2147483648 := ⟨Int.ediv_nonneg hx9.1 (by omega), Int.lt_of_le_of_lt (Int.ediv_le_self _ hx9.1) hx9.2⟩
                      have hq2 : 0 ≤ x / ((i : Int) + 4096) ∧ x / ((i : Int) + 4096) < 2147483648 := ⟨Int.ediv_nonneg hx9.1 (by omega), Int.lt_of_le_of_lt (Int.ediv_le_self _ hx9.1) hx9.2⟩
                      refine lv_aload_n hx hb dL_begin_114 rfl (lv_at hl 3 rfl) ?_
                      refine lv_iconst (v := iZ 0) hx hb dL_begin_115 rfl ?_
                      refine lv_bipush (v := iZ (100)) hx hb dL_begin_116 (by decide) ?_
                      refine lv_iconst (v := iZ 0) hx hb dL_begin_118 rfl ?_
                      refine lv_iconst (v := iZ 0) hx hb dL_begin_119 rfl ?_
                      refine lv_iconst (v := iZ 0) hx hb dL_begin_120 rfl ?_
                      refine g_cL (As := [.ref (gad G 152), .int (iZ 0), .int (iZ 100), .int (iZ 0), .int (iZ 0), .int (iZ 0)]) (rest := []) (5 + 4 * i + 1) ⟨hx, hb, hml, hown, hts⟩ (c_L_call_AppendT l hl0 G hdm M0 (q_tX X x (4 + 4 * i)) (4 + 4 * i) (by omega) 100 (by omega) (by omega) 0 0 0) (va_cwS 6 hts gA_begin_L_call rfl rfl rfl (by decide +kernel) ⟨Nat.le_of_ble_eq_true rfl, Nat.le_of_ble_eq_true rfl⟩) hG rfl hl.1 rfl (Nat.le_of_ble_eq_true rfl) dL_begin_121 ⟨by omega, by omega⟩ ⟨by dsimp only; omega, by dsimp only; omega⟩ (fun z13 K14 H locs hp_121 hG => ?_)
                      obtain ⟨hz_121, hK_121⟩ := hp_121
                      replace hz_121 := hz_121.trans (show ((4 + 4 * i : Nat) : Int) + 1 = ((4 + 4 * i + 1) : Int) by omega)
                      replace hK_121 := hK_121.trans (tX_up X x (c := 4 + 4 * i) (d := 4 + 4 * i + 1) (by omega) (tx_0 x i).symm)
                      replace hz_121 := hz_121.symm; subst hz_121; replace hK_121 := hK_121.symm; subst hK_121
                      refine z_if_le (tgt := 210) hx hb (by omega) dL_begin_124 (by decide) (fun c_124 => ?_) (fun c_124 => ?_)
                      · exfalso; omega
                      · skip
                        refine lv_aload_n hx hb dL_begin_127 rfl (lv_at hl 3 rfl) ?_
                        refine lv_iconst (v := iZ 0) hx hb dL_begin_128 rfl ?_
                        refine lv_bipush (v := iZ (48)) hx hb dL_begin_129 (by decide) ?_
                        refine lv_iload_n hx hb dL_begin_131 rfl (lv_at hl 4 rfl) ?_
                        refine lv_sipush (v := iZ (1024)) hx hb dL_begin_132 (by decide) ?_
                        refine lv_iload hx hb dL_begin_135 (lv_at hl 0 rfl) ?_
                        refine z_iadd (z := ((i : Int) + 1024)) hx hb (by omega) dL_begin_137 ?_
                        refine z_idiv (z := (x / ((i : Int) + 1024))) hx hb (by omega) (by omega) rfl dL_begin_138 ?_
                        refine lv_iconst (v := iZ 3) hx hb dL_begin_139 rfl ?_
                        refine z_irem (z := ((x / ((i : Int) + 1024)) % 3)) hx hb (by omega) (by omega) rfl dL_begin_140 ?_
                        refine z_iadd (z := (((x / ((i : Int) + 1024)) % 3) + 48)) hx hb (by omega) dL_begin_141 ?_
                        refine lv_iconst (v := iZ 0) hx hb dL_begin_142 rfl ?_
                        refine lv_iconst (v := iZ 0) hx hb dL_begin_143 rfl ?_
                        refine lv_iconst (v := iZ 0) hx hb dL_begin_144 rfl ?_
                        refine g_cL (As := [.ref (gad G 152), .int (iZ 0), .int (iZ (((x / ((i : Int) + 1024)) % 3) + 48)), .int (iZ 0), .int (iZ 0), .int (iZ 0)]) (rest := []) (5 + 4 * i + 2) ⟨hx, hb, hml, hown, hts⟩ (c_L_call_AppendT l hl0 G hdm M0 (q_tX X x (4 + 4 * i + 1)) (4 + 4 * i + 1) (by omega) (((x / ((i : Int) + 1024)) % 3) + 48) (by omega) (by omega) 0 0 0) (va_cwS 6 hts gA_begin_L_call rfl rfl rfl (by decide +kernel) ⟨Nat.le_of_ble_eq_true rfl, Nat.le_of_ble_eq_true rfl⟩) hG rfl hl.1 rfl (Nat.le_of_ble_eq_true rfl) dL_begin_145 ⟨by omega, by omega⟩ ⟨by dsimp only; omega, by dsimp only; omega⟩ (fun z15 K16 H locs hp_145 hG => ?_)
                        obtain ⟨hz_145, hK_145⟩ := hp_145
                        replace hz_145 := hz_145.trans (show ((4 + 4 * i + 1 : Nat) : Int) + 1 = ((4 + 4 * i + 2) : Int) by omega)
                        replace hK_145 := hK_145.trans (tX_up X x (c := 4 + 4 * i + 1) (d := 4 + 4 * i + 2) (by omega) (tx_1 x i).symm)
                        replace hz_145 := hz_145.symm; subst hz_145; replace hK_145 := hK_145.symm; subst hK_145
                        refine z_if_le (tgt := 210) hx hb (by omega) dL_begin_148 (by decide) (fun c_148 => ?_) (fun c_148 => ?_)
                        · exfalso; omega
                        · skip
                          refine lv_aload_n hx hb dL_begin_151 rfl (lv_at hl 3 rfl) ?_
                          refine lv_iconst (v := iZ 0) hx hb dL_begin_152 rfl ?_
                          refine lv_bipush (v := iZ (48)) hx hb dL_begin_153 (by decide) ?_
                          refine lv_iconst (v := iZ 2) hx hb dL_begin_155 rfl ?_
                          refine lv_iload hx hb dL_begin_156 (lv_at hl 0 rfl) ?_
                          refine z_imul (z := (2 * (i : Int))) hx hb (by omega) dL_begin_158 ?_
                          refine lv_bipush (v := iZ (9)) hx hb dL_begin_159 (by decide) ?_
                          refine z_irem (z := ((2 * (i : Int)) % 9)) hx hb (by omega) (by omega) rfl dL_begin_161 ?_
                          refine z_iadd (z := (((2 * (i : Int)) % 9) + 48)) hx hb (by omega) dL_begin_162 ?_
                          refine lv_iconst (v := iZ 0) hx hb dL_begin_163 rfl ?_
                          refine lv_iconst (v := iZ 0) hx hb dL_begin_164 rfl ?_
                          refine lv_iconst (v := iZ 0) hx hb dL_begin_165 rfl ?_
                          refine g_cL (As := [.ref (gad G 152), .int (iZ 0), .int (iZ (((2 * (i : Int)) % 9) + 48)), .int (iZ 0), .int (iZ 0), .int (iZ 0)]) (rest := []) (5 + 4 * i + 3) ⟨hx, hb, hml, hown, hts⟩ (c_L_call_AppendT l hl0 G hdm M0 (q_tX X x (4 + 4 * i + 2)) (4 + 4 * i + 2) (by omega) (((2 * (i : Int)) % 9) + 48) (by omega) (by omega) 0 0 0) (va_cwS 6 hts gA_begin_L_call rfl rfl rfl (by decide +kernel) ⟨Nat.le_of_ble_eq_true rfl, Nat.le_of_ble_eq_true rfl⟩) hG rfl hl.1 rfl (Nat.le_of_ble_eq_true rfl) dL_begin_166 ⟨by omega, by omega⟩ ⟨by dsimp only; omega, by dsimp only; omega⟩ (fun z17 K18 H locs hp_166 hG => ?_)
                          obtain ⟨hz_166, hK_166⟩ := hp_166
                          replace hz_166 := hz_166.trans (show ((4 + 4 * i + 2 : Nat) : Int) + 1 = ((4 + 4 * i + 3) : Int) by omega)
                          replace hK_166 := hK_166.trans (tX_up X x (c := 4 + 4 * i + 2) (d := 4 + 4 * i + 3) (by omega) (tx_2 x i).symm)
                          replace hz_166 := hz_166.symm; subst hz_166; replace hK_166 := hK_166.symm; subst hK_166
                          refine z_if_le (tgt := 210) hx hb (by omega) dL_begin_169 (by decide) (fun c_169 => ?_) (fun c_169 => ?_)
                          · exfalso; omega
                          · skip
                            refine lv_aload_n hx hb dL_begin_172 rfl (lv_at hl 3 rfl) ?_
                            refine lv_iconst (v := iZ 0) hx hb dL_begin_173 rfl ?_
                            refine lv_bipush (v := iZ (49)) hx hb dL_begin_174 (by decide) ?_
                            refine lv_iload_n hx hb dL_begin_176 rfl (lv_at hl 4 rfl) ?_
                            refine lv_sipush (v := iZ (4096)) hx hb dL_begin_177 (by decide) ?_
                            refine lv_iload hx hb dL_begin_180 (lv_at hl 0 rfl) ?_
                            refine z_iadd (z := ((i : Int) + 4096)) hx hb (by omega) dL_begin_182 ?_
                            refine z_idiv (z := (x / ((i : Int) + 4096))) hx hb (by omega) (by omega) rfl dL_begin_183 ?_
                            refine lv_bipush (v := iZ (9)) hx hb dL_begin_184 (by decide) ?_
                            refine z_irem (z := ((x / ((i : Int) + 4096)) % 9)) hx hb (by omega) (by omega) rfl dL_begin_186 ?_
                            refine z_iadd (z := (((x / ((i : Int) + 4096)) % 9) + 49)) hx hb (by omega) dL_begin_187 ?_
                            refine lv_iconst (v := iZ 0) hx hb dL_begin_188 rfl ?_
                            refine lv_iconst (v := iZ 0) hx hb dL_begin_189 rfl ?_
                            refine lv_iconst (v := iZ 0) hx hb dL_begin_190 rfl ?_
                            refine g_cL (As := [.ref (gad G 152), .int (iZ 0), .int (iZ (((x / ((i : Int) + 4096)) % 9) + 49)), .int (iZ 0), .int (iZ 0), .int (iZ 0)]) (rest := []) (5 + 4 * i + 4) ⟨hx, hb, hml, hown, hts⟩ (c_L_call_AppendT l hl0 G hdm M0 (q_tX X x (4 + 4 * i + 3)) (4 + 4 * i + 3) (by omega) (((x / ((i : Int) + 4096)) % 9) + 49) (by omega) (by omega) 0 0 0) (va_cwS 6 hts gA_begin_L_call rfl rfl rfl (by decide +kernel) ⟨Nat.le_of_ble_eq_true rfl, Nat.le_of_ble_eq_true rfl⟩) hG rfl hl.1 rfl (Nat.le_of_ble_eq_true rfl) dL_begin_191 ⟨by omega, by omega⟩ ⟨by dsimp only; omega, by dsimp only; omega⟩ (fun z19 K20 H locs hp_191 hG => ?_)
                            obtain ⟨hz_191, hK_191⟩ := hp_191
                            replace hz_191 := hz_191.trans (show ((4 + 4 * i + 3 : Nat) : Int) + 1 = ((4 + 4 * i + 4) : Int) by omega)
                            replace hK_191 := hK_191.trans (tX_up X x (c := 4 + 4 * i + 3) (d := 4 + 4 * i + 4) (by omega) (tx_3 x i).symm)
                            replace hz_191 := hz_191.symm; subst hz_191; replace hK_191 := hK_191.symm; subst hK_191
                            refine z_if_le (tgt := 210) hx hb (by omega) dL_begin_194 (by decide) (fun c_194 => ?_) (fun c_194 => ?_)
                            · exfalso; omega
                            · skip
                              refine lv_aload_n hx hb dL_begin_197 rfl (lv_at hl 3 rfl) ?_
                              refine g_cK (b := 152) (As := []) (rest := []) ⟨hx, hb, hml, hown, hts⟩ (hdm 152 (by decide)) (fun f => rfl) rfl rfl (fun M9 hK9 => c_X5_errorPosition l G M9 hdm (q_tX X x (4 + 4 * i + 4)) (4 + 4 * i + 4) (show q_T M9 (q_tX X x (4 + 4 * i + 4)) (4 + 4 * i + 4) from hK9).2.1 (show q_T M9 (q_tX X x (4 + 4 * i + 4)) (4 + 4 * i + 4) from hK9).1 (show q_T M9 (q_tX X x (4 + 4 * i + 4)) (4 + 4 * i + 4) from hK9).2.2.1 (show q_T M9 (q_tX X x (4 + 4 * i + 4)) (4 + 4 * i + 4) from hK9).2.2.2.1 (show q_T M9 (q_tX X x (4 + 4 * i + 4)) (4 + 4 * i + 4) from hK9).2.2.2.2.1) (cwV 0 hts gA_begin_X5_errorPosition rfl rfl rfl (by decide +kernel) ⟨Nat.le_of_ble_eq_true rfl, Nat.le_of_ble_eq_true rfl⟩) hG rfl hl.1 rfl (Nat.le_of_ble_eq_true rfl) dL_begin_198 ⟨by dsimp only; omega, by dsimp only; omega⟩ (fun M9 z9 N9 hK9 hp9 hF9 => ⟨(show q_T M9 (q_tX X x (4 + 4 * i + 4)) (4 + 4 * i + 4) from hK9).cs hp9.2, hF9.tr (q_bd.cs hp9.2)⟩) (fun z21 H locs hp_198 hG => ?_)
                              obtain ⟨M9, N9, -, hz_198, -⟩ := hp_198
                              replace hz_198 := hz_198.trans (show q_err (q_tX X x (4 + 4 * i + 4)) (4 + 4 * i + 4) = -9 from err_ok X hx9.1 (J := i + 1) (by omega))
                              replace hz_198 := hz_198.symm; subst hz_198
                              refine lv_bipush (v := iZ (-9)) hx hb dL_begin_201 (by decide) ?_
                              refine z_icmp_ne (tgt := 210) hx hb (by decide) (by decide) dL_begin_203 (by decide) (fun c_203 => ?_) (fun c_203 => ?_)
                              · exfalso; omega
                              · skip
                                refine lv_iconst (v := iZ 1) hx hb dL_begin_206 rfl ?_
                                refine lv_goto (tgt := 211) hx hb dL_begin_207 (by decide) ?_
                                refine lv_istore_n (lv' := [(2, .int (iZ 1)), (4, .int (iZ (i : Int))), (3, .int (iZ (((x / 128) % 5) + 2))), (0, .ref (gad G 152)), (1, .int (iZ x))]) hx hb dL_begin_211 rfl hl (by decide) rfl (fun ls hl => ?_)
                                refine z_iinc (z := ((i : Int) + 1)) (lv' := [(4, .int (iZ ((i : Int) + 1))), (2, .int (iZ 1)), (3, .int (iZ (((x / 128) % 5) + 2))), (0, .ref (gad G 152)), (1, .int (iZ x))]) hx hb dL_begin_212 hl (k := 1) rfl (by omega) (by decide) rfl (fun ls hl => ?_)
                                refine lv_goto (tgt := 104) hx hb dL_begin_215 (by decide) ?_
                                refine W.widen (k := 5 + 4 * (i + 1)) (n := 6 * (5 + 4 * (i + 1))) (by omega) (by omega) ?_
                                exact ih_104 (i + 1) ((i : Int) + 1) (by omega) (by omega) (by omega) _ _ _ hG (lv_sub hl [0, 2, 1, 3, 4] rfl)
              refine W.widen (k := 5 + 4 * 0) (n := 6 * (5 + 4 * 0)) (by omega) (by omega) ?_
              exact L_104 _ 0 0 rfl (by omega) (Nat.lt_succ_self _) _ _ _ hG (lv_sub hl [0, 1, 2, 3, 4] rfl)
