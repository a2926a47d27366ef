set_option maxHeartbeats 8000000 in
set_option maxRecDepth 100000 in
theorem c_L_runs (l : Launch) (hl0 : l.stackTraces = false) (G : gG) (hdm : ∀ k, k < 169 → gdm G k) (M0 : Nat → Nat → Int) (σ : gS) (hσ : s_ok σ) (mi : Int) (hm : 1 ≤ mi ∧ mi ≤ 30)  : gML l yL_runs wA_runs ({ frames := 11, cells := 500, slots := 3000, locals := 262 } : Room) 500 G M0 (kS σ) [.ref (gad G 152), .int (iZ mi)] (fun z K1 => z = 1 ∧ K1 = kS (t_runs σ mi)) := by
  refine gML_of (cc := cL_runs) (maxL := 10) (ret := some .boolean) (by decide) rfl (Nat.le_of_ble_eq_true rfl) ?_
  intro p e s m below meth c ls hx hb hr hml hown hts hlocks hl hG
  have hown : s.vm.findClass RL = some m.cls := hown
  have hl : lv_has ls 10 [(0, .ref (gad G 152)), (1, .int (iZ mi))] := hl
  have hnd : 1 ≤ q_nd σ.1 ∧ q_nd σ.1 ≤ 12 := ⟨hσ.1.2.2, hσ.1.1.1.2⟩
  have hdu := du_in hσ.1.1 hm
  have hdu2 : q_du σ.1 mi ≤ 12 ∧ (q_du σ.1 mi : Int) ≤ q_nwait σ.1 := ⟨hdu.2.1, hdu.2.2.1⟩
  have hnw := nwait_in hσ.1.1
  clear hdu
  refine lv_aload_n hx hb dL_runs_0 rfl (lv_at hl 0 rfl) ?_
  refine g_cLl (As := [.ref (gad G 152)]) (rest := []) (200) ⟨hx, hb, hml, hown, hts⟩ (c_L_sum l hl0 G hdm M0 σ hσ) (va_cwS 1 hts gA_runs_L_sum rfl rfl rfl (by decide +kernel) ⟨Nat.le_of_ble_eq_true rfl, Nat.le_of_ble_eq_true rfl⟩) hG rfl hl.1 rfl (Nat.le_of_ble_eq_true rfl) dL_runs_1 ⟨by omega, by omega⟩ ⟨Nat.le_of_ble_eq_true rfl, Nat.le_of_ble_eq_true rfl⟩ (fun z1 K2 H locs hp_1 hG => ?_)
  obtain ⟨hz_1, hK_1⟩ := hp_1
  replace hz_1 := hz_1.symm; subst hz_1; replace hK_1 := hK_1.symm; subst hK_1
  refine lv_lstore_n (lv' := [(2, .long (lZ (q_all σ.1))), (0, .ref (gad G 152)), (1, .int (iZ mi))]) hx hb dL_runs_4 rfl hl (by decide) rfl (fun ls hl => ?_)
  refine lv_aload_n hx hb dL_runs_5 rfl (lv_at hl 1 rfl) ?_
  refine lv_bipush (v := iZ (14)) hx hb dL_runs_6 (by decide) ?_
  refine lv_iload_n hx hb dL_runs_8 rfl (lv_at hl 2 rfl) ?_
  refine lv_iconst (v := iZ 0) hx hb dL_runs_9 rfl ?_
  refine lv_iconst (v := iZ 0) hx hb dL_runs_10 rfl ?_
  refine lv_iconst (v := iZ 0) hx hb dL_runs_11 rfl ?_
  refine g_cL (As := [.ref (gad G 152), .int (iZ 14), .int (iZ mi), .int (iZ 0), .int (iZ 0), .int (iZ 0)]) (rest := []) (201) ⟨hx, hb, hml, hown, hts⟩ (c_L_call_Left l hl0 G hdm M0 σ hσ mi (by omega) 0 0 0) (va_cwS 6 hts gA_runs_L_call rfl rfl rfl (by decide +kernel) ⟨Nat.le_of_ble_eq_true rfl, Nat.le_of_ble_eq_true rfl⟩) hG rfl hl.1 rfl (Nat.le_of_ble_eq_true rfl) dL_runs_12 ⟨by omega, by omega⟩ ⟨Nat.le_of_ble_eq_true rfl, Nat.le_of_ble_eq_true rfl⟩ (fun z3 K4 H locs hp_12 hG => ?_)
  obtain ⟨hz_12, hK_12⟩ := hp_12
  replace hz_12 := hz_12.trans (a_left_in hσ.1.1 hm)
  replace hz_12 := hz_12.symm; subst hz_12; replace hK_12 := hK_12.symm; subst hK_12
  refine lv_istore (lv' := [(4, .int (iZ ((q_du σ.1 mi) : Int))), (2, .long (lZ (q_all σ.1))), (0, .ref (gad G 152)), (1, .int (iZ mi))]) hx hb dL_runs_15 hl (by decide) rfl (fun ls hl => ?_)
  refine lv_aload_n hx hb dL_runs_17 rfl (lv_at hl 2 rfl) ?_
  refine lv_bipush (v := iZ (8)) hx hb dL_runs_18 (by decide) ?_
  refine g_cL (As := [.ref (gad G 152), .int (iZ 8)]) (rest := []) (202) ⟨hx, hb, hml, hown, hts⟩ (c_L_about l hl0 G hdm M0 σ hσ 8 (by omega)) (va_cwS 2 hts gA_runs_L_about rfl rfl rfl (by decide +kernel) ⟨Nat.le_of_ble_eq_true rfl, Nat.le_of_ble_eq_true rfl⟩) hG rfl hl.1 rfl (Nat.le_of_ble_eq_true rfl) dL_runs_20 ⟨by omega, by omega⟩ ⟨Nat.le_of_ble_eq_true rfl, Nat.le_of_ble_eq_true rfl⟩ (fun z5 K6 H locs hp_20 hG => ?_)
  obtain ⟨hz_20, hK_20⟩ := hp_20
  replace hz_20 := hz_20.trans (a_about_8 σ)
  replace hz_20 := hz_20.symm; subst hz_20; replace hK_20 := hK_20.symm; subst hK_20
  refine lv_istore (lv' := [(5, .int (iZ (σ.1 4))), (4, .int (iZ ((q_du σ.1 mi) : Int))), (2, .long (lZ (q_all σ.1))), (0, .ref (gad G 152)), (1, .int (iZ mi))]) hx hb dL_runs_23 hl (by decide) rfl (fun ls hl => ?_)
  refine lv_iload hx hb dL_runs_25 (lv_at hl 1 rfl) ?_
  refine z_if_lt (tgt := 44) hx hb (by omega) dL_runs_27 (by decide) (fun c_27 => ?_) (fun c_27 => ?_)
  · exfalso; omega
  · skip
    refine lv_iload hx hb dL_runs_30 (lv_at hl 1 rfl) ?_
    refine lv_aload_n hx hb dL_runs_32 rfl (lv_at hl 3 rfl) ?_
    refine lv_iconst (v := iZ 1) hx hb dL_runs_33 rfl ?_
    refine g_cL (As := [.ref (gad G 152), .int (iZ 1)]) (rest := [.int (iZ ((q_du σ.1 mi) : Int))]) (203) ⟨hx, hb, hml, hown, hts⟩ (c_L_about l hl0 G hdm M0 σ hσ 1 (by omega)) (va_cwS 2 hts gA_runs_L_about rfl rfl rfl (by decide +kernel) ⟨Nat.le_of_ble_eq_true rfl, Nat.le_of_ble_eq_true rfl⟩) hG rfl hl.1 rfl (Nat.le_of_ble_eq_true rfl) dL_runs_34 ⟨by omega, by omega⟩ ⟨Nat.le_of_ble_eq_true rfl, Nat.le_of_ble_eq_true rfl⟩ (fun z7 K8 H locs hp_34 hG => ?_)
    obtain ⟨hz_34, hK_34⟩ := hp_34
    replace hz_34 := hz_34.trans (a_about_1 σ)
    replace hz_34 := hz_34.symm; subst hz_34; replace hK_34 := hK_34.symm; subst hK_34
    refine z_icmp_gt (tgt := 44) hx hb (by omega) (by omega) dL_runs_37 (by decide) (fun c_37 => ?_) (fun c_37 => ?_)
    · exfalso; omega
    · skip
      refine lv_iconst (v := iZ 1) hx hb dL_runs_40 rfl ?_
      refine lv_goto (tgt := 45) hx hb dL_runs_41 (by decide) ?_
      refine lv_istore (lv' := [(6, .int (iZ 1)), (5, .int (iZ (σ.1 4))), (4, .int (iZ ((q_du σ.1 mi) : Int))), (2, .long (lZ (q_all σ.1))), (0, .ref (gad G 152)), (1, .int (iZ mi))]) hx hb dL_runs_45 hl (by decide) rfl (fun ls hl => ?_)
      refine lv_iconst (v := iZ 0) hx hb dL_runs_47 rfl ?_
      refine lv_istore (lv' := [(7, .int (iZ 0)), (6, .int (iZ 1)), (5, .int (iZ (σ.1 4))), (4, .int (iZ ((q_du σ.1 mi) : Int))), (2, .long (lZ (q_all σ.1))), (0, .ref (gad G 152)), (1, .int (iZ mi))]) hx hb dL_runs_48 hl (by decide) rfl (fun ls hl => ?_)
      have L_50 : ∀ (n_50 : Nat) (k : Nat) (x_7 : Int), (x_7 = (k : Int)) → (k ≤ q_du σ.1 mi + 1) → (k = q_du σ.1 mi + 1 → q_ob (s_ru σ mi (q_du σ.1 mi)).1 = 0) → q_du σ.1 mi + 1 - k < n_50 → ∀ (H : Heap) (locs : List Loc) (ls : Array Slot), gKH G M0 (kS (s_ru σ mi k)) s H locs → lv_has ls 10 [(7, .int (iZ x_7)), (6, .int (iZ 1)), (5, .int (iZ (σ.1 4))), (4, .int (iZ ((q_du σ.1 mi) : Int))), (2, .long (lZ (q_all σ.1))), (0, .ref (gad G 152)), (1, .int (iZ mi))] → W p l e ({ frames := 11, cells := 500, slots := 3000, locals := 262 } : Room) s m [.ref (gad G 152), .int (iZ mi)].toArray below meth c H locs (204 + 4 * k) (6 * (204 + 4 * k)) (gLQ below G M0 (fun z K1 => z = 1 ∧ K1 = kS (t_runs σ mi)) [.ref (gad G 152), .int (iZ mi)] s 500) (F0 m 50 ls []) := by
        intro n_50
        induction n_50 with
        | zero => intro k x_7 he_7 hk hq hm_50; exact absurd hm_50 (Nat.not_lt_zero _)
        | succ n_50 ih_50 =>
          intro k x_7 he_7 hk hq hm_50 H locs ls hG hl
          subst he_7
          have hat := ru_at hσ hm hk hq
          have hobr := ob_in (s_ru σ mi k).1
          refine lv_iload hx hb dL_runs_50 (lv_at hl 0 rfl) ?_
          refine lv_bipush (v := iZ (13)) hx hb dL_runs_52 (by decide) ?_
          have J_139 : (q_du σ.1 mi ≤ k) → (13 ≤ k ∨ q_ob (s_ru σ mi k).1 ≠ 0) → ∀ (H : Heap) (locs : List Loc) (ls : Array Slot), gKH G M0 (kS (s_ru σ mi k)) s H locs → lv_has ls 10 [(7, .int (iZ (k : Int))), (6, .int (iZ 1)), (5, .int (iZ (σ.1 4))), (4, .int (iZ ((q_du σ.1 mi) : Int))), (2, .long (lZ (q_all σ.1))), (0, .ref (gad G 152)), (1, .int (iZ mi))] → W p l e ({ frames := 11, cells := 500, slots := 3000, locals := 262 } : Room) s m [.ref (gad G 152), .int (iZ mi)].toArray below meth c H locs (204 + 4 * k + 1) (6 * (204 + 4 * k + 1)) (gLQ below G M0 (fun z K1 => z = 1 ∧ K1 = kS (t_runs σ mi)) [.ref (gad G 152), .int (iZ mi)] s 500) (F0 m 139 ls []) := by
            intro hkd hend H locs ls hG hl
            have hk13 : k ≤ 13 := by omega
            refine lv_iload hx hb dL_runs_139 (lv_at hl 1 rfl) ?_
            refine lv_aload_n hx hb dL_runs_141 rfl (lv_at hl 5 rfl) ?_
            refine lv_bipush (v := iZ (8)) hx hb dL_runs_142 (by decide) ?_
            refine g_cL (As := [.ref (gad G 152), .int (iZ 8)]) (rest := [.int (iZ 1)]) (204 + 4 * k + 2) ⟨hx, hb, hml, hown, hts⟩ (c_L_about l hl0 G hdm M0 (s_ru σ mi k) hat.1 8 (by omega)) (va_cwS 2 hts gA_runs_L_about rfl rfl rfl (by decide +kernel) ⟨Nat.le_of_ble_eq_true rfl, Nat.le_of_ble_eq_true rfl⟩) hG rfl hl.1 rfl (Nat.le_of_ble_eq_true rfl) dL_runs_144 ⟨by omega, by omega⟩ ⟨by dsimp only; omega, by dsimp only; omega⟩ (fun z9 K10 H locs hp_144 hG => ?_)
            obtain ⟨hz_144, hK_144⟩ := hp_144
            replace hz_144 := hz_144.trans ((a_about_8 (s_ru σ mi k)).trans (hat.2.2.2.2.1 hkd))
            replace hz_144 := hz_144.symm; subst hz_144; replace hK_144 := hK_144.symm; subst hK_144
            refine lv_iload hx hb dL_runs_147 (lv_at hl 2 rfl) ?_
            refine lv_iload hx hb dL_runs_149 (lv_at hl 3 rfl) ?_
            refine z_iadd (z := ((σ.1 4) + ((q_du σ.1 mi) : Int))) hx hb (by omega) dL_runs_151 ?_
            refine lv_icmp_ne (tgt := 189) hx hb dL_runs_152 (by decide) (fun q9 => absurd rfl q9) (fun _ => ?_)
            have J_185 : ∀ (H : Heap) (locs : List Loc) (ls : Array Slot), gKH G M0 (kS (s_ru σ mi k)) s H locs → lv_has ls 10 [(7, .int (iZ (k : Int))), (6, .int (iZ 1)), (5, .int (iZ (σ.1 4))), (4, .int (iZ ((q_du σ.1 mi) : Int))), (2, .long (lZ (q_all σ.1))), (0, .ref (gad G 152)), (1, .int (iZ mi))] → W p l e ({ frames := 11, cells := 500, slots := 3000, locals := 262 } : Room) s m [.ref (gad G 152), .int (iZ mi)].toArray below meth c H locs (204 + 4 * k + 4) (6 * (204 + 4 * k + 4)) (gLQ below G M0 (fun z K1 => z = 1 ∧ K1 = kS (t_runs σ mi)) [.ref (gad G 152), .int (iZ mi)] s 500) (F0 m 185 ls [.int (iZ 1)]) := by
              intro  H locs ls hG hl
              refine lv_iconst (v := iZ 1) hx hb dL_runs_185 rfl ?_
              refine lv_goto (tgt := 190) hx hb dL_runs_186 (by decide) ?_
              refine z_iand_b hx hb (Or.inr rfl) dL_runs_190 ?_
              refine lv_istore (lv' := [(6, .int (iZ 1)), (7, .int (iZ (k : Int))), (5, .int (iZ (σ.1 4))), (4, .int (iZ ((q_du σ.1 mi) : Int))), (2, .long (lZ (q_all σ.1))), (0, .ref (gad G 152)), (1, .int (iZ mi))]) hx hb dL_runs_191 hl (by decide) rfl (fun ls hl => ?_)
              refine lv_iconst (v := iZ 0) hx hb dL_runs_193 rfl ?_
              refine lv_istore (lv' := [(8, .int (iZ 0)), (6, .int (iZ 1)), (7, .int (iZ (k : Int))), (5, .int (iZ (σ.1 4))), (4, .int (iZ ((q_du σ.1 mi) : Int))), (2, .long (lZ (q_all σ.1))), (0, .ref (gad G 152)), (1, .int (iZ mi))]) hx hb dL_runs_194 hl (by decide) rfl (fun ls hl => ?_)
              have L_196 : ∀ (n_196 : Nat) (j : Nat) (x_8 : Int), (x_8 = (j : Int)) → (j ≤ k) → k - j < n_196 → ∀ (H : Heap) (locs : List Loc) (ls : Array Slot), gKH G M0 (kS (s_un (s_ru σ mi k) j)) s H locs → lv_has ls 10 [(8, .int (iZ x_8)), (6, .int (iZ 1)), (7, .int (iZ (k : Int))), (5, .int (iZ (σ.1 4))), (4, .int (iZ ((q_du σ.1 mi) : Int))), (2, .long (lZ (q_all σ.1))), (0, .ref (gad G 152)), (1, .int (iZ mi))] → W p l e ({ frames := 11, cells := 500, slots := 3000, locals := 262 } : Room) s m [.ref (gad G 152), .int (iZ mi)].toArray below meth c H locs (204 + 4 * k + 4 + j) (6 * (204 + 4 * k + 4 + j)) (gLQ below G M0 (fun z K1 => z = 1 ∧ K1 = kS (t_runs σ mi)) [.ref (gad G 152), .int (iZ mi)] s 500) (F0 m 196 ls []) := by
                intro n_196
                induction n_196 with
                | zero => intro j x_8 he_8 hj hm_196; exact absurd hm_196 (Nat.not_lt_zero _)
                | succ n_196 ih_196 =>
                  intro j x_8 he_8 hj hm_196 H locs ls hG hl
                  subst he_8
                  refine lv_iload hx hb dL_runs_196 (lv_at hl 0 rfl) ?_
                  refine lv_iload hx hb dL_runs_198 (lv_at hl 2 rfl) ?_
                  refine z_icmp_ge (tgt := 232) hx hb (by omega) (by omega) dL_runs_200 (by decide) (fun c_200 => ?_) (fun c_200 => ?_)
                  · skip
                    have hnb : q_nb σ mi = k := by
                      unfold q_nb
                      by_cases h9 : k = q_du σ.1 mi + 1
                      · rw [if_pos (hq h9)]; exact h9.symm
                      · have h8 : q_du σ.1 mi = k := by omega
                        rw [if_neg (by rw [h8]; omega)]; exact h8
                    refine lv_iload hx hb dL_runs_232 (lv_at hl 1 rfl) ?_
                    refine z_if_eq (tgt := 250) hx hb (by decide) dL_runs_234 (by decide) (fun c_234 => ?_) (fun c_234 => ?_)
                    · exfalso; omega
                    · skip
                      refine lv_aload_n hx hb dL_runs_237 rfl (lv_at hl 6 rfl) ?_
                      refine g_cLl (As := [.ref (gad G 152)]) (rest := []) (204 + 4 * k + 4 + j + 200) ⟨hx, hb, hml, hown, hts⟩ (c_L_sum l hl0 G hdm M0 (s_un (s_ru σ mi k) j) (un_ok hk13 hat.1 hσ.2.1 (j := j) hj)) (va_cwS 1 hts gA_runs_L_sum rfl rfl rfl (by decide +kernel) ⟨Nat.le_of_ble_eq_true rfl, Nat.le_of_ble_eq_true rfl⟩) hG rfl hl.1 rfl (Nat.le_of_ble_eq_true rfl) dL_runs_238 ⟨by omega, by omega⟩ ⟨by dsimp only; omega, by dsimp only; omega⟩ (fun z11 K12 H locs hp_238 hG => ?_)
                      obtain ⟨hz_238, hK_238⟩ := hp_238
                      replace hz_238 := hz_238.trans (show q_all (s_un (s_ru σ mi k) j).1 = q_all σ.1 by rw [show j = k by omega, un_back hk13 hσ.2.1])
                      replace hz_238 := hz_238.symm; subst hz_238; replace hK_238 := hK_238.symm; subst hK_238
                      refine lv_lload_n hx hb dL_runs_241 rfl (lv_at hl 5 rfl) ?_
                      refine z_lcmp_same hx hb dL_runs_242 ?_
                      refine z_if_ne (tgt := 250) hx hb (by decide) dL_runs_243 (by decide) (fun c_243 => ?_) (fun c_243 => ?_)
                      · exfalso; omega
                      · skip
                        refine lv_iconst (v := iZ 1) hx hb dL_runs_246 rfl ?_
                        refine lv_goto (tgt := 251) hx hb dL_runs_247 (by decide) ?_
                        exact g_zretL (z := 1) hx hb hr hG hlocks (Or.inr rfl) (⟨rfl, by unfold t_runs; rw [hnb, show j = k by omega]⟩) ⟨by omega, by omega⟩ dL_runs_251
                  · skip
                    have hus := un_step (m := mi) hk13 hσ.2.1 (j := j) (by omega)
                    refine lv_iload hx hb dL_runs_203 (lv_at hl 1 rfl) ?_
                    refine lv_aload_n hx hb dL_runs_205 rfl (lv_at hl 6 rfl) ?_
                    refine lv_bipush (v := iZ (13)) hx hb dL_runs_206 (by decide) ?_
                    refine lv_iconst (v := iZ 0) hx hb dL_runs_208 rfl ?_
                    refine lv_iconst (v := iZ 0) hx hb dL_runs_209 rfl ?_
                    refine lv_iconst (v := iZ 0) hx hb dL_runs_210 rfl ?_
                    refine lv_iconst (v := iZ 0) hx hb dL_runs_211 rfl ?_
                    refine g_cL (As := [.ref (gad G 152), .int (iZ 13), .int (iZ 0), .int (iZ 0), .int (iZ 0), .int (iZ 0)]) (rest := [.int (iZ 1)]) (204 + 4 * k + 4 + j + 1) ⟨hx, hb, hml, hown, hts⟩ (c_L_call_Undo l hl0 G hdm M0 (s_un (s_ru σ mi k) j) (un_ok hk13 hat.1 hσ.2.1 (j := j) hj)  0 0 0 0) (va_cwS 6 hts gA_runs_L_call rfl rfl rfl (by decide +kernel) ⟨Nat.le_of_ble_eq_true rfl, Nat.le_of_ble_eq_true rfl⟩) hG rfl hl.1 rfl (Nat.le_of_ble_eq_true rfl) dL_runs_212 ⟨by omega, by omega⟩ ⟨by dsimp only; omega, by dsimp only; omega⟩ (fun z13 K14 H locs hp_212 hG => ?_)
                    obtain ⟨hz_212, hK_212⟩ := hp_212
                    replace hz_212 := hz_212.trans rfl
                    replace hK_212 := hK_212.trans (congrArg kS (hus.1))
                    replace hz_212 := hz_212.symm; subst hz_212; replace hK_212 := hK_212.symm; subst hK_212
                    refine z_if_lt (tgt := 222) hx hb (by omega) dL_runs_215 (by decide) (fun c_215 => ?_) (fun c_215 => ?_)
                    · exfalso; omega
                    · skip
                      refine lv_iconst (v := iZ 1) hx hb dL_runs_218 rfl ?_
                      refine lv_goto (tgt := 223) hx hb dL_runs_219 (by decide) ?_
                      refine z_iand_b hx hb (Or.inr rfl) dL_runs_223 ?_
                      refine lv_istore (lv' := [(6, .int (iZ 1)), (8, .int (iZ (j : Int))), (7, .int (iZ (k : Int))), (5, .int (iZ (σ.1 4))), (4, .int (iZ ((q_du σ.1 mi) : Int))), (2, .long (lZ (q_all σ.1))), (0, .ref (gad G 152)), (1, .int (iZ mi))]) hx hb dL_runs_224 hl (by decide) rfl (fun ls hl => ?_)
                      refine z_iinc (z := ((j : Int) + 1)) (lv' := [(8, .int (iZ ((j : Int) + 1))), (6, .int (iZ 1)), (7, .int (iZ (k : Int))), (5, .int (iZ (σ.1 4))), (4, .int (iZ ((q_du σ.1 mi) : Int))), (2, .long (lZ (q_all σ.1))), (0, .ref (gad G 152)), (1, .int (iZ mi))]) hx hb dL_runs_226 hl (k := 1) rfl (by omega) (by decide) rfl (fun ls hl => ?_)
                      refine lv_goto (tgt := 196) hx hb dL_runs_229 (by decide) ?_
                      refine W.widen (k := 204 + 4 * k + 4 + (j + 1)) (n := 6 * (204 + 4 * k + 4 + (j + 1))) (by omega) (by omega) ?_
                      exact ih_196 (j + 1) ((j : Int) + 1) (by omega) (by omega) (by omega) _ _ _ hG (lv_sub hl [0, 1, 2, 3, 4, 5, 6, 7] rfl)
              refine W.widen (k := 204 + 4 * k + 4 + 0) (n := 6 * (204 + 4 * k + 4 + 0)) (by omega) (by omega) ?_
              exact L_196 _ 0 0 rfl (by omega) (Nat.lt_succ_self _) _ _ _ hG (lv_sub hl [0, 1, 2, 3, 4, 5, 6, 7] rfl)
            refine lv_iload hx hb dL_runs_155 (lv_at hl 0 rfl) ?_
            refine lv_iload hx hb dL_runs_157 (lv_at hl 3 rfl) ?_
            refine z_icmp_eq (tgt := 185) hx hb (by omega) (by omega) dL_runs_159 (by decide) (fun c_159 => ?_) (fun c_159 => ?_)
            · skip
              refine W.widen (k := 204 + 4 * k + 4) (n := 6 * (204 + 4 * k + 4)) (by omega) (by omega) ?_
              exact J_185  _ _ _ hG (lv_sub hl [0, 1, 2, 3, 4, 5, 6] rfl)
            · skip
              refine lv_iload hx hb dL_runs_162 (lv_at hl 0 rfl) ?_
              refine lv_iload hx hb dL_runs_164 (lv_at hl 3 rfl) ?_
              refine lv_iconst (v := iZ 1) hx hb dL_runs_166 rfl ?_
              refine z_iadd (z := (((q_du σ.1 mi) : Int) + 1)) hx hb (by omega) dL_runs_167 ?_
              refine z_icmp_ne (tgt := 189) hx hb (by omega) (by omega) dL_runs_168 (by decide) (fun c_168 => ?_) (fun c_168 => ?_)
              · exfalso; omega
              · skip
                refine lv_aload_n hx hb dL_runs_171 rfl (lv_at hl 5 rfl) ?_
                refine lv_iconst (v := iZ 5) hx hb dL_runs_172 rfl ?_
                refine g_cL (As := [.ref (gad G 152), .int (iZ 5)]) (rest := [.int (iZ 1)]) (204 + 4 * k + 3) ⟨hx, hb, hml, hown, hts⟩ (c_L_about l hl0 G hdm M0 (s_ru σ mi k) hat.1 5 (by omega)) (va_cwS 2 hts gA_runs_L_about rfl rfl rfl (by decide +kernel) ⟨Nat.le_of_ble_eq_true rfl, Nat.le_of_ble_eq_true rfl⟩) hG rfl hl.1 rfl (Nat.le_of_ble_eq_true rfl) dL_runs_173 ⟨by omega, by omega⟩ ⟨by dsimp only; omega, by dsimp only; omega⟩ (fun z15 K16 H locs hp_173 hG => ?_)
                obtain ⟨hz_173, hK_173⟩ := hp_173
                replace hz_173 := hz_173.trans ((a_about_5 (s_ru σ mi k)).trans (hat.2.2.2.2.2 (by omega)))
                replace hz_173 := hz_173.symm; subst hz_173; replace hK_173 := hK_173.symm; subst hK_173
                refine lv_aload_n hx hb dL_runs_176 rfl (lv_at hl 5 rfl) ?_
                refine lv_bipush (v := iZ (6)) hx hb dL_runs_177 (by decide) ?_
                refine g_cL (As := [.ref (gad G 152), .int (iZ 6)]) (rest := [.int (iZ (σ.1 2)), .int (iZ 1)]) (204 + 4 * k + 4) ⟨hx, hb, hml, hown, hts⟩ (c_L_about l hl0 G hdm M0 (s_ru σ mi k) hat.1 6 (by omega)) (va_cwS 2 hts gA_runs_L_about rfl rfl rfl (by decide +kernel) ⟨Nat.le_of_ble_eq_true rfl, Nat.le_of_ble_eq_true rfl⟩) hG rfl hl.1 rfl (Nat.le_of_ble_eq_true rfl) dL_runs_179 ⟨by omega, by omega⟩ ⟨by dsimp only; omega, by dsimp only; omega⟩ (fun z17 K18 H locs hp_179 hG => ?_)
                obtain ⟨hz_179, hK_179⟩ := hp_179
                replace hz_179 := hz_179.trans ((a_about_6 (s_ru σ mi k)).trans hat.2.2.2.1)
                replace hz_179 := hz_179.symm; subst hz_179; replace hK_179 := hK_179.symm; subst hK_179
                refine lv_icmp_ne (tgt := 189) hx hb dL_runs_182 (by decide) (fun q9 => absurd rfl q9) (fun _ => ?_)
                refine W.widen (k := 204 + 4 * k + 4) (n := 6 * (204 + 4 * k + 4)) (by omega) (by omega) ?_
                exact J_185  _ _ _ hG (lv_sub hl [0, 1, 2, 3, 4, 5, 6] rfl)
          refine z_icmp_ge (tgt := 139) hx hb (by omega) (by decide) dL_runs_54 (by decide) (fun c_54 => ?_) (fun c_54 => ?_)
          · skip
            refine W.widen (k := 204 + 4 * k + 1) (n := 6 * (204 + 4 * k + 1)) (by omega) (by omega) ?_
            exact J_139 (by first | omega | exact hat.2.2.1 c_61) (by first | exact Or.inr c_61 | omega) _ _ _ hG (lv_sub hl [0, 1, 2, 3, 4, 5, 6] rfl)
          · skip
            refine lv_aload_n hx hb dL_runs_57 rfl (lv_at hl 5 rfl) ?_
            refine g_cK (b := 152) (As := []) (rest := []) ⟨hx, hb, hml, hown, hts⟩ (hdm 152 (by decide)) (fun f => rfl) rfl rfl (fun M9 hK9 => c_X5_whyNot l G M9 hdm (s_ru σ mi k).1 (show q_K M9 (s_ru σ mi k) from hK9).1 (hat.1).1.1) (cwV 0 hts gA_runs_X5_whyNot rfl rfl rfl (by decide +kernel) ⟨Nat.le_of_ble_eq_true rfl, Nat.le_of_ble_eq_true rfl⟩) hG rfl hl.1 rfl (Nat.le_of_ble_eq_true rfl) dL_runs_58 ⟨by dsimp only; omega, by dsimp only; omega⟩ (fun M9 z9 N9 hK9 hp9 hF9 => by rw [hp9.2]; exact ⟨hK9, hF9⟩) (fun z19 H locs hp_58 hG => ?_)
            obtain ⟨M9, N9, -, hz_58, -⟩ := hp_58
            replace hz_58 := hz_58.symm; subst hz_58
            refine z_if_ne (tgt := 139) hx hb (by omega) dL_runs_61 (by decide) (fun c_61 => ?_) (fun c_61 => ?_)
            · skip
              refine W.widen (k := 204 + 4 * k + 1) (n := 6 * (204 + 4 * k + 1)) (by omega) (by omega) ?_
              exact J_139 (by first | omega | exact hat.2.2.1 c_61) (by first | exact Or.inr c_61 | omega) _ _ _ hG (lv_sub hl [0, 1, 2, 3, 4, 5, 6] rfl)
            · skip
              have hob : q_ob (s_ru σ mi k).1 = 0 := by omega
              have hkd := hat.2.1 hob
              have hon := ob0 hat.1.1.1 hob
              have hdi := di_in hat.1.1.1 hon.1
              have hnd2 := hat.1.1.1.1
              have hrs := rs_in hσ hm hkd hob
              refine lv_aload_n hx hb dL_runs_64 rfl (lv_at hl 5 rfl) ?_
              refine lv_iconst (v := iZ 5) hx hb dL_runs_65 rfl ?_
              refine lv_iconst (v := iZ 0) hx hb dL_runs_66 rfl ?_
              refine lv_iconst (v := iZ 0) hx hb dL_runs_67 rfl ?_
              refine lv_iconst (v := iZ 0) hx hb dL_runs_68 rfl ?_
              refine lv_iconst (v := iZ 0) hx hb dL_runs_69 rfl ?_
              refine g_cL (As := [.ref (gad G 152), .int (iZ 5), .int (iZ 0), .int (iZ 0), .int (iZ 0), .int (iZ 0)]) (rest := []) (204 + 4 * k + 1) ⟨hx, hb, hml, hown, hts⟩ (c_L_call_Order l hl0 G hdm M0 (s_ru σ mi k) hat.1 0 (by omega) 0 0 0) (va_cwS 6 hts gA_runs_L_call rfl rfl rfl (by decide +kernel) ⟨Nat.le_of_ble_eq_true rfl, Nat.le_of_ble_eq_true rfl⟩) hG rfl hl.1 rfl (Nat.le_of_ble_eq_true rfl) dL_runs_70 ⟨by omega, by omega⟩ ⟨by dsimp only; omega, by dsimp only; omega⟩ (fun z20 K21 H locs hp_70 hG => ?_)
              obtain ⟨hz_70, hK_70⟩ := hp_70
              replace hz_70 := hz_70.trans ((a_order_in (by omega)).trans (atk_0 hat.1.1.1 hon.1))
              replace hz_70 := hz_70.symm; subst hz_70; replace hK_70 := hK_70.symm; subst hK_70
              refine lv_istore (lv' := [(8, .int (iZ ((q_di (s_ru σ mi k).1 0) : Int))), (7, .int (iZ (k : Int))), (6, .int (iZ 1)), (5, .int (iZ (σ.1 4))), (4, .int (iZ ((q_du σ.1 mi) : Int))), (2, .long (lZ (q_all σ.1))), (0, .ref (gad G 152)), (1, .int (iZ mi))]) hx hb dL_runs_73 hl (by decide) rfl (fun ls hl => ?_)
              refine lv_aload_n hx hb dL_runs_75 rfl (lv_at hl 6 rfl) ?_
              refine lv_lconst (v := lZ 0) hx hb dL_runs_76 rfl ?_
              refine lv_iload_n hx hb dL_runs_77 rfl (lv_at hl 7 rfl) ?_
              refine g_cLW (As := [.ref (gad G 152), .long (lZ 0), .int (iZ mi)]) (rest := []) (204 + 4 * k + 2) ⟨hx, hb, hml, hown, hts⟩ (c_L_tryRun l hl0 G hdm M0 (s_ru σ mi k) hat.1 0 (by omega) mi (by omega)) (vx_cwSW 3 hts gA_runs_L_tryRun rfl rfl rfl (by decide +kernel) ⟨Nat.le_of_ble_eq_true rfl, Nat.le_of_ble_eq_true rfl⟩) hG rfl hl.1 rfl (Nat.le_of_ble_eq_true rfl) dL_runs_78 ⟨by omega, by omega⟩ ⟨by dsimp only; omega, by dsimp only; omega⟩ (fun z22 K23 H locs hp_78 hG => ?_)
              obtain ⟨hz_78, hK_78⟩ := hp_78
              replace hz_78 := hz_78.trans (rs_run hm hob)
              replace hK_78 := hK_78.trans (congrArg kS ((ru_run hm hob).2))
              replace hz_78 := hz_78.symm; subst hz_78; replace hK_78 := hK_78.symm; subst hK_78
              refine lv_istore (lv' := [(9, .int (iZ (q_rs σ mi k))), (8, .int (iZ ((q_di (s_ru σ mi k).1 0) : Int))), (7, .int (iZ (k : Int))), (6, .int (iZ 1)), (5, .int (iZ (σ.1 4))), (4, .int (iZ ((q_du σ.1 mi) : Int))), (2, .long (lZ (q_all σ.1))), (0, .ref (gad G 152)), (1, .int (iZ mi))]) hx hb dL_runs_81 hl (by decide) rfl (fun ls hl => ?_)
              refine z_iinc (z := ((k : Int) + 1)) (lv' := [(7, .int (iZ ((k : Int) + 1))), (9, .int (iZ (q_rs σ mi k))), (8, .int (iZ ((q_di (s_ru σ mi k).1 0) : Int))), (6, .int (iZ 1)), (5, .int (iZ (σ.1 4))), (4, .int (iZ ((q_du σ.1 mi) : Int))), (2, .long (lZ (q_all σ.1))), (0, .ref (gad G 152)), (1, .int (iZ mi))]) hx hb dL_runs_83 hl (k := 2) rfl (by omega) (by decide) rfl (fun ls hl => ?_)
              refine lv_iload hx hb dL_runs_86 (lv_at hl 3 rfl) ?_
              refine lv_aload_n hx hb dL_runs_88 rfl (lv_at hl 7 rfl) ?_
              refine lv_bipush (v := iZ (7)) hx hb dL_runs_89 (by decide) ?_
              refine g_cL (As := [.ref (gad G 152), .int (iZ 7)]) (rest := [.int (iZ 1)]) (204 + 4 * k + 3) ⟨hx, hb, hml, hown, hts⟩ (c_L_about l hl0 G hdm M0 (s_ru σ mi (k + 1)) (ru_ok hm hat.1 hob) 7 (by omega)) (va_cwS 2 hts gA_runs_L_about rfl rfl rfl (by decide +kernel) ⟨Nat.le_of_ble_eq_true rfl, Nat.le_of_ble_eq_true rfl⟩) hG rfl hl.1 rfl (Nat.le_of_ble_eq_true rfl) dL_runs_91 ⟨by omega, by omega⟩ ⟨by dsimp only; omega, by dsimp only; omega⟩ (fun z24 K25 H locs hp_91 hG => ?_)
              obtain ⟨hz_91, hK_91⟩ := hp_91
              replace hz_91 := hz_91.trans ((a_about_7 (s_ru σ mi (k + 1))).trans (rno_3 hat.1.1.1 hob mi (q_dig 0)))
              replace hz_91 := hz_91.symm; subst hz_91; replace hK_91 := hK_91.symm; subst hK_91
              refine lv_iload hx hb dL_runs_94 (lv_at hl 2 rfl) ?_
              refine lv_icmp_ne (tgt := 132) hx hb dL_runs_96 (by decide) (fun q9 => absurd rfl q9) (fun _ => ?_)
              have J_111 : ∀ (v9 : Int), ((v9 = 1 ∧ k = q_du σ.1 mi) ∨ (v9 = 0 ∧ k < q_du σ.1 mi)) → ∀ (H : Heap) (locs : List Loc) (ls : Array Slot), gKH G M0 (kS (s_ru σ mi (k + 1))) s H locs → lv_has ls 10 [(7, .int (iZ ((k : Int) + 1))), (9, .int (iZ (q_rs σ mi k))), (8, .int (iZ ((q_di (s_ru σ mi k).1 0) : Int))), (6, .int (iZ 1)), (5, .int (iZ (σ.1 4))), (4, .int (iZ ((q_du σ.1 mi) : Int))), (2, .long (lZ (q_all σ.1))), (0, .ref (gad G 152)), (1, .int (iZ mi))] → W p l e ({ frames := 11, cells := 500, slots := 3000, locals := 262 } : Room) s m [.ref (gad G 152), .int (iZ mi)].toArray below meth c H locs (204 + 4 * k + 3) (6 * (204 + 4 * k + 3)) (gLQ below G M0 (fun z K1 => z = 1 ∧ K1 = kS (t_runs σ mi)) [.ref (gad G 152), .int (iZ mi)] s 500) (F0 m 111 ls [.int (iZ v9), .int (iZ 1)]) := by
                intro v9 hv9 H locs ls hG hl
                refine lv_iload hx hb dL_runs_111 (lv_at hl 0 rfl) ?_
                refine lv_iload hx hb dL_runs_113 (lv_at hl 5 rfl) ?_
                refine lv_iconst (v := iZ 1) hx hb dL_runs_115 rfl ?_
                refine z_iadd (z := (((q_du σ.1 mi) : Int) + 1)) hx hb (by omega) dL_runs_116 ?_
                refine z_icmp_ne (tgt := 124) hx hb (by omega) (by omega) dL_runs_117 (by decide) (fun c_117 => ?_) (fun c_117 => ?_)
                · skip
                  refine lv_iconst (v := iZ 0) hx hb dL_runs_124 rfl ?_
                  refine z_icmp_ne (tgt := 132) hx hb (by omega) (by decide) dL_runs_125 (by decide) (fun c_125 => ?_) (fun c_125 => ?_)
                  · exfalso; omega
                  · skip
                    refine lv_iconst (v := iZ 1) hx hb dL_runs_128 rfl ?_
                    refine lv_goto (tgt := 133) hx hb dL_runs_129 (by decide) ?_
                    refine z_iand_b hx hb (Or.inr rfl) dL_runs_133 ?_
                    refine lv_istore (lv' := [(6, .int (iZ 1)), (7, .int (iZ ((k : Int) + 1))), (9, .int (iZ (q_rs σ mi k))), (8, .int (iZ ((q_di (s_ru σ mi k).1 0) : Int))), (5, .int (iZ (σ.1 4))), (4, .int (iZ ((q_du σ.1 mi) : Int))), (2, .long (lZ (q_all σ.1))), (0, .ref (gad G 152)), (1, .int (iZ mi))]) hx hb dL_runs_134 hl (by decide) rfl (fun ls hl => ?_)
                    refine lv_goto (tgt := 50) hx hb dL_runs_136 (by decide) ?_
                    refine W.widen (k := 204 + 4 * (k + 1)) (n := 6 * (204 + 4 * (k + 1))) (by omega) (by omega) ?_
                    exact ih_50 (k + 1) ((k : Int) + 1) (by omega) (by omega) (fun h9 => by rw [show q_du σ.1 mi = k by omega]; exact hob) (by omega) _ _ _ hG (lv_sub hl [1, 0, 4, 5, 6, 7, 8] rfl)
                · skip
                  refine lv_iconst (v := iZ 1) hx hb dL_runs_120 rfl ?_
                  refine lv_goto (tgt := 125) hx hb dL_runs_121 (by decide) ?_
                  refine z_icmp_ne (tgt := 132) hx hb (by omega) (by decide) dL_runs_125 (by decide) (fun c_125 => ?_) (fun c_125 => ?_)
                  · exfalso; omega
                  · skip
                    refine lv_iconst (v := iZ 1) hx hb dL_runs_128 rfl ?_
                    refine lv_goto (tgt := 133) hx hb dL_runs_129 (by decide) ?_
                    refine z_iand_b hx hb (Or.inr rfl) dL_runs_133 ?_
                    refine lv_istore (lv' := [(6, .int (iZ 1)), (7, .int (iZ ((k : Int) + 1))), (9, .int (iZ (q_rs σ mi k))), (8, .int (iZ ((q_di (s_ru σ mi k).1 0) : Int))), (5, .int (iZ (σ.1 4))), (4, .int (iZ ((q_du σ.1 mi) : Int))), (2, .long (lZ (q_all σ.1))), (0, .ref (gad G 152)), (1, .int (iZ mi))]) hx hb dL_runs_134 hl (by decide) rfl (fun ls hl => ?_)
                    refine lv_goto (tgt := 50) hx hb dL_runs_136 (by decide) ?_
                    refine W.widen (k := 204 + 4 * (k + 1)) (n := 6 * (204 + 4 * (k + 1))) (by omega) (by omega) ?_
                    exact ih_50 (k + 1) ((k : Int) + 1) (by omega) (by omega) (fun h9 => by rw [show q_du σ.1 mi = k by omega]; exact hob) (by omega) _ _ _ hG (lv_sub hl [1, 0, 4, 5, 6, 7, 8] rfl)
              refine lv_iload hx hb dL_runs_99 (lv_at hl 1 rfl) ?_
              refine lv_bipush (v := iZ (-9)) hx hb dL_runs_101 (by decide) ?_
              refine z_icmp_ne (tgt := 110) hx hb (by omega) (by decide) dL_runs_103 (by decide) (fun c_103 => ?_) (fun c_103 => ?_)
              · skip
                refine lv_iconst (v := iZ 0) hx hb dL_runs_110 rfl ?_
                refine W.widen (k := 204 + 4 * k + 3) (n := 6 * (204 + 4 * k + 3)) (by omega) (by omega) ?_
                exact J_111 0 (by omega) _ _ _ hG (lv_sub hl [0, 1, 2, 3, 4, 5, 6, 7, 8] rfl)
              · skip
                refine lv_iconst (v := iZ 1) hx hb dL_runs_106 rfl ?_
                refine lv_goto (tgt := 111) hx hb dL_runs_107 (by decide) ?_
                refine W.widen (k := 204 + 4 * k + 3) (n := 6 * (204 + 4 * k + 3)) (by omega) (by omega) ?_
                exact J_111 1 (by omega) _ _ _ hG (lv_sub hl [0, 1, 2, 3, 4, 5, 6, 7, 8] rfl)
      refine W.widen (k := 204 + 4 * 0) (n := 6 * (204 + 4 * 0)) (by omega) (by omega) ?_
      exact L_50 _ 0 0 rfl (by omega) (fun h9 => by omega) (Nat.lt_succ_self _) _ _ _ hG (lv_sub hl [0, 1, 2, 3, 4, 5, 6] rfl)
