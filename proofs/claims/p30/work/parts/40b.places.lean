set_option maxHeartbeats 4000000 in
set_option maxRecDepth 100000 in
theorem c_L_places (l : Launch) (hl0 : l.stackTraces = false) (G : gG) (hdm : ∀ k, k < 169 → gdm G k) (M0 : Nat → Nat → Int) (σ : gS) (hσ : s_ok σ)  : gML l yL_places wA_places ({ frames := 10, cells := 200, slots := 1200, locals := 238 } : Room) 200 G M0 (kS σ) [.ref (gad G 152)] (fun z K1 => z = 1 ∧ K1 = kS σ) := by
  refine gML_of (cc := cL_places) (maxL := 7) (ret := some .boolean) (by decide) rfl (Nat.le_of_ble_eq_true rfl) ?_
  intro p e s m below meth c ls hx hb hr hml hown hts hlocks hl hG
  have hown : s.vm.findClass RL = some m.cls := hown
  have hl : lv_has ls 7 [(0, .ref (gad G 152))] := hl
  have hnd : 1 ≤ q_nd σ.1 ∧ q_nd σ.1 ≤ 12 := ⟨hσ.1.2.2, hσ.1.1.1.2⟩
  have hnr := nrn_le hσ.1.1
  refine lv_aload_n hx hb dL_places_0 rfl (lv_at hl 0 rfl) ?_
  refine lv_aload_n hx hb dL_places_1 rfl (lv_at hl 0 rfl) ?_
  refine lv_iconst (v := iZ 2) hx hb dL_places_2 rfl ?_
  refine g_cL (As := [.ref (gad G 152), .int (iZ 2)]) (rest := [.ref (gad G 152)]) (1) ⟨hx, hb, hml, hown, hts⟩ (c_L_about l hl0 G hdm M0 σ hσ 2 (by omega)) (va_cwS 2 hts gA_places_L_about rfl rfl rfl (by decide +kernel) ⟨Nat.le_of_ble_eq_true rfl, Nat.le_of_ble_eq_true rfl⟩) hG rfl hl.1 rfl (Nat.le_of_ble_eq_true rfl) dL_places_3 ⟨by omega, by omega⟩ ⟨Nat.le_of_ble_eq_true rfl, Nat.le_of_ble_eq_true rfl⟩ (fun z1 K2 H locs hp_3 hG => ?_)
  obtain ⟨hz_3, hK_3⟩ := hp_3
  replace hz_3 := hz_3.trans ((a_about_2 σ).trans (nrn_eq σ.1))
  replace hz_3 := hz_3.symm; subst hz_3; replace hK_3 := hK_3.symm; subst hK_3
  refine g_cX (b := 152) (As := [.int (iZ ((q_nrn σ.1) : Int))]) (rest := []) (2) ⟨hx, hb, hml, hown, hts⟩ (hdm 152 (by decide)) (fun f => rfl) rfl rfl (fun M9 hK9 => c_X5_standing l G M9 hl0 hdm σ.1 (show q_K M9 σ from hK9).1 (hσ).1.1 ((q_nrn σ.1) : Int) (by omega)) (cwV 1 hts gA_places_X5_standing rfl rfl rfl (by decide +kernel) ⟨Nat.le_of_ble_eq_true rfl, Nat.le_of_ble_eq_true rfl⟩) hG rfl hl.1 rfl (Nat.le_of_ble_eq_true rfl) dL_places_6 ⟨by omega, by omega⟩ ⟨Nat.le_of_ble_eq_true rfl, Nat.le_of_ble_eq_true rfl⟩ (fun M9 E9 N9 hK9 hp9 => by have h9 := hp9.1.1; rw [if_neg (by omega)] at h9; exact absurd h9 (by decide)) (fun M9 z9 N9 hK9 hp9 hF9 => ⟨(show q_K M9 σ from hK9).cs hp9.2.2, hF9.tr (q_bd.cs hp9.2.2)⟩) (fun z3 H locs hp_6 hG => ?_)
  obtain ⟨M9, N9, -, -, hz_6, -⟩ := hp_6
  replace hz_6 := hz_6.trans std_past
  replace hz_6 := hz_6.symm; subst hz_6
  refine lv_bipush (v := iZ (-9)) hx hb dL_places_9 (by decide) ?_
  refine z_icmp_ne (tgt := 18) hx hb (by decide) (by decide) dL_places_11 (by decide) (fun c_11 => ?_) (fun c_11 => ?_)
  · exfalso; omega
  · skip
    refine lv_iconst (v := iZ 1) hx hb dL_places_14 rfl ?_
    refine lv_goto (tgt := 19) hx hb dL_places_15 (by decide) ?_
    refine lv_istore_n (lv' := [(1, .int (iZ 1)), (0, .ref (gad G 152))]) hx hb dL_places_19 rfl hl (by decide) rfl (fun ls hl => ?_)
    refine lv_iconst (v := iZ 0) hx hb dL_places_20 rfl ?_
    refine lv_istore_n (lv' := [(2, .int (iZ 0)), (1, .int (iZ 1)), (0, .ref (gad G 152))]) hx hb dL_places_21 rfl hl (by decide) rfl (fun ls hl => ?_)
    refine lv_iconst (v := iZ 0) hx hb dL_places_22 rfl ?_
    refine lv_istore_n (lv' := [(3, .int (iZ 0)), (2, .int (iZ 0)), (1, .int (iZ 1)), (0, .ref (gad G 152))]) hx hb dL_places_23 rfl hl (by decide) rfl (fun ls hl => ?_)
    have L_24 : ∀ (n_24 : Nat) (k : Nat) (x_3 : Int) (x_2 : Int), (x_3 = (k : Int)) → (x_2 = (q_bf σ.1 k)) → (k ≤ q_nrn σ.1) → q_nrn σ.1 - k < n_24 → ∀ (H : Heap) (locs : List Loc) (ls : Array Slot), gKH G M0 (kS σ) s H locs → lv_has ls 7 [(3, .int (iZ x_3)), (2, .int (iZ x_2)), (1, .int (iZ 1)), (0, .ref (gad G 152))] → W p l e ({ frames := 10, cells := 200, slots := 1200, locals := 238 } : Room) s m [.ref (gad G 152)].toArray below meth c H locs (2 + 12 * k) (6 * (2 + 12 * k)) (gLQ below G M0 (fun z K1 => z = 1 ∧ K1 = kS σ) [.ref (gad G 152)] s 200) (F0 m 24 ls []) := by
      intro n_24
      induction n_24 with
      | zero => intro k x_3 x_2 he_3 he_2 hk hm_24; exact absurd hm_24 (Nat.not_lt_zero _)
      | succ n_24 ih_24 =>
        intro k x_3 x_2 he_3 he_2 hk hm_24 H locs ls hG hl
        subst he_3
        subst he_2
        refine lv_iload_n hx hb dL_places_24 rfl (lv_at hl 0 rfl) ?_
        refine lv_aload_n hx hb dL_places_25 rfl (lv_at hl 3 rfl) ?_
        refine lv_iconst (v := iZ 2) hx hb dL_places_26 rfl ?_
        refine g_cL (As := [.ref (gad G 152), .int (iZ 2)]) (rest := [.int (iZ (k : Int))]) (2 + 12 * k + 1) ⟨hx, hb, hml, hown, hts⟩ (c_L_about l hl0 G hdm M0 σ hσ 2 (by omega)) (va_cwS 2 hts gA_places_L_about rfl rfl rfl (by decide +kernel) ⟨Nat.le_of_ble_eq_true rfl, Nat.le_of_ble_eq_true rfl⟩) hG rfl hl.1 rfl (Nat.le_of_ble_eq_true rfl) dL_places_27 ⟨by omega, by omega⟩ ⟨by dsimp only; omega, by dsimp only; omega⟩ (fun z4 K5 H locs hp_27 hG => ?_)
        obtain ⟨hz_27, hK_27⟩ := hp_27
        replace hz_27 := hz_27.trans ((a_about_2 σ).trans (nrn_eq σ.1))
        replace hz_27 := hz_27.symm; subst hz_27; replace hK_27 := hK_27.symm; subst hK_27
        refine z_icmp_ge (tgt := 189) hx hb (by omega) (by omega) dL_places_30 (by decide) (fun c_30 => ?_) (fun c_30 => ?_)
        · skip
          refine lv_iload_n hx hb dL_places_189 rfl (lv_at hl 2 rfl) ?_
          exact g_zretL (z := 1) hx hb hr hG hlocks (Or.inr rfl) (⟨rfl, rfl⟩) ⟨by omega, by omega⟩ dL_places_190
        · skip
          refine lv_iload_n hx hb dL_places_33 rfl (lv_at hl 2 rfl) ?_
          refine z_if_eq (tgt := 189) hx hb (by decide) dL_places_34 (by decide) (fun c_34 => ?_) (fun c_34 => ?_)
          · exfalso; omega
          · skip
            have hst := (st_in hσ.1.1 (k := k) (by omega)).2
            have hpl := pl_in hst.2.1
            have hd5 := dok5 hσ.1.1 (q_st σ.1 k) hst.1
            have hsc9 := sc_in (hσ.1.1.2.1 (q_st σ.1 k) hst.1)
            have hbf : 0 ≤ q_bf σ.1 k ∧ q_bf σ.1 k ≤ q_pl σ.1 (q_st σ.1 k) := by
              cases k with
              | zero => exact ⟨Int.le_refl 0, by show (0 : Int) ≤ _; omega⟩
              | succ k9 =>
                have h8 := pl_next hσ.1.1 (k := k9) (by omega)
                have h7 := pl_in (st_in hσ.1.1 (k := k9) (by omega)).2.2.1
                show 0 ≤ q_pl σ.1 (q_st σ.1 k9) ∧ q_pl σ.1 (q_st σ.1 k9) ≤ _
                omega
            refine lv_aload_n hx hb dL_places_37 rfl (lv_at hl 3 rfl) ?_
            refine lv_iload_n hx hb dL_places_38 rfl (lv_at hl 0 rfl) ?_
            refine g_cX (b := 152) (As := [.int (iZ (k : Int))]) (rest := []) (2 + 12 * k + 2) ⟨hx, hb, hml, hown, hts⟩ (hdm 152 (by decide)) (fun f => rfl) rfl rfl (fun M9 hK9 => c_X5_standing l G M9 hl0 hdm σ.1 (show q_K M9 σ from hK9).1 (hσ).1.1 (k : Int) (by omega)) (cwV 1 hts gA_places_X5_standing rfl rfl rfl (by decide +kernel) ⟨Nat.le_of_ble_eq_true rfl, Nat.le_of_ble_eq_true rfl⟩) hG rfl hl.1 rfl (Nat.le_of_ble_eq_true rfl) dL_places_39 ⟨by omega, by omega⟩ ⟨by dsimp only; omega, by dsimp only; omega⟩ (fun M9 E9 N9 hK9 hp9 => by have h9 := hp9.1.1; rw [if_neg (by omega)] at h9; exact absurd h9 (by decide)) (fun M9 z9 N9 hK9 hp9 hF9 => ⟨(show q_K M9 σ from hK9).cs hp9.2.2, hF9.tr (q_bd.cs hp9.2.2)⟩) (fun z6 H locs hp_39 hG => ?_)
            obtain ⟨M9, N9, -, -, hz_39, -⟩ := hp_39
            replace hz_39 := hz_39.trans ((st_in hσ.1.1 (by omega)).1)
            replace hz_39 := hz_39.symm; subst hz_39
            refine lv_istore (lv' := [(4, .int (iZ ((q_st σ.1 k) : Int))), (3, .int (iZ (k : Int))), (2, .int (iZ (q_bf σ.1 k))), (1, .int (iZ 1)), (0, .ref (gad G 152))]) hx hb dL_places_42 hl (by decide) rfl (fun ls hl => ?_)
            refine lv_aload_n hx hb dL_places_44 rfl (lv_at hl 4 rfl) ?_
            refine lv_iload hx hb dL_places_45 (lv_at hl 0 rfl) ?_
            refine lv_bipush (v := iZ (6)) hx hb dL_places_47 (by decide) ?_
            refine g_cL (As := [.ref (gad G 152), .int (iZ ((q_st σ.1 k) : Int)), .int (iZ 6)]) (rest := []) (2 + 12 * k + 3) ⟨hx, hb, hml, hown, hts⟩ (c_L_dog l hl0 G hdm M0 σ hσ ((q_st σ.1 k) : Int) (by omega) 6 (by omega)) (va_cwS 3 hts gA_places_L_dog rfl rfl rfl (by decide +kernel) ⟨Nat.le_of_ble_eq_true rfl, Nat.le_of_ble_eq_true rfl⟩) hG rfl hl.1 rfl (Nat.le_of_ble_eq_true rfl) dL_places_49 ⟨by omega, by omega⟩ ⟨by dsimp only; omega, by dsimp only; omega⟩ (fun z7 K8 H locs hp_49 hG => ?_)
            obtain ⟨hz_49, hK_49⟩ := hp_49
            replace hz_49 := hz_49.trans (a_dog_6 (σ := σ) (i := (q_st σ.1 k)) (by omega))
            replace hz_49 := hz_49.symm; subst hz_49; replace hK_49 := hK_49.symm; subst hK_49
            refine lv_istore (lv' := [(5, .int (iZ (q_pl σ.1 (q_st σ.1 k)))), (4, .int (iZ ((q_st σ.1 k) : Int))), (3, .int (iZ (k : Int))), (2, .int (iZ (q_bf σ.1 k))), (1, .int (iZ 1)), (0, .ref (gad G 152))]) hx hb dL_places_52 hl (by decide) rfl (fun ls hl => ?_)
            refine lv_aload_n hx hb dL_places_54 rfl (lv_at hl 5 rfl) ?_
            refine lv_iload hx hb dL_places_55 (lv_at hl 1 rfl) ?_
            refine lv_iconst (v := iZ 3) hx hb dL_places_57 rfl ?_
            refine g_cL (As := [.ref (gad G 152), .int (iZ ((q_st σ.1 k) : Int)), .int (iZ 3)]) (rest := []) (2 + 12 * k + 4) ⟨hx, hb, hml, hown, hts⟩ (c_L_dog l hl0 G hdm M0 σ hσ ((q_st σ.1 k) : Int) (by omega) 3 (by omega)) (va_cwS 3 hts gA_places_L_dog rfl rfl rfl (by decide +kernel) ⟨Nat.le_of_ble_eq_true rfl, Nat.le_of_ble_eq_true rfl⟩) hG rfl hl.1 rfl (Nat.le_of_ble_eq_true rfl) dL_places_58 ⟨by omega, by omega⟩ ⟨by dsimp only; omega, by dsimp only; omega⟩ (fun z9 K10 H locs hp_58 hG => ?_)
            obtain ⟨hz_58, hK_58⟩ := hp_58
            replace hz_58 := hz_58.trans (a_dog_3 (σ := σ) (i := (q_st σ.1 k)) (by omega))
            replace hz_58 := hz_58.symm; subst hz_58; replace hK_58 := hK_58.symm; subst hK_58
            refine lv_iconst (v := iZ 1) hx hb dL_places_61 rfl ?_
            refine z_icmp_ne (tgt := 89) hx hb (by omega) (by decide) dL_places_62 (by decide) (fun c_62 => ?_) (fun c_62 => ?_)
            · exfalso; omega
            · skip
              refine lv_iload hx hb dL_places_65 (lv_at hl 0 rfl) ?_
              refine lv_iload_n hx hb dL_places_67 rfl (lv_at hl 3 rfl) ?_
              refine z_icmp_lt (tgt := 89) hx hb (by omega) (by omega) dL_places_68 (by decide) (fun c_68 => ?_) (fun c_68 => ?_)
              · exfalso; omega
              · skip
                refine lv_iload hx hb dL_places_71 (lv_at hl 0 rfl) ?_
                refine lv_iload_n hx hb dL_places_73 rfl (lv_at hl 2 rfl) ?_
                refine lv_iconst (v := iZ 1) hx hb dL_places_74 rfl ?_
                refine z_iadd (z := ((k : Int) + 1)) hx hb (by omega) dL_places_75 ?_
                refine z_icmp_gt (tgt := 89) hx hb (by omega) (by omega) dL_places_76 (by decide) (fun c_76 => ?_) (fun c_76 => ?_)
                · exfalso; omega
                · skip
                  refine lv_iload hx hb dL_places_79 (lv_at hl 0 rfl) ?_
                  refine lv_iconst (v := iZ 1) hx hb dL_places_81 rfl ?_
                  refine z_icmp_lt (tgt := 89) hx hb (by omega) (by decide) dL_places_82 (by decide) (fun c_82 => ?_) (fun c_82 => ?_)
                  · exfalso; omega
                  · skip
                    refine lv_iconst (v := iZ 1) hx hb dL_places_85 rfl ?_
                    refine lv_goto (tgt := 90) hx hb dL_places_86 (by decide) ?_
                    refine lv_istore_n (lv' := [(1, .int (iZ 1)), (5, .int (iZ (q_pl σ.1 (q_st σ.1 k)))), (4, .int (iZ ((q_st σ.1 k) : Int))), (3, .int (iZ (k : Int))), (2, .int (iZ (q_bf σ.1 k))), (0, .ref (gad G 152))]) hx hb dL_places_90 rfl hl (by decide) rfl (fun ls hl => ?_)
                    have J_180 : ∀ (H : Heap) (locs : List Loc) (ls : Array Slot), gKH G M0 (kS σ) s H locs → lv_has ls 7 [(1, .int (iZ 1)), (5, .int (iZ (q_pl σ.1 (q_st σ.1 k)))), (4, .int (iZ ((q_st σ.1 k) : Int))), (3, .int (iZ (k : Int))), (2, .int (iZ (q_bf σ.1 k))), (0, .ref (gad G 152))] → W p l e ({ frames := 10, cells := 200, slots := 1200, locals := 238 } : Room) s m [.ref (gad G 152)].toArray below meth c H locs (2 + 12 * k + 12) (6 * (2 + 12 * k + 12)) (gLQ below G M0 (fun z K1 => z = 1 ∧ K1 = kS σ) [.ref (gad G 152)] s 200) (F0 m 180 ls []) := by
                      intro  H locs ls hG hl
                      refine lv_iload hx hb dL_places_180 (lv_at hl 1 rfl) ?_
                      refine lv_istore_n (lv' := [(2, .int (iZ (q_pl σ.1 (q_st σ.1 k)))), (1, .int (iZ 1)), (5, .int (iZ (q_pl σ.1 (q_st σ.1 k)))), (4, .int (iZ ((q_st σ.1 k) : Int))), (3, .int (iZ (k : Int))), (0, .ref (gad G 152))]) hx hb dL_places_182 rfl hl (by decide) rfl (fun ls hl => ?_)
                      refine z_iinc (z := ((k : Int) + 1)) (lv' := [(3, .int (iZ ((k : Int) + 1))), (2, .int (iZ (q_pl σ.1 (q_st σ.1 k)))), (1, .int (iZ 1)), (5, .int (iZ (q_pl σ.1 (q_st σ.1 k)))), (4, .int (iZ ((q_st σ.1 k) : Int))), (0, .ref (gad G 152))]) hx hb dL_places_183 hl (k := 4) rfl (by omega) (by decide) rfl (fun ls hl => ?_)
                      refine lv_goto (tgt := 24) hx hb dL_places_186 (by decide) ?_
                      refine W.widen (k := 2 + 12 * (k + 1)) (n := 6 * (2 + 12 * (k + 1))) (by omega) (by omega) ?_
                      exact ih_24 (k + 1) ((k : Int) + 1) (q_pl σ.1 (q_st σ.1 k)) (by omega) rfl (by omega) (by omega) _ _ _ hG (lv_sub hl [0, 1, 2, 5] rfl)
                    refine lv_iload_n hx hb dL_places_91 rfl (lv_at hl 3 rfl) ?_
                    refine z_if_le (tgt := 180) hx hb (by omega) dL_places_92 (by decide) (fun c_92 => ?_) (fun c_92 => ?_)
                    · skip
                      refine W.widen (k := 2 + 12 * k + 12) (n := 6 * (2 + 12 * k + 12)) (by omega) (by omega) ?_
                      exact J_180  _ _ _ hG (lv_sub hl [0, 1, 2, 3, 4, 5] rfl)
                    · skip
                      have hsj := (st_in hσ.1.1 (k := k - 1) (by omega)).2
                      have hd6 := dok5 hσ.1.1 (q_st σ.1 (k - 1)) hsj.1
                      have hsc8 := sc_in (hσ.1.1.2.1 (q_st σ.1 (k - 1)) hsj.1)
                      have hnx := pl_next hσ.1.1 (k := k - 1) (by omega)
                      rw [show k - 1 + 1 = k by omega] at hnx
                      have hbe : q_bf σ.1 k = q_pl σ.1 (q_st σ.1 (k - 1)) := by
                        cases k with
                        | zero => omega
                        | succ k9 => rfl
                      refine lv_aload_n hx hb dL_places_95 rfl (lv_at hl 5 rfl) ?_
                      refine lv_iload_n hx hb dL_places_96 rfl (lv_at hl 3 rfl) ?_
                      refine lv_iconst (v := iZ 1) hx hb dL_places_97 rfl ?_
                      refine z_isub (z := ((k : Int) - 1)) hx hb (by omega) dL_places_98 ?_
                      refine g_cX (b := 152) (As := [.int (iZ ((k : Int) - 1))]) (rest := []) (2 + 12 * k + 5) ⟨hx, hb, hml, hown, hts⟩ (hdm 152 (by decide)) (fun f => rfl) rfl rfl (fun M9 hK9 => c_X5_standing l G M9 hl0 hdm σ.1 (show q_K M9 σ from hK9).1 (hσ).1.1 ((k : Int) - 1) (by omega)) (cwV 1 hts gA_places_X5_standing rfl rfl rfl (by decide +kernel) ⟨Nat.le_of_ble_eq_true rfl, Nat.le_of_ble_eq_true rfl⟩) hG rfl hl.1 rfl (Nat.le_of_ble_eq_true rfl) dL_places_99 ⟨by omega, by omega⟩ ⟨by dsimp only; omega, by dsimp only; omega⟩ (fun M9 E9 N9 hK9 hp9 => by have h9 := hp9.1.1; rw [if_neg (by omega)] at h9; exact absurd h9 (by decide)) (fun M9 z9 N9 hK9 hp9 hF9 => ⟨(show q_K M9 σ from hK9).cs hp9.2.2, hF9.tr (q_bd.cs hp9.2.2)⟩) (fun z11 H locs hp_99 hG => ?_)
                      obtain ⟨M9, N9, -, -, hz_99, -⟩ := hp_99
                      replace hz_99 := hz_99.trans ((congrArg (q_std σ.1) (show (k : Int) - 1 = ((k - 1 : Nat) : Int) by omega)).trans (st_in hσ.1.1 (by omega)).1)
                      replace hz_99 := hz_99.symm; subst hz_99
                      refine lv_istore (lv' := [(6, .int (iZ ((q_st σ.1 (k - 1)) : Int))), (1, .int (iZ 1)), (5, .int (iZ (q_pl σ.1 (q_st σ.1 k)))), (4, .int (iZ ((q_st σ.1 k) : Int))), (3, .int (iZ (k : Int))), (2, .int (iZ (q_bf σ.1 k))), (0, .ref (gad G 152))]) hx hb dL_places_102 hl (by decide) rfl (fun ls hl => ?_)
                      refine lv_iload_n hx hb dL_places_104 rfl (lv_at hl 1 rfl) ?_
                      refine lv_aload_n hx hb dL_places_105 rfl (lv_at hl 6 rfl) ?_
                      refine lv_iload hx hb dL_places_106 (lv_at hl 0 rfl) ?_
                      refine lv_iconst (v := iZ 4) hx hb dL_places_108 rfl ?_
                      refine g_cL (As := [.ref (gad G 152), .int (iZ ((q_st σ.1 (k - 1)) : Int)), .int (iZ 4)]) (rest := [.int (iZ 1)]) (2 + 12 * k + 6) ⟨hx, hb, hml, hown, hts⟩ (c_L_dog l hl0 G hdm M0 σ hσ ((q_st σ.1 (k - 1)) : Int) (by omega) 4 (by omega)) (va_cwS 3 hts gA_places_L_dog rfl rfl rfl (by decide +kernel) ⟨Nat.le_of_ble_eq_true rfl, Nat.le_of_ble_eq_true rfl⟩) hG rfl hl.1 rfl (Nat.le_of_ble_eq_true rfl) dL_places_109 ⟨by omega, by omega⟩ ⟨by dsimp only; omega, by dsimp only; omega⟩ (fun z12 K13 H locs hp_109 hG => ?_)
                      obtain ⟨hz_109, hK_109⟩ := hp_109
                      replace hz_109 := hz_109.trans (a_dog_4 (σ := σ) (i := (q_st σ.1 (k - 1))) (by omega))
                      replace hz_109 := hz_109.symm; subst hz_109; replace hK_109 := hK_109.symm; subst hK_109
                      refine lv_aload_n hx hb dL_places_112 rfl (lv_at hl 6 rfl) ?_
                      refine lv_iload hx hb dL_places_113 (lv_at hl 3 rfl) ?_
                      refine lv_iconst (v := iZ 4) hx hb dL_places_115 rfl ?_
                      refine g_cL (As := [.ref (gad G 152), .int (iZ ((q_st σ.1 k) : Int)), .int (iZ 4)]) (rest := [.int (iZ (q_sc σ.1 (q_st σ.1 (k - 1)))), .int (iZ 1)]) (2 + 12 * k + 7) ⟨hx, hb, hml, hown, hts⟩ (c_L_dog l hl0 G hdm M0 σ hσ ((q_st σ.1 k) : Int) (by omega) 4 (by omega)) (va_cwS 3 hts gA_places_L_dog rfl rfl rfl (by decide +kernel) ⟨Nat.le_of_ble_eq_true rfl, Nat.le_of_ble_eq_true rfl⟩) hG rfl hl.1 rfl (Nat.le_of_ble_eq_true rfl) dL_places_116 ⟨by omega, by omega⟩ ⟨by dsimp only; omega, by dsimp only; omega⟩ (fun z14 K15 H locs hp_116 hG => ?_)
                      obtain ⟨hz_116, hK_116⟩ := hp_116
                      replace hz_116 := hz_116.trans (a_dog_4 (σ := σ) (i := (q_st σ.1 k)) (by omega))
                      replace hz_116 := hz_116.symm; subst hz_116; replace hK_116 := hK_116.symm; subst hK_116
                      refine z_icmp_lt (tgt := 177) hx hb (by omega) (by omega) dL_places_119 (by decide) (fun c_119 => ?_) (fun c_119 => ?_)
                      · exfalso; omega
                      · skip
                        have J_173 : ∀ (H : Heap) (locs : List Loc) (ls : Array Slot), gKH G M0 (kS σ) s H locs → lv_has ls 7 [(6, .int (iZ ((q_st σ.1 (k - 1)) : Int))), (1, .int (iZ 1)), (5, .int (iZ (q_pl σ.1 (q_st σ.1 k)))), (4, .int (iZ ((q_st σ.1 k) : Int))), (3, .int (iZ (k : Int))), (2, .int (iZ (q_bf σ.1 k))), (0, .ref (gad G 152))] → W p l e ({ frames := 10, cells := 200, slots := 1200, locals := 238 } : Room) s m [.ref (gad G 152)].toArray below meth c H locs (2 + 12 * k + 11) (6 * (2 + 12 * k + 11)) (gLQ below G M0 (fun z K1 => z = 1 ∧ K1 = kS σ) [.ref (gad G 152)] s 200) (F0 m 173 ls [.int (iZ 1)]) := by
                          intro  H locs ls hG hl
                          refine lv_iconst (v := iZ 1) hx hb dL_places_173 rfl ?_
                          refine lv_goto (tgt := 178) hx hb dL_places_174 (by decide) ?_
                          refine z_iand_b hx hb (Or.inr rfl) dL_places_178 ?_
                          refine lv_istore_n (lv' := [(1, .int (iZ 1)), (6, .int (iZ ((q_st σ.1 (k - 1)) : Int))), (5, .int (iZ (q_pl σ.1 (q_st σ.1 k)))), (4, .int (iZ ((q_st σ.1 k) : Int))), (3, .int (iZ (k : Int))), (2, .int (iZ (q_bf σ.1 k))), (0, .ref (gad G 152))]) hx hb dL_places_179 rfl hl (by decide) rfl (fun ls hl => ?_)
                          refine W.widen (k := 2 + 12 * k + 12) (n := 6 * (2 + 12 * k + 12)) (by omega) (by omega) ?_
                          exact J_180  _ _ _ hG (lv_sub hl [0, 2, 3, 4, 5, 6] rfl)
                        refine lv_iload hx hb dL_places_122 (lv_at hl 2 rfl) ?_
                        refine lv_iload_n hx hb dL_places_124 rfl (lv_at hl 5 rfl) ?_
                        refine z_icmp_le (tgt := 139) hx hb (by omega) (by omega) dL_places_125 (by decide) (fun c_125 => ?_) (fun c_125 => ?_)
                        · skip
                          refine lv_aload_n hx hb dL_places_139 rfl (lv_at hl 6 rfl) ?_
                          refine lv_iload hx hb dL_places_140 (lv_at hl 0 rfl) ?_
                          refine lv_iconst (v := iZ 4) hx hb dL_places_142 rfl ?_
                          refine g_cL (As := [.ref (gad G 152), .int (iZ ((q_st σ.1 (k - 1)) : Int)), .int (iZ 4)]) (rest := [.int (iZ 1)]) (2 + 12 * k + 8) ⟨hx, hb, hml, hown, hts⟩ (c_L_dog l hl0 G hdm M0 σ hσ ((q_st σ.1 (k - 1)) : Int) (by omega) 4 (by omega)) (va_cwS 3 hts gA_places_L_dog rfl rfl rfl (by decide +kernel) ⟨Nat.le_of_ble_eq_true rfl, Nat.le_of_ble_eq_true rfl⟩) hG rfl hl.1 rfl (Nat.le_of_ble_eq_true rfl) dL_places_143 ⟨by omega, by omega⟩ ⟨by dsimp only; omega, by dsimp only; omega⟩ (fun z16 K17 H locs hp_143 hG => ?_)
                          obtain ⟨hz_143, hK_143⟩ := hp_143
                          replace hz_143 := hz_143.trans (a_dog_4 (σ := σ) (i := (q_st σ.1 (k - 1))) (by omega))
                          replace hz_143 := hz_143.symm; subst hz_143; replace hK_143 := hK_143.symm; subst hK_143
                          refine lv_aload_n hx hb dL_places_146 rfl (lv_at hl 6 rfl) ?_
                          refine lv_iload hx hb dL_places_147 (lv_at hl 3 rfl) ?_
                          refine lv_iconst (v := iZ 4) hx hb dL_places_149 rfl ?_
                          refine g_cL (As := [.ref (gad G 152), .int (iZ ((q_st σ.1 k) : Int)), .int (iZ 4)]) (rest := [.int (iZ (q_sc σ.1 (q_st σ.1 (k - 1)))), .int (iZ 1)]) (2 + 12 * k + 9) ⟨hx, hb, hml, hown, hts⟩ (c_L_dog l hl0 G hdm M0 σ hσ ((q_st σ.1 k) : Int) (by omega) 4 (by omega)) (va_cwS 3 hts gA_places_L_dog rfl rfl rfl (by decide +kernel) ⟨Nat.le_of_ble_eq_true rfl, Nat.le_of_ble_eq_true rfl⟩) hG rfl hl.1 rfl (Nat.le_of_ble_eq_true rfl) dL_places_150 ⟨by omega, by omega⟩ ⟨by dsimp only; omega, by dsimp only; omega⟩ (fun z18 K19 H locs hp_150 hG => ?_)
                          obtain ⟨hz_150, hK_150⟩ := hp_150
                          replace hz_150 := hz_150.trans (a_dog_4 (σ := σ) (i := (q_st σ.1 k)) (by omega))
                          replace hz_150 := hz_150.symm; subst hz_150; replace hK_150 := hK_150.symm; subst hK_150
                          refine z_icmp_ne (tgt := 177) hx hb (by omega) (by omega) dL_places_153 (by decide) (fun c_153 => ?_) (fun c_153 => ?_)
                          · exfalso; omega
                          · skip
                            refine lv_aload_n hx hb dL_places_156 rfl (lv_at hl 6 rfl) ?_
                            refine lv_iload hx hb dL_places_157 (lv_at hl 0 rfl) ?_
                            refine lv_iconst (v := iZ 1) hx hb dL_places_159 rfl ?_
                            refine g_cL (As := [.ref (gad G 152), .int (iZ ((q_st σ.1 (k - 1)) : Int)), .int (iZ 1)]) (rest := [.int (iZ 1)]) (2 + 12 * k + 10) ⟨hx, hb, hml, hown, hts⟩ (c_L_dog l hl0 G hdm M0 σ hσ ((q_st σ.1 (k - 1)) : Int) (by omega) 1 (by omega)) (va_cwS 3 hts gA_places_L_dog rfl rfl rfl (by decide +kernel) ⟨Nat.le_of_ble_eq_true rfl, Nat.le_of_ble_eq_true rfl⟩) hG rfl hl.1 rfl (Nat.le_of_ble_eq_true rfl) dL_places_160 ⟨by omega, by omega⟩ ⟨by dsimp only; omega, by dsimp only; omega⟩ (fun z20 K21 H locs hp_160 hG => ?_)
                            obtain ⟨hz_160, hK_160⟩ := hp_160
                            replace hz_160 := hz_160.trans (a_dog_1 (σ := σ) (i := (q_st σ.1 (k - 1))) (by omega))
                            replace hz_160 := hz_160.symm; subst hz_160; replace hK_160 := hK_160.symm; subst hK_160
                            refine lv_aload_n hx hb dL_places_163 rfl (lv_at hl 6 rfl) ?_
                            refine lv_iload hx hb dL_places_164 (lv_at hl 3 rfl) ?_
                            refine lv_iconst (v := iZ 1) hx hb dL_places_166 rfl ?_
                            refine g_cL (As := [.ref (gad G 152), .int (iZ ((q_st σ.1 k) : Int)), .int (iZ 1)]) (rest := [.int (iZ (q_dr σ.1 (q_st σ.1 (k - 1)))), .int (iZ 1)]) (2 + 12 * k + 11) ⟨hx, hb, hml, hown, hts⟩ (c_L_dog l hl0 G hdm M0 σ hσ ((q_st σ.1 k) : Int) (by omega) 1 (by omega)) (va_cwS 3 hts gA_places_L_dog rfl rfl rfl (by decide +kernel) ⟨Nat.le_of_ble_eq_true rfl, Nat.le_of_ble_eq_true rfl⟩) hG rfl hl.1 rfl (Nat.le_of_ble_eq_true rfl) dL_places_167 ⟨by omega, by omega⟩ ⟨by dsimp only; omega, by dsimp only; omega⟩ (fun z22 K23 H locs hp_167 hG => ?_)
                            obtain ⟨hz_167, hK_167⟩ := hp_167
                            replace hz_167 := hz_167.trans (a_dog_1 (σ := σ) (i := (q_st σ.1 k)) (by omega))
                            replace hz_167 := hz_167.symm; subst hz_167; replace hK_167 := hK_167.symm; subst hK_167
                            refine z_icmp_ge (tgt := 177) hx hb (by omega) (by omega) dL_places_170 (by decide) (fun c_170 => ?_) (fun c_170 => ?_)
                            · exfalso; omega
                            · skip
                              refine W.widen (k := 2 + 12 * k + 11) (n := 6 * (2 + 12 * k + 11)) (by omega) (by omega) ?_
                              exact J_173  _ _ _ hG (lv_sub hl [0, 1, 2, 3, 4, 5, 6] rfl)
                        · skip
                          refine lv_iload hx hb dL_places_128 (lv_at hl 2 rfl) ?_
                          refine lv_iload_n hx hb dL_places_130 rfl (lv_at hl 4 rfl) ?_
                          refine lv_iconst (v := iZ 1) hx hb dL_places_131 rfl ?_
                          refine z_iadd (z := ((k : Int) + 1)) hx hb (by omega) dL_places_132 ?_
                          refine z_icmp_ne (tgt := 177) hx hb (by omega) (by omega) dL_places_133 (by decide) (fun c_133 => ?_) (fun c_133 => ?_)
                          · exfalso; omega
                          · skip
                            refine lv_goto (tgt := 173) hx hb dL_places_136 (by decide) ?_
                            refine W.widen (k := 2 + 12 * k + 11) (n := 6 * (2 + 12 * k + 11)) (by omega) (by omega) ?_
                            exact J_173  _ _ _ hG (lv_sub hl [0, 1, 2, 3, 4, 5, 6] rfl)
    refine W.widen (k := 2 + 12 * 0) (n := 6 * (2 + 12 * 0)) (by omega) (by omega) ?_
    exact L_24 _ 0 0 0 rfl rfl (by omega) (Nat.lt_succ_self _) _ _ _ hG (lv_sub hl [0, 1, 2, 3] rfl)
