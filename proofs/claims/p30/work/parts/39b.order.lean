set_option maxHeartbeats 4000000 in
set_option maxRecDepth 100000 in
theorem c_L_order (l : Launch) (hl0 : l.stackTraces = false) (G : gG) (hdm : ∀ k, k < 169 → gdm G k) (M0 : Nat → Nat → Int) (σ : gS) (hσ : s_ok σ)  : gML l yL_order wA_order ({ frames := 10, cells := 1500, slots := 9000, locals := 238 } : Room) 1500 G M0 (kS σ) [.ref (gad G 152)] (fun z K1 => z = 1 ∧ K1 = kS σ) := by
  refine gML_of (cc := cL_order) (maxL := 12) (ret := some .boolean) (by decide) rfl (Nat.le_of_ble_eq_true rfl) ?_
  intro p e s m below meth c ls hx hb hr hml hown hts hlocks hl hG
  have hown : s.vm.findClass RL = some m.cls := hown
  have hl : lv_has ls 12 [(0, .ref (gad G 152))] := hl
  have hnd : 1 ≤ q_nd σ.1 ∧ q_nd σ.1 ≤ 12 := ⟨hσ.1.2.2, hσ.1.1.1.2⟩
  have hol := q_orn_le hσ.1.1
  have h39 := hσ.1.1.2.2.2.2.2.1
  refine lv_aload_n hx hb dL_order_0 rfl (lv_at hl 0 rfl) ?_
  refine lv_iconst (v := iZ 1) hx hb dL_order_1 rfl ?_
  refine g_cL (As := [.ref (gad G 152), .int (iZ 1)]) (rest := []) (1) ⟨hx, hb, hml, hown, hts⟩ (c_L_about l hl0 G hdm M0 σ hσ 1 (by omega)) (va_cwS 2 hts gA_order_L_about rfl rfl rfl (by decide +kernel) ⟨Nat.le_of_ble_eq_true rfl, Nat.le_of_ble_eq_true rfl⟩) hG rfl hl.1 rfl (Nat.le_of_ble_eq_true rfl) dL_order_2 ⟨by omega, by omega⟩ ⟨Nat.le_of_ble_eq_true rfl, Nat.le_of_ble_eq_true rfl⟩ (fun z1 K2 H locs hp_2 hG => ?_)
  obtain ⟨hz_2, hK_2⟩ := hp_2
  replace hz_2 := hz_2.trans ((a_about_1 σ).trans (orn_wait hσ.1.1).symm)
  replace hz_2 := hz_2.symm; subst hz_2; replace hK_2 := hK_2.symm; subst hK_2
  refine lv_istore_n (lv' := [(1, .int (iZ ((q_orn σ.1) : Int))), (0, .ref (gad G 152))]) hx hb dL_order_5 rfl hl (by decide) rfl (fun ls hl => ?_)
  refine lv_iconst (v := iZ 0) hx hb dL_order_6 rfl ?_
  refine lv_istore_n (lv' := [(2, .int (iZ 0)), (1, .int (iZ ((q_orn σ.1) : Int))), (0, .ref (gad G 152))]) hx hb dL_order_7 rfl hl (by decide) rfl (fun ls hl => ?_)
  refine lv_aload_n hx hb dL_order_8 rfl (lv_at hl 2 rfl) ?_
  refine lv_iconst (v := iZ 5) hx hb dL_order_9 rfl ?_
  refine lv_iload_n hx hb dL_order_10 rfl (lv_at hl 1 rfl) ?_
  refine lv_iconst (v := iZ 0) hx hb dL_order_11 rfl ?_
  refine lv_iconst (v := iZ 0) hx hb dL_order_12 rfl ?_
  refine lv_iconst (v := iZ 0) hx hb dL_order_13 rfl ?_
  refine g_cL (As := [.ref (gad G 152), .int (iZ 5), .int (iZ ((q_orn σ.1) : Int)), .int (iZ 0), .int (iZ 0), .int (iZ 0)]) (rest := []) (2) ⟨hx, hb, hml, hown, hts⟩ (c_L_call_Order l hl0 G hdm M0 σ hσ ((q_orn σ.1) : Int) (by omega) 0 0 0) (va_cwS 6 hts gA_order_L_call rfl rfl rfl (by decide +kernel) ⟨Nat.le_of_ble_eq_true rfl, Nat.le_of_ble_eq_true rfl⟩) hG rfl hl.1 rfl (Nat.le_of_ble_eq_true rfl) dL_order_14 ⟨by omega, by omega⟩ ⟨Nat.le_of_ble_eq_true rfl, Nat.le_of_ble_eq_true rfl⟩ (fun z3 K4 H locs hp_14 hG => ?_)
  obtain ⟨hz_14, hK_14⟩ := hp_14
  replace hz_14 := hz_14.trans ((a_order_in (by omega)).trans (atk_past σ.1))
  replace hz_14 := hz_14.symm; subst hz_14; replace hK_14 := hK_14.symm; subst hK_14
  refine lv_bipush (v := iZ (-9)) hx hb dL_order_17 (by decide) ?_
  refine z_icmp_ne (tgt := 40) hx hb (by decide) (by decide) dL_order_19 (by decide) (fun c_19 => ?_) (fun c_19 => ?_)
  · exfalso; omega
  · skip
    refine lv_aload_n hx hb dL_order_22 rfl (lv_at hl 2 rfl) ?_
    refine lv_iconst (v := iZ 5) hx hb dL_order_23 rfl ?_
    refine lv_iconst (v := iZ (-1)) hx hb dL_order_24 rfl ?_
    refine lv_iconst (v := iZ 0) hx hb dL_order_25 rfl ?_
    refine lv_iconst (v := iZ 0) hx hb dL_order_26 rfl ?_
    refine lv_iconst (v := iZ 0) hx hb dL_order_27 rfl ?_
    refine g_cL (As := [.ref (gad G 152), .int (iZ 5), .int (iZ (-1)), .int (iZ 0), .int (iZ 0), .int (iZ 0)]) (rest := []) (3) ⟨hx, hb, hml, hown, hts⟩ (c_L_call_Order l hl0 G hdm M0 σ hσ (-1) (by omega) 0 0 0) (va_cwS 6 hts gA_order_L_call rfl rfl rfl (by decide +kernel) ⟨Nat.le_of_ble_eq_true rfl, Nat.le_of_ble_eq_true rfl⟩) hG rfl hl.1 rfl (Nat.le_of_ble_eq_true rfl) dL_order_28 ⟨by omega, by omega⟩ ⟨Nat.le_of_ble_eq_true rfl, Nat.le_of_ble_eq_true rfl⟩ (fun z5 K6 H locs hp_28 hG => ?_)
    obtain ⟨hz_28, hK_28⟩ := hp_28
    replace hz_28 := hz_28.trans (a_order_neg σ)
    replace hz_28 := hz_28.symm; subst hz_28; replace hK_28 := hK_28.symm; subst hK_28
    refine lv_ldc (v := iZ (-9999002)) hx hb hown (by rw [show iZ (-9999002) = (-9999002 : Int32) from by decide]; exact hts (.constant RL 15 (-9999002)) (List.mem_cons_of_mem _ (List.mem_append_left _ (by decide +kernel)))) dL_order_31 ?_
    refine z_icmp_ne (tgt := 40) hx hb (by decide) (by decide) dL_order_33 (by decide) (fun c_33 => ?_) (fun c_33 => ?_)
    · exfalso; omega
    · skip
      refine lv_iconst (v := iZ 1) hx hb dL_order_36 rfl ?_
      refine lv_goto (tgt := 41) hx hb dL_order_37 (by decide) ?_
      refine lv_istore_n (lv' := [(3, .int (iZ 1)), (2, .int (iZ 0)), (1, .int (iZ ((q_orn σ.1) : Int))), (0, .ref (gad G 152))]) hx hb dL_order_41 rfl hl (by decide) rfl (fun ls hl => ?_)
      have J_69 : ∀ (v9 : Int), (v9 = q_lw σ.1) → ∀ (H : Heap) (locs : List Loc) (ls : Array Slot), gKH G M0 (kS σ) s H locs → lv_has ls 12 [(3, .int (iZ 1)), (2, .int (iZ 0)), (1, .int (iZ ((q_orn σ.1) : Int))), (0, .ref (gad G 152))] → W p l e ({ frames := 10, cells := 1500, slots := 9000, locals := 238 } : Room) s m [.ref (gad G 152)].toArray below meth c H locs (6) (6 * (6)) (gLQ below G M0 (fun z K1 => z = 1 ∧ K1 = kS σ) [.ref (gad G 152)] s 1500) (F0 m 69 ls [.int (iZ v9)]) := by
        intro v9 hv9 H locs ls hG hl
        subst hv9
        refine lv_istore (lv' := [(4, .int (iZ (q_lw σ.1))), (3, .int (iZ 1)), (2, .int (iZ 0)), (1, .int (iZ ((q_orn σ.1) : Int))), (0, .ref (gad G 152))]) hx hb dL_order_69 hl (by decide) rfl (fun ls hl => ?_)
        refine lv_iconst (v := iZ 0) hx hb dL_order_71 rfl ?_
        refine lv_istore (lv' := [(5, .int (iZ 0)), (4, .int (iZ (q_lw σ.1))), (3, .int (iZ 1)), (2, .int (iZ 0)), (1, .int (iZ ((q_orn σ.1) : Int))), (0, .ref (gad G 152))]) hx hb dL_order_72 hl (by decide) rfl (fun ls hl => ?_)
        have L_74 : ∀ (n_74 : Nat) (k : Nat) (x_5 : Int) (x_4 : Int) (x_2 : Int), (x_5 = (k : Int)) → (x_4 = (q_hd σ.1 k)) → (x_2 = ((q_mkb σ.1 k) : Int)) → (k ≤ q_orn σ.1) → q_orn σ.1 - k < n_74 → ∀ (H : Heap) (locs : List Loc) (ls : Array Slot), gKH G M0 (kS σ) s H locs → lv_has ls 12 [(5, .int (iZ x_5)), (4, .int (iZ x_4)), (3, .int (iZ 1)), (2, .int (iZ x_2)), (1, .int (iZ ((q_orn σ.1) : Int))), (0, .ref (gad G 152))] → W p l e ({ frames := 10, cells := 1500, slots := 9000, locals := 238 } : Room) s m [.ref (gad G 152)].toArray below meth c H locs (10 + 120 * k) (6 * (10 + 120 * k)) (gLQ below G M0 (fun z K1 => z = 1 ∧ K1 = kS σ) [.ref (gad G 152)] s 1500) (F0 m 74 ls []) := by
          intro n_74
          induction n_74 with
          | zero => intro k x_5 x_4 x_2 he_5 he_4 he_2 hk hm_74; exact absurd hm_74 (Nat.not_lt_zero _)
          | succ n_74 ih_74 =>
            intro k x_5 x_4 x_2 he_5 he_4 he_2 hk hm_74 H locs ls hG hl
            subst he_5
            subst he_4
            subst he_2
            refine lv_iload hx hb dL_order_74 (lv_at hl 0 rfl) ?_
            refine lv_iload_n hx hb dL_order_76 rfl (lv_at hl 4 rfl) ?_
            refine z_icmp_ge (tgt := 330) hx hb (by omega) (by omega) dL_order_77 (by decide) (fun c_77 => ?_) (fun c_77 => ?_)
            · skip
              refine lv_iload_n hx hb dL_order_330 rfl (lv_at hl 2 rfl) ?_
              exact g_zretL (z := 1) hx hb hr hG hlocks (Or.inr rfl) (⟨rfl, rfl⟩) ⟨by omega, by omega⟩ dL_order_331
            · skip
              refine lv_iload_n hx hb dL_order_80 rfl (lv_at hl 2 rfl) ?_
              refine z_if_eq (tgt := 330) hx hb (by decide) dL_order_81 (by decide) (fun c_81 => ?_) (fun c_81 => ?_)
              · exfalso; omega
              · skip
                have hdi := di_in hσ.1.1 (k := k) (by omega)
                have hd5 := dok5 hσ.1.1 (q_di σ.1 k) hdi.1
                have hbit := mk_bit hσ.1.1 (k := k) (by omega)
                have hhd := hd_in hσ.1.1 (k := k) (by omega)
                refine lv_aload_n hx hb dL_order_84 rfl (lv_at hl 5 rfl) ?_
                refine lv_iconst (v := iZ 5) hx hb dL_order_85 rfl ?_
                refine lv_iload hx hb dL_order_86 (lv_at hl 0 rfl) ?_
                refine lv_iconst (v := iZ 0) hx hb dL_order_88 rfl ?_
                refine lv_iconst (v := iZ 0) hx hb dL_order_89 rfl ?_
                refine lv_iconst (v := iZ 0) hx hb dL_order_90 rfl ?_
                refine g_cL (As := [.ref (gad G 152), .int (iZ 5), .int (iZ (k : Int)), .int (iZ 0), .int (iZ 0), .int (iZ 0)]) (rest := []) (10 + 120 * k + 1) ⟨hx, hb, hml, hown, hts⟩ (c_L_call_Order l hl0 G hdm M0 σ hσ (k : Int) (by omega) 0 0 0) (va_cwS 6 hts gA_order_L_call rfl rfl rfl (by decide +kernel) ⟨Nat.le_of_ble_eq_true rfl, Nat.le_of_ble_eq_true rfl⟩) hG rfl hl.1 rfl (Nat.le_of_ble_eq_true rfl) dL_order_91 ⟨by omega, by omega⟩ ⟨by dsimp only; omega, by dsimp only; omega⟩ (fun z7 K8 H locs hp_91 hG => ?_)
                obtain ⟨hz_91, hK_91⟩ := hp_91
                replace hz_91 := hz_91.trans ((a_order_in (by omega)).trans (atk_di hσ.1.1 (by omega)))
                replace hz_91 := hz_91.symm; subst hz_91; replace hK_91 := hK_91.symm; subst hK_91
                refine lv_istore (lv' := [(6, .int (iZ ((q_di σ.1 k) : Int))), (5, .int (iZ (k : Int))), (4, .int (iZ (q_hd σ.1 k))), (3, .int (iZ 1)), (2, .int (iZ ((q_mkb σ.1 k) : Int))), (1, .int (iZ ((q_orn σ.1) : Int))), (0, .ref (gad G 152))]) hx hb dL_order_94 hl (by decide) rfl (fun ls hl => ?_)
                refine lv_iload hx hb dL_order_96 (lv_at hl 0 rfl) ?_
                refine z_if_lt (tgt := 148) hx hb (by omega) dL_order_98 (by decide) (fun c_98 => ?_) (fun c_98 => ?_)
                · exfalso; omega
                · skip
                  refine lv_iload_n hx hb dL_order_101 rfl (lv_at hl 4 rfl) ?_
                  refine lv_iload hx hb dL_order_102 (lv_at hl 0 rfl) ?_
                  refine z12_shrm (m9 := (q_mkb σ.1 k)) (q9 := (q_di σ.1 k)) hx hb (mk_lt hσ.1.1 hk) (by omega) (by omega) dL_order_104 ?_
                  refine lv_iconst (v := iZ 1) hx hb dL_order_105 rfl ?_
                  refine z12_andm (m9 := ((q_mkb σ.1 k) / 2 ^ (q_di σ.1 k))) hx hb (Nat.lt_of_le_of_lt (Nat.div_le_self _ _) (mk_lt hσ.1.1 hk)) dL_order_106 ?_
                  refine z_if_ne (tgt := 148) hx hb (by rw [hbit]; decide) dL_order_107 (by decide) (fun c_107 => ?_) (fun c_107 => ?_)
                  · exact absurd (by rw [hbit]; rfl) c_107
                  · skip
                    refine lv_aload_n hx hb dL_order_110 rfl (lv_at hl 6 rfl) ?_
                    refine lv_iload hx hb dL_order_111 (lv_at hl 0 rfl) ?_
                    refine lv_bipush (v := iZ (7)) hx hb dL_order_113 (by decide) ?_
                    refine g_cL (As := [.ref (gad G 152), .int (iZ ((q_di σ.1 k) : Int)), .int (iZ 7)]) (rest := []) (10 + 120 * k + 2) ⟨hx, hb, hml, hown, hts⟩ (c_L_dog l hl0 G hdm M0 σ hσ ((q_di σ.1 k) : Int) (by omega) 7 (by omega)) (va_cwS 3 hts gA_order_L_dog rfl rfl rfl (by decide +kernel) ⟨Nat.le_of_ble_eq_true rfl, Nat.le_of_ble_eq_true rfl⟩) hG rfl hl.1 rfl (Nat.le_of_ble_eq_true rfl) dL_order_115 ⟨by omega, by omega⟩ ⟨by dsimp only; omega, by dsimp only; omega⟩ (fun z9 K10 H locs hp_115 hG => ?_)
                    obtain ⟨hz_115, hK_115⟩ := hp_115
                    replace hz_115 := hz_115.trans ((a_dog_7 (by omega)).trans (pio_di hσ.1.1 (by omega)))
                    replace hz_115 := hz_115.symm; subst hz_115; replace hK_115 := hK_115.symm; subst hK_115
                    refine lv_iload hx hb dL_order_118 (lv_at hl 1 rfl) ?_
                    refine lv_icmp_ne (tgt := 148) hx hb dL_order_120 (by decide) (fun q9 => absurd rfl q9) (fun _ => ?_)
                    have J_144 : ∀ (H : Heap) (locs : List Loc) (ls : Array Slot), gKH G M0 (kS σ) s H locs → lv_has ls 12 [(6, .int (iZ ((q_di σ.1 k) : Int))), (5, .int (iZ (k : Int))), (4, .int (iZ (q_hd σ.1 k))), (3, .int (iZ 1)), (2, .int (iZ ((q_mkb σ.1 k) : Int))), (1, .int (iZ ((q_orn σ.1) : Int))), (0, .ref (gad G 152))] → W p l e ({ frames := 10, cells := 1500, slots := 9000, locals := 238 } : Room) s m [.ref (gad G 152)].toArray below meth c H locs (10 + 120 * k + 4) (6 * (10 + 120 * k + 4)) (gLQ below G M0 (fun z K1 => z = 1 ∧ K1 = kS σ) [.ref (gad G 152)] s 1500) (F0 m 144 ls []) := by
                      intro  H locs ls hG hl
                      refine lv_iconst (v := iZ 1) hx hb dL_order_144 rfl ?_
                      refine lv_goto (tgt := 149) hx hb dL_order_145 (by decide) ?_
                      refine lv_istore_n (lv' := [(3, .int (iZ 1)), (6, .int (iZ ((q_di σ.1 k) : Int))), (5, .int (iZ (k : Int))), (4, .int (iZ (q_hd σ.1 k))), (2, .int (iZ ((q_mkb σ.1 k) : Int))), (1, .int (iZ ((q_orn σ.1) : Int))), (0, .ref (gad G 152))]) hx hb dL_order_149 rfl hl (by decide) rfl (fun ls hl => ?_)
                      refine lv_iload_n hx hb dL_order_150 rfl (lv_at hl 4 rfl) ?_
                      refine lv_iconst (v := iZ 1) hx hb dL_order_151 rfl ?_
                      refine lv_iload hx hb dL_order_152 (lv_at hl 1 rfl) ?_
                      refine z12_shl1 (q9 := (q_di σ.1 k)) hx hb (by omega) (by omega) dL_order_154 ?_
                      refine z12_orm (m9 := (q_mkb σ.1 k)) (q9 := (q_di σ.1 k)) hx hb (mk_lt hσ.1.1 hk) (by omega) dL_order_155 ?_
                      refine lv_istore_n (lv' := [(2, .int (iZ (((q_mkb σ.1 k) ||| 2 ^ (q_di σ.1 k) : Nat) : Int))), (3, .int (iZ 1)), (6, .int (iZ ((q_di σ.1 k) : Int))), (5, .int (iZ (k : Int))), (4, .int (iZ (q_hd σ.1 k))), (1, .int (iZ ((q_orn σ.1) : Int))), (0, .ref (gad G 152))]) hx hb dL_order_156 rfl hl (by decide) rfl (fun ls hl => ?_)
                      refine lv_iload hx hb dL_order_157 (lv_at hl 3 rfl) ?_
                      refine lv_iconst (v := iZ 1) hx hb dL_order_159 rfl ?_
                      refine z_iadd (z := ((k : Int) + 1)) hx hb (by omega) dL_order_160 ?_
                      refine lv_istore (lv' := [(7, .int (iZ ((k : Int) + 1))), (2, .int (iZ (((q_mkb σ.1 k) ||| 2 ^ (q_di σ.1 k) : Nat) : Int))), (3, .int (iZ 1)), (6, .int (iZ ((q_di σ.1 k) : Int))), (5, .int (iZ (k : Int))), (4, .int (iZ (q_hd σ.1 k))), (1, .int (iZ ((q_orn σ.1) : Int))), (0, .ref (gad G 152))]) hx hb dL_order_161 hl (by decide) rfl (fun ls hl => ?_)
                      have L_163 : ∀ (n_163 : Nat) (q : Nat) (x_7 : Int), (x_7 = (q : Int)) → (k + 1 ≤ q ∧ q ≤ q_orn σ.1) → q_orn σ.1 - q < n_163 → ∀ (H : Heap) (locs : List Loc) (ls : Array Slot), gKH G M0 (kS σ) s H locs → lv_has ls 12 [(7, .int (iZ x_7)), (2, .int (iZ (((q_mkb σ.1 k) ||| 2 ^ (q_di σ.1 k) : Nat) : Int))), (3, .int (iZ 1)), (6, .int (iZ ((q_di σ.1 k) : Int))), (5, .int (iZ (k : Int))), (4, .int (iZ (q_hd σ.1 k))), (1, .int (iZ ((q_orn σ.1) : Int))), (0, .ref (gad G 152))] → W p l e ({ frames := 10, cells := 1500, slots := 9000, locals := 238 } : Room) s m [.ref (gad G 152)].toArray below meth c H locs (10 + 120 * k + 4 + 9 * q) (6 * (10 + 120 * k + 4 + 9 * q)) (gLQ below G M0 (fun z K1 => z = 1 ∧ K1 = kS σ) [.ref (gad G 152)] s 1500) (F0 m 163 ls []) := by
                        intro n_163
                        induction n_163 with
                        | zero => intro q x_7 he_7 hq hm_163; exact absurd hm_163 (Nat.not_lt_zero _)
                        | succ n_163 ih_163 =>
                          intro q x_7 he_7 hq hm_163 H locs ls hG hl
                          subst he_7
                          refine lv_iload hx hb dL_order_163 (lv_at hl 0 rfl) ?_
                          refine lv_iload_n hx hb dL_order_165 rfl (lv_at hl 6 rfl) ?_
                          refine z_icmp_ge (tgt := 315) hx hb (by omega) (by omega) dL_order_166 (by decide) (fun c_166 => ?_) (fun c_166 => ?_)
                          · skip
                            refine lv_aload_n hx hb dL_order_315 rfl (lv_at hl 7 rfl) ?_
                            refine lv_iload hx hb dL_order_316 (lv_at hl 3 rfl) ?_
                            refine lv_iconst (v := iZ 0) hx hb dL_order_318 rfl ?_
                            refine g_cL (As := [.ref (gad G 152), .int (iZ ((q_di σ.1 k) : Int)), .int (iZ 0)]) (rest := []) (10 + 120 * k + 4 + 9 * q + 1) ⟨hx, hb, hml, hown, hts⟩ (c_L_dog l hl0 G hdm M0 σ hσ ((q_di σ.1 k) : Int) (by omega) 0 (by omega)) (va_cwS 3 hts gA_order_L_dog rfl rfl rfl (by decide +kernel) ⟨Nat.le_of_ble_eq_true rfl, Nat.le_of_ble_eq_true rfl⟩) hG rfl hl.1 rfl (Nat.le_of_ble_eq_true rfl) dL_order_319 ⟨by omega, by omega⟩ ⟨by dsimp only; omega, by dsimp only; omega⟩ (fun z11 K12 H locs hp_319 hG => ?_)
                            obtain ⟨hz_319, hK_319⟩ := hp_319
                            replace hz_319 := hz_319.trans (a_dog_0 (σ := σ) (i := (q_di σ.1 k)) (by omega))
                            replace hz_319 := hz_319.symm; subst hz_319; replace hK_319 := hK_319.symm; subst hK_319
                            refine lv_istore (lv' := [(4, .int (iZ (q_ow σ.1 (q_di σ.1 k)))), (7, .int (iZ (q : Int))), (2, .int (iZ (((q_mkb σ.1 k) ||| 2 ^ (q_di σ.1 k) : Nat) : Int))), (3, .int (iZ 1)), (6, .int (iZ ((q_di σ.1 k) : Int))), (5, .int (iZ (k : Int))), (1, .int (iZ ((q_orn σ.1) : Int))), (0, .ref (gad G 152))]) hx hb dL_order_322 hl (by decide) rfl (fun ls hl => ?_)
                            refine z_iinc (z := ((k : Int) + 1)) (lv' := [(5, .int (iZ ((k : Int) + 1))), (4, .int (iZ (q_ow σ.1 (q_di σ.1 k)))), (7, .int (iZ (q : Int))), (2, .int (iZ (((q_mkb σ.1 k) ||| 2 ^ (q_di σ.1 k) : Nat) : Int))), (3, .int (iZ 1)), (6, .int (iZ ((q_di σ.1 k) : Int))), (1, .int (iZ ((q_orn σ.1) : Int))), (0, .ref (gad G 152))]) hx hb dL_order_324 hl (k := 5) rfl (by omega) (by decide) rfl (fun ls hl => ?_)
                            refine lv_goto (tgt := 74) hx hb dL_order_327 (by decide) ?_
                            refine W.widen (k := 10 + 120 * (k + 1)) (n := 6 * (10 + 120 * (k + 1))) (by omega) (by omega) ?_
                            exact ih_74 (k + 1) ((k : Int) + 1) (q_ow σ.1 (q_di σ.1 k)) (((q_mkb σ.1 k) ||| 2 ^ (q_di σ.1 k) : Nat) : Int) (by omega) rfl rfl (by omega) (by omega) _ _ _ hG (lv_sub hl [0, 1, 4, 3, 6, 7] rfl)
                          · skip
                            refine lv_iload_n hx hb dL_order_169 rfl (lv_at hl 2 rfl) ?_
                            refine z_if_eq (tgt := 315) hx hb (by decide) dL_order_170 (by decide) (fun c_170 => ?_) (fun c_170 => ?_)
                            · exfalso; omega
                            · skip
                              have hdj := di_in hσ.1.1 (k := q) (by omega)
                              have hd6 := dok5 hσ.1.1 (q_di σ.1 q) hdj.1
                              have hpk := ord_pick hσ.1.1 (k := k) (q := q) (by omega) (by omega)
                              refine lv_aload_n hx hb dL_order_173 rfl (lv_at hl 7 rfl) ?_
                              refine lv_iconst (v := iZ 5) hx hb dL_order_174 rfl ?_
                              refine lv_iload hx hb dL_order_175 (lv_at hl 0 rfl) ?_
                              refine lv_iconst (v := iZ 0) hx hb dL_order_177 rfl ?_
                              refine lv_iconst (v := iZ 0) hx hb dL_order_178 rfl ?_
                              refine lv_iconst (v := iZ 0) hx hb dL_order_179 rfl ?_
                              refine g_cL (As := [.ref (gad G 152), .int (iZ 5), .int (iZ (q : Int)), .int (iZ 0), .int (iZ 0), .int (iZ 0)]) (rest := []) (10 + 120 * k + 4 + 9 * q + 1) ⟨hx, hb, hml, hown, hts⟩ (c_L_call_Order l hl0 G hdm M0 σ hσ (q : Int) (by omega) 0 0 0) (va_cwS 6 hts gA_order_L_call rfl rfl rfl (by decide +kernel) ⟨Nat.le_of_ble_eq_true rfl, Nat.le_of_ble_eq_true rfl⟩) hG rfl hl.1 rfl (Nat.le_of_ble_eq_true rfl) dL_order_180 ⟨by omega, by omega⟩ ⟨by dsimp only; omega, by dsimp only; omega⟩ (fun z13 K14 H locs hp_180 hG => ?_)
                              obtain ⟨hz_180, hK_180⟩ := hp_180
                              replace hz_180 := hz_180.trans ((a_order_in (by omega)).trans (atk_di hσ.1.1 (by omega)))
                              replace hz_180 := hz_180.symm; subst hz_180; replace hK_180 := hK_180.symm; subst hK_180
                              refine lv_istore (lv' := [(8, .int (iZ ((q_di σ.1 q) : Int))), (7, .int (iZ (q : Int))), (2, .int (iZ (((q_mkb σ.1 k) ||| 2 ^ (q_di σ.1 k) : Nat) : Int))), (3, .int (iZ 1)), (6, .int (iZ ((q_di σ.1 k) : Int))), (5, .int (iZ (k : Int))), (4, .int (iZ (q_hd σ.1 k))), (1, .int (iZ ((q_orn σ.1) : Int))), (0, .ref (gad G 152))]) hx hb dL_order_183 hl (by decide) rfl (fun ls hl => ?_)
                              have J_207 : ∀ (v9 : Int), ((v9 = 1 ∧ q_sa σ.1 (q_di σ.1 q) = q_sa σ.1 (q_di σ.1 k)) ∨ (v9 = 0 ∧ ¬ q_sa σ.1 (q_di σ.1 q) = q_sa σ.1 (q_di σ.1 k))) → ∀ (H : Heap) (locs : List Loc) (ls : Array Slot), gKH G M0 (kS σ) s H locs → lv_has ls 12 [(8, .int (iZ ((q_di σ.1 q) : Int))), (7, .int (iZ (q : Int))), (2, .int (iZ (((q_mkb σ.1 k) ||| 2 ^ (q_di σ.1 k) : Nat) : Int))), (3, .int (iZ 1)), (6, .int (iZ ((q_di σ.1 k) : Int))), (5, .int (iZ (k : Int))), (4, .int (iZ (q_hd σ.1 k))), (1, .int (iZ ((q_orn σ.1) : Int))), (0, .ref (gad G 152))] → W p l e ({ frames := 10, cells := 1500, slots := 9000, locals := 238 } : Room) s m [.ref (gad G 152)].toArray below meth c H locs (10 + 120 * k + 4 + 9 * q + 3) (6 * (10 + 120 * k + 4 + 9 * q + 3)) (gLQ below G M0 (fun z K1 => z = 1 ∧ K1 = kS σ) [.ref (gad G 152)] s 1500) (F0 m 207 ls [.int (iZ v9)]) := by
                                intro v9 hv9 H locs ls hG hl
                                refine lv_istore (lv' := [(9, .int (iZ v9)), (8, .int (iZ ((q_di σ.1 q) : Int))), (7, .int (iZ (q : Int))), (2, .int (iZ (((q_mkb σ.1 k) ||| 2 ^ (q_di σ.1 k) : Nat) : Int))), (3, .int (iZ 1)), (6, .int (iZ ((q_di σ.1 k) : Int))), (5, .int (iZ (k : Int))), (4, .int (iZ (q_hd σ.1 k))), (1, .int (iZ ((q_orn σ.1) : Int))), (0, .ref (gad G 152))]) hx hb dL_order_207 hl (by decide) rfl (fun ls hl => ?_)
                                have J_226 : ∀ (w9 : Int), ((w9 = 1 ∧ q_ow σ.1 (q_di σ.1 k) = (q_hd σ.1 k)) ∨ (w9 = 0 ∧ ¬ q_ow σ.1 (q_di σ.1 k) = (q_hd σ.1 k))) → ∀ (H : Heap) (locs : List Loc) (ls : Array Slot), gKH G M0 (kS σ) s H locs → lv_has ls 12 [(9, .int (iZ v9)), (8, .int (iZ ((q_di σ.1 q) : Int))), (7, .int (iZ (q : Int))), (2, .int (iZ (((q_mkb σ.1 k) ||| 2 ^ (q_di σ.1 k) : Nat) : Int))), (3, .int (iZ 1)), (6, .int (iZ ((q_di σ.1 k) : Int))), (5, .int (iZ (k : Int))), (4, .int (iZ (q_hd σ.1 k))), (1, .int (iZ ((q_orn σ.1) : Int))), (0, .ref (gad G 152))] → W p l e ({ frames := 10, cells := 1500, slots := 9000, locals := 238 } : Room) s m [.ref (gad G 152)].toArray below meth c H locs (10 + 120 * k + 4 + 9 * q + 4) (6 * (10 + 120 * k + 4 + 9 * q + 4)) (gLQ below G M0 (fun z K1 => z = 1 ∧ K1 = kS σ) [.ref (gad G 152)] s 1500) (F0 m 226 ls [.int (iZ w9)]) := by
                                  intro w9 hw9 H locs ls hG hl
                                  refine lv_istore (lv' := [(10, .int (iZ w9)), (9, .int (iZ v9)), (8, .int (iZ ((q_di σ.1 q) : Int))), (7, .int (iZ (q : Int))), (2, .int (iZ (((q_mkb σ.1 k) ||| 2 ^ (q_di σ.1 k) : Nat) : Int))), (3, .int (iZ 1)), (6, .int (iZ ((q_di σ.1 k) : Int))), (5, .int (iZ (k : Int))), (4, .int (iZ (q_hd σ.1 k))), (1, .int (iZ ((q_orn σ.1) : Int))), (0, .ref (gad G 152))]) hx hb dL_order_226 hl (by decide) rfl (fun ls hl => ?_)
                                  have J_245 : ∀ (t9 : Int), ((t9 = 1 ∧ q_ow σ.1 (q_di σ.1 q) = (q_hd σ.1 k)) ∨ (t9 = 0 ∧ ¬ q_ow σ.1 (q_di σ.1 q) = (q_hd σ.1 k))) → ∀ (H : Heap) (locs : List Loc) (ls : Array Slot), gKH G M0 (kS σ) s H locs → lv_has ls 12 [(10, .int (iZ w9)), (9, .int (iZ v9)), (8, .int (iZ ((q_di σ.1 q) : Int))), (7, .int (iZ (q : Int))), (2, .int (iZ (((q_mkb σ.1 k) ||| 2 ^ (q_di σ.1 k) : Nat) : Int))), (3, .int (iZ 1)), (6, .int (iZ ((q_di σ.1 k) : Int))), (5, .int (iZ (k : Int))), (4, .int (iZ (q_hd σ.1 k))), (1, .int (iZ ((q_orn σ.1) : Int))), (0, .ref (gad G 152))] → W p l e ({ frames := 10, cells := 1500, slots := 9000, locals := 238 } : Room) s m [.ref (gad G 152)].toArray below meth c H locs (10 + 120 * k + 4 + 9 * q + 5) (6 * (10 + 120 * k + 4 + 9 * q + 5)) (gLQ below G M0 (fun z K1 => z = 1 ∧ K1 = kS σ) [.ref (gad G 152)] s 1500) (F0 m 245 ls [.int (iZ t9)]) := by
                                    intro t9 ht9 H locs ls hG hl
                                    refine lv_istore (lv' := [(11, .int (iZ t9)), (10, .int (iZ w9)), (9, .int (iZ v9)), (8, .int (iZ ((q_di σ.1 q) : Int))), (7, .int (iZ (q : Int))), (2, .int (iZ (((q_mkb σ.1 k) ||| 2 ^ (q_di σ.1 k) : Nat) : Int))), (3, .int (iZ 1)), (6, .int (iZ ((q_di σ.1 k) : Int))), (5, .int (iZ (k : Int))), (4, .int (iZ (q_hd σ.1 k))), (1, .int (iZ ((q_orn σ.1) : Int))), (0, .ref (gad G 152))]) hx hb dL_order_245 hl (by decide) rfl (fun ls hl => ?_)
                                    have J_303 : ∀ (H : Heap) (locs : List Loc) (ls : Array Slot), gKH G M0 (kS σ) s H locs → lv_has ls 12 [(11, .int (iZ t9)), (10, .int (iZ w9)), (9, .int (iZ v9)), (8, .int (iZ ((q_di σ.1 q) : Int))), (7, .int (iZ (q : Int))), (2, .int (iZ (((q_mkb σ.1 k) ||| 2 ^ (q_di σ.1 k) : Nat) : Int))), (3, .int (iZ 1)), (6, .int (iZ ((q_di σ.1 k) : Int))), (5, .int (iZ (k : Int))), (4, .int (iZ (q_hd σ.1 k))), (1, .int (iZ ((q_orn σ.1) : Int))), (0, .ref (gad G 152))] → W p l e ({ frames := 10, cells := 1500, slots := 9000, locals := 238 } : Room) s m [.ref (gad G 152)].toArray below meth c H locs (10 + 120 * k + 4 + 9 * q + 9) (6 * (10 + 120 * k + 4 + 9 * q + 9)) (gLQ below G M0 (fun z K1 => z = 1 ∧ K1 = kS σ) [.ref (gad G 152)] s 1500) (F0 m 303 ls []) := by
                                      intro  H locs ls hG hl
                                      refine lv_iconst (v := iZ 1) hx hb dL_order_303 rfl ?_
                                      refine lv_goto (tgt := 308) hx hb dL_order_304 (by decide) ?_
                                      refine lv_istore_n (lv' := [(3, .int (iZ 1)), (11, .int (iZ t9)), (10, .int (iZ w9)), (9, .int (iZ v9)), (8, .int (iZ ((q_di σ.1 q) : Int))), (7, .int (iZ (q : Int))), (2, .int (iZ (((q_mkb σ.1 k) ||| 2 ^ (q_di σ.1 k) : Nat) : Int))), (6, .int (iZ ((q_di σ.1 k) : Int))), (5, .int (iZ (k : Int))), (4, .int (iZ (q_hd σ.1 k))), (1, .int (iZ ((q_orn σ.1) : Int))), (0, .ref (gad G 152))]) hx hb dL_order_308 rfl hl (by decide) rfl (fun ls hl => ?_)
                                      refine z_iinc (z := ((q : Int) + 1)) (lv' := [(7, .int (iZ ((q : Int) + 1))), (3, .int (iZ 1)), (11, .int (iZ t9)), (10, .int (iZ w9)), (9, .int (iZ v9)), (8, .int (iZ ((q_di σ.1 q) : Int))), (2, .int (iZ (((q_mkb σ.1 k) ||| 2 ^ (q_di σ.1 k) : Nat) : Int))), (6, .int (iZ ((q_di σ.1 k) : Int))), (5, .int (iZ (k : Int))), (4, .int (iZ (q_hd σ.1 k))), (1, .int (iZ ((q_orn σ.1) : Int))), (0, .ref (gad G 152))]) hx hb dL_order_309 hl (k := 5) rfl (by omega) (by decide) rfl (fun ls hl => ?_)
                                      refine lv_goto (tgt := 163) hx hb dL_order_312 (by decide) ?_
                                      refine W.widen (k := 10 + 120 * k + 4 + 9 * (q + 1)) (n := 6 * (10 + 120 * k + 4 + 9 * (q + 1))) (by omega) (by omega) ?_
                                      exact ih_163 (q + 1) ((q : Int) + 1) (by omega) (by omega) (by omega) _ _ _ hG (lv_sub hl [0, 6, 1, 7, 8, 9, 10, 11] rfl)
                                    refine lv_aload_n hx hb dL_order_247 rfl (lv_at hl 11 rfl) ?_
                                    refine lv_iload hx hb dL_order_248 (lv_at hl 7 rfl) ?_
                                    refine lv_iconst (v := iZ 2) hx hb dL_order_250 rfl ?_
                                    refine g_cL (As := [.ref (gad G 152), .int (iZ ((q_di σ.1 k) : Int)), .int (iZ 2)]) (rest := []) (10 + 120 * k + 4 + 9 * q + 6) ⟨hx, hb, hml, hown, hts⟩ (c_L_dog l hl0 G hdm M0 σ hσ ((q_di σ.1 k) : Int) (by omega) 2 (by omega)) (va_cwS 3 hts gA_order_L_dog rfl rfl rfl (by decide +kernel) ⟨Nat.le_of_ble_eq_true rfl, Nat.le_of_ble_eq_true rfl⟩) hG rfl hl.1 rfl (Nat.le_of_ble_eq_true rfl) dL_order_251 ⟨by omega, by omega⟩ ⟨by dsimp only; omega, by dsimp only; omega⟩ (fun z15 K16 H locs hp_251 hG => ?_)
                                    obtain ⟨hz_251, hK_251⟩ := hp_251
                                    replace hz_251 := hz_251.trans (a_dog_2 (σ := σ) (i := (q_di σ.1 k)) (by omega))
                                    replace hz_251 := hz_251.symm; subst hz_251; replace hK_251 := hK_251.symm; subst hK_251
                                    refine lv_aload_n hx hb dL_order_254 rfl (lv_at hl 11 rfl) ?_
                                    refine lv_iload hx hb dL_order_255 (lv_at hl 3 rfl) ?_
                                    refine lv_iconst (v := iZ 2) hx hb dL_order_257 rfl ?_
                                    refine g_cL (As := [.ref (gad G 152), .int (iZ ((q_di σ.1 q) : Int)), .int (iZ 2)]) (rest := [.int (iZ (q_sa σ.1 (q_di σ.1 k)))]) (10 + 120 * k + 4 + 9 * q + 7) ⟨hx, hb, hml, hown, hts⟩ (c_L_dog l hl0 G hdm M0 σ hσ ((q_di σ.1 q) : Int) (by omega) 2 (by omega)) (va_cwS 3 hts gA_order_L_dog rfl rfl rfl (by decide +kernel) ⟨Nat.le_of_ble_eq_true rfl, Nat.le_of_ble_eq_true rfl⟩) hG rfl hl.1 rfl (Nat.le_of_ble_eq_true rfl) dL_order_258 ⟨by omega, by omega⟩ ⟨by dsimp only; omega, by dsimp only; omega⟩ (fun z17 K18 H locs hp_258 hG => ?_)
                                    obtain ⟨hz_258, hK_258⟩ := hp_258
                                    replace hz_258 := hz_258.trans (a_dog_2 (σ := σ) (i := (q_di σ.1 q)) (by omega))
                                    replace hz_258 := hz_258.symm; subst hz_258; replace hK_258 := hK_258.symm; subst hK_258
                                    refine z_icmp_gt (tgt := 307) hx hb (by omega) (by omega) dL_order_261 (by decide) (fun c_261 => ?_) (fun c_261 => ?_)
                                    · exfalso; omega
                                    · skip
                                      refine lv_iload hx hb dL_order_264 (lv_at hl 2 rfl) ?_
                                      refine z_if_eq (tgt := 303) hx hb (by omega) dL_order_266 (by decide) (fun c_266 => ?_) (fun c_266 => ?_)
                                      · skip
                                        refine W.widen (k := 10 + 120 * k + 4 + 9 * q + 9) (n := 6 * (10 + 120 * k + 4 + 9 * q + 9)) (by omega) (by omega) ?_
                                        exact J_303  _ _ _ hG (lv_sub hl [0, 1, 2, 3, 4, 5, 6, 7, 8, 9, 10, 11] rfl)
                                      · skip
                                        refine lv_iload hx hb dL_order_269 (lv_at hl 1 rfl) ?_
                                        refine lv_iload hx hb dL_order_271 (lv_at hl 0 rfl) ?_
                                        refine z_icmp_ne (tgt := 293) hx hb (by omega) (by omega) dL_order_273 (by decide) (fun c_273 => ?_) (fun c_273 => ?_)
                                        · skip
                                          refine lv_iload hx hb dL_order_293 (lv_at hl 1 rfl) ?_
                                          refine z_if_ne (tgt := 307) hx hb (by omega) dL_order_295 (by decide) (fun c_295 => ?_) (fun c_295 => ?_)
                                          · exfalso; omega
                                          · skip
                                            refine lv_iload hx hb dL_order_298 (lv_at hl 0 rfl) ?_
                                            refine z_if_eq (tgt := 307) hx hb (by omega) dL_order_300 (by decide) (fun c_300 => ?_) (fun c_300 => ?_)
                                            · exfalso; omega
                                            · skip
                                              refine W.widen (k := 10 + 120 * k + 4 + 9 * q + 9) (n := 6 * (10 + 120 * k + 4 + 9 * q + 9)) (by omega) (by omega) ?_
                                              exact J_303  _ _ _ hG (lv_sub hl [0, 1, 2, 3, 4, 5, 6, 7, 8, 9, 10, 11] rfl)
                                        · skip
                                          refine lv_aload_n hx hb dL_order_276 rfl (lv_at hl 11 rfl) ?_
                                          refine lv_iload hx hb dL_order_277 (lv_at hl 7 rfl) ?_
                                          refine lv_iconst (v := iZ 1) hx hb dL_order_279 rfl ?_
                                          refine g_cL (As := [.ref (gad G 152), .int (iZ ((q_di σ.1 k) : Int)), .int (iZ 1)]) (rest := []) (10 + 120 * k + 4 + 9 * q + 8) ⟨hx, hb, hml, hown, hts⟩ (c_L_dog l hl0 G hdm M0 σ hσ ((q_di σ.1 k) : Int) (by omega) 1 (by omega)) (va_cwS 3 hts gA_order_L_dog rfl rfl rfl (by decide +kernel) ⟨Nat.le_of_ble_eq_true rfl, Nat.le_of_ble_eq_true rfl⟩) hG rfl hl.1 rfl (Nat.le_of_ble_eq_true rfl) dL_order_280 ⟨by omega, by omega⟩ ⟨by dsimp only; omega, by dsimp only; omega⟩ (fun z19 K20 H locs hp_280 hG => ?_)
                                          obtain ⟨hz_280, hK_280⟩ := hp_280
                                          replace hz_280 := hz_280.trans (a_dog_1 (σ := σ) (i := (q_di σ.1 k)) (by omega))
                                          replace hz_280 := hz_280.symm; subst hz_280; replace hK_280 := hK_280.symm; subst hK_280
                                          refine lv_aload_n hx hb dL_order_283 rfl (lv_at hl 11 rfl) ?_
                                          refine lv_iload hx hb dL_order_284 (lv_at hl 3 rfl) ?_
                                          refine lv_iconst (v := iZ 1) hx hb dL_order_286 rfl ?_
                                          refine g_cL (As := [.ref (gad G 152), .int (iZ ((q_di σ.1 q) : Int)), .int (iZ 1)]) (rest := [.int (iZ (q_dr σ.1 (q_di σ.1 k)))]) (10 + 120 * k + 4 + 9 * q + 9) ⟨hx, hb, hml, hown, hts⟩ (c_L_dog l hl0 G hdm M0 σ hσ ((q_di σ.1 q) : Int) (by omega) 1 (by omega)) (va_cwS 3 hts gA_order_L_dog rfl rfl rfl (by decide +kernel) ⟨Nat.le_of_ble_eq_true rfl, Nat.le_of_ble_eq_true rfl⟩) hG rfl hl.1 rfl (Nat.le_of_ble_eq_true rfl) dL_order_287 ⟨by omega, by omega⟩ ⟨by dsimp only; omega, by dsimp only; omega⟩ (fun z21 K22 H locs hp_287 hG => ?_)
                                          obtain ⟨hz_287, hK_287⟩ := hp_287
                                          replace hz_287 := hz_287.trans (a_dog_1 (σ := σ) (i := (q_di σ.1 q)) (by omega))
                                          replace hz_287 := hz_287.symm; subst hz_287; replace hK_287 := hK_287.symm; subst hK_287
                                          refine z_icmp_lt (tgt := 303) hx hb (by omega) (by omega) dL_order_290 (by decide) (fun c_290 => ?_) (fun c_290 => ?_)
                                          · skip
                                            refine W.widen (k := 10 + 120 * k + 4 + 9 * q + 9) (n := 6 * (10 + 120 * k + 4 + 9 * q + 9)) (by omega) (by omega) ?_
                                            exact J_303  _ _ _ hG (lv_sub hl [0, 1, 2, 3, 4, 5, 6, 7, 8, 9, 10, 11] rfl)
                                          · exfalso; omega
                                  refine lv_aload_n hx hb dL_order_228 rfl (lv_at hl 10 rfl) ?_
                                  refine lv_iload hx hb dL_order_229 (lv_at hl 2 rfl) ?_
                                  refine lv_iconst (v := iZ 0) hx hb dL_order_231 rfl ?_
                                  refine g_cL (As := [.ref (gad G 152), .int (iZ ((q_di σ.1 q) : Int)), .int (iZ 0)]) (rest := []) (10 + 120 * k + 4 + 9 * q + 5) ⟨hx, hb, hml, hown, hts⟩ (c_L_dog l hl0 G hdm M0 σ hσ ((q_di σ.1 q) : Int) (by omega) 0 (by omega)) (va_cwS 3 hts gA_order_L_dog rfl rfl rfl (by decide +kernel) ⟨Nat.le_of_ble_eq_true rfl, Nat.le_of_ble_eq_true rfl⟩) hG rfl hl.1 rfl (Nat.le_of_ble_eq_true rfl) dL_order_232 ⟨by omega, by omega⟩ ⟨by dsimp only; omega, by dsimp only; omega⟩ (fun z23 K24 H locs hp_232 hG => ?_)
                                  obtain ⟨hz_232, hK_232⟩ := hp_232
                                  replace hz_232 := hz_232.trans (a_dog_0 (σ := σ) (i := (q_di σ.1 q)) (by omega))
                                  replace hz_232 := hz_232.symm; subst hz_232; replace hK_232 := hK_232.symm; subst hK_232
                                  refine lv_iload hx hb dL_order_235 (lv_at hl 8 rfl) ?_
                                  refine z_icmp_ne (tgt := 244) hx hb (by omega) (by omega) dL_order_237 (by decide) (fun c_237 => ?_) (fun c_237 => ?_)
                                  · skip
                                    refine lv_iconst (v := iZ 0) hx hb dL_order_244 rfl ?_
                                    refine W.widen (k := 10 + 120 * k + 4 + 9 * q + 5) (n := 6 * (10 + 120 * k + 4 + 9 * q + 5)) (by omega) (by omega) ?_
                                    exact J_245 0 (by omega) _ _ _ hG (lv_sub hl [0, 1, 2, 3, 4, 5, 6, 7, 8, 9, 10] rfl)
                                  · skip
                                    refine lv_iconst (v := iZ 1) hx hb dL_order_240 rfl ?_
                                    refine lv_goto (tgt := 245) hx hb dL_order_241 (by decide) ?_
                                    refine W.widen (k := 10 + 120 * k + 4 + 9 * q + 5) (n := 6 * (10 + 120 * k + 4 + 9 * q + 5)) (by omega) (by omega) ?_
                                    exact J_245 1 (by omega) _ _ _ hG (lv_sub hl [0, 1, 2, 3, 4, 5, 6, 7, 8, 9, 10] rfl)
                                refine lv_aload_n hx hb dL_order_209 rfl (lv_at hl 9 rfl) ?_
                                refine lv_iload hx hb dL_order_210 (lv_at hl 5 rfl) ?_
                                refine lv_iconst (v := iZ 0) hx hb dL_order_212 rfl ?_
                                refine g_cL (As := [.ref (gad G 152), .int (iZ ((q_di σ.1 k) : Int)), .int (iZ 0)]) (rest := []) (10 + 120 * k + 4 + 9 * q + 4) ⟨hx, hb, hml, hown, hts⟩ (c_L_dog l hl0 G hdm M0 σ hσ ((q_di σ.1 k) : Int) (by omega) 0 (by omega)) (va_cwS 3 hts gA_order_L_dog rfl rfl rfl (by decide +kernel) ⟨Nat.le_of_ble_eq_true rfl, Nat.le_of_ble_eq_true rfl⟩) hG rfl hl.1 rfl (Nat.le_of_ble_eq_true rfl) dL_order_213 ⟨by omega, by omega⟩ ⟨by dsimp only; omega, by dsimp only; omega⟩ (fun z25 K26 H locs hp_213 hG => ?_)
                                obtain ⟨hz_213, hK_213⟩ := hp_213
                                replace hz_213 := hz_213.trans (a_dog_0 (σ := σ) (i := (q_di σ.1 k)) (by omega))
                                replace hz_213 := hz_213.symm; subst hz_213; replace hK_213 := hK_213.symm; subst hK_213
                                refine lv_iload hx hb dL_order_216 (lv_at hl 7 rfl) ?_
                                refine z_icmp_ne (tgt := 225) hx hb (by omega) (by omega) dL_order_218 (by decide) (fun c_218 => ?_) (fun c_218 => ?_)
                                · skip
                                  refine lv_iconst (v := iZ 0) hx hb dL_order_225 rfl ?_
                                  refine W.widen (k := 10 + 120 * k + 4 + 9 * q + 4) (n := 6 * (10 + 120 * k + 4 + 9 * q + 4)) (by omega) (by omega) ?_
                                  exact J_226 0 (by omega) _ _ _ hG (lv_sub hl [0, 1, 2, 3, 4, 5, 6, 7, 8, 9] rfl)
                                · skip
                                  refine lv_iconst (v := iZ 1) hx hb dL_order_221 rfl ?_
                                  refine lv_goto (tgt := 226) hx hb dL_order_222 (by decide) ?_
                                  refine W.widen (k := 10 + 120 * k + 4 + 9 * q + 4) (n := 6 * (10 + 120 * k + 4 + 9 * q + 4)) (by omega) (by omega) ?_
                                  exact J_226 1 (by omega) _ _ _ hG (lv_sub hl [0, 1, 2, 3, 4, 5, 6, 7, 8, 9] rfl)
                              refine lv_aload_n hx hb dL_order_185 rfl (lv_at hl 8 rfl) ?_
                              refine lv_iload hx hb dL_order_186 (lv_at hl 0 rfl) ?_
                              refine lv_iconst (v := iZ 2) hx hb dL_order_188 rfl ?_
                              refine g_cL (As := [.ref (gad G 152), .int (iZ ((q_di σ.1 q) : Int)), .int (iZ 2)]) (rest := []) (10 + 120 * k + 4 + 9 * q + 2) ⟨hx, hb, hml, hown, hts⟩ (c_L_dog l hl0 G hdm M0 σ hσ ((q_di σ.1 q) : Int) (by omega) 2 (by omega)) (va_cwS 3 hts gA_order_L_dog rfl rfl rfl (by decide +kernel) ⟨Nat.le_of_ble_eq_true rfl, Nat.le_of_ble_eq_true rfl⟩) hG rfl hl.1 rfl (Nat.le_of_ble_eq_true rfl) dL_order_189 ⟨by omega, by omega⟩ ⟨by dsimp only; omega, by dsimp only; omega⟩ (fun z27 K28 H locs hp_189 hG => ?_)
                              obtain ⟨hz_189, hK_189⟩ := hp_189
                              replace hz_189 := hz_189.trans (a_dog_2 (σ := σ) (i := (q_di σ.1 q)) (by omega))
                              replace hz_189 := hz_189.symm; subst hz_189; replace hK_189 := hK_189.symm; subst hK_189
                              refine lv_aload_n hx hb dL_order_192 rfl (lv_at hl 8 rfl) ?_
                              refine lv_iload hx hb dL_order_193 (lv_at hl 4 rfl) ?_
                              refine lv_iconst (v := iZ 2) hx hb dL_order_195 rfl ?_
                              refine g_cL (As := [.ref (gad G 152), .int (iZ ((q_di σ.1 k) : Int)), .int (iZ 2)]) (rest := [.int (iZ (q_sa σ.1 (q_di σ.1 q)))]) (10 + 120 * k + 4 + 9 * q + 3) ⟨hx, hb, hml, hown, hts⟩ (c_L_dog l hl0 G hdm M0 σ hσ ((q_di σ.1 k) : Int) (by omega) 2 (by omega)) (va_cwS 3 hts gA_order_L_dog rfl rfl rfl (by decide +kernel) ⟨Nat.le_of_ble_eq_true rfl, Nat.le_of_ble_eq_true rfl⟩) hG rfl hl.1 rfl (Nat.le_of_ble_eq_true rfl) dL_order_196 ⟨by omega, by omega⟩ ⟨by dsimp only; omega, by dsimp only; omega⟩ (fun z29 K30 H locs hp_196 hG => ?_)
                              obtain ⟨hz_196, hK_196⟩ := hp_196
                              replace hz_196 := hz_196.trans (a_dog_2 (σ := σ) (i := (q_di σ.1 k)) (by omega))
                              replace hz_196 := hz_196.symm; subst hz_196; replace hK_196 := hK_196.symm; subst hK_196
                              refine z_icmp_ne (tgt := 206) hx hb (by omega) (by omega) dL_order_199 (by decide) (fun c_199 => ?_) (fun c_199 => ?_)
                              · skip
                                refine lv_iconst (v := iZ 0) hx hb dL_order_206 rfl ?_
                                refine W.widen (k := 10 + 120 * k + 4 + 9 * q + 3) (n := 6 * (10 + 120 * k + 4 + 9 * q + 3)) (by omega) (by omega) ?_
                                exact J_207 0 (by omega) _ _ _ hG (lv_sub hl [0, 1, 2, 3, 4, 5, 6, 7, 8] rfl)
                              · skip
                                refine lv_iconst (v := iZ 1) hx hb dL_order_202 rfl ?_
                                refine lv_goto (tgt := 207) hx hb dL_order_203 (by decide) ?_
                                refine W.widen (k := 10 + 120 * k + 4 + 9 * q + 3) (n := 6 * (10 + 120 * k + 4 + 9 * q + 3)) (by omega) (by omega) ?_
                                exact J_207 1 (by omega) _ _ _ hG (lv_sub hl [0, 1, 2, 3, 4, 5, 6, 7, 8] rfl)
                      refine W.widen (k := 10 + 120 * k + 4 + 9 * (k + 1)) (n := 6 * (10 + 120 * k + 4 + 9 * (k + 1))) (by omega) (by omega) ?_
                      exact L_163 _ (k + 1) ((k : Int) + 1) (by omega) (by omega) (Nat.lt_succ_self _) _ _ _ hG (lv_sub hl [0, 1, 2, 3, 4, 5, 6, 7] rfl)
                    refine lv_aload_n hx hb dL_order_123 rfl (lv_at hl 6 rfl) ?_
                    refine lv_iload hx hb dL_order_124 (lv_at hl 0 rfl) ?_
                    refine lv_iconst (v := iZ 2) hx hb dL_order_126 rfl ?_
                    refine g_cL (As := [.ref (gad G 152), .int (iZ ((q_di σ.1 k) : Int)), .int (iZ 2)]) (rest := []) (10 + 120 * k + 3) ⟨hx, hb, hml, hown, hts⟩ (c_L_dog l hl0 G hdm M0 σ hσ ((q_di σ.1 k) : Int) (by omega) 2 (by omega)) (va_cwS 3 hts gA_order_L_dog rfl rfl rfl (by decide +kernel) ⟨Nat.le_of_ble_eq_true rfl, Nat.le_of_ble_eq_true rfl⟩) hG rfl hl.1 rfl (Nat.le_of_ble_eq_true rfl) dL_order_127 ⟨by omega, by omega⟩ ⟨by dsimp only; omega, by dsimp only; omega⟩ (fun z31 K32 H locs hp_127 hG => ?_)
                    obtain ⟨hz_127, hK_127⟩ := hp_127
                    replace hz_127 := hz_127.trans (a_dog_2 (σ := σ) (i := (q_di σ.1 k)) (by omega))
                    replace hz_127 := hz_127.symm; subst hz_127; replace hK_127 := hK_127.symm; subst hK_127
                    refine z_if_eq (tgt := 144) hx hb (by omega) dL_order_130 (by decide) (fun c_130 => ?_) (fun c_130 => ?_)
                    · skip
                      refine W.widen (k := 10 + 120 * k + 4) (n := 6 * (10 + 120 * k + 4)) (by omega) (by omega) ?_
                      exact J_144  _ _ _ hG (lv_sub hl [0, 1, 2, 3, 4, 5, 6] rfl)
                    · skip
                      refine lv_aload_n hx hb dL_order_133 rfl (lv_at hl 6 rfl) ?_
                      refine lv_iload hx hb dL_order_134 (lv_at hl 0 rfl) ?_
                      refine lv_iconst (v := iZ 2) hx hb dL_order_136 rfl ?_
                      refine g_cL (As := [.ref (gad G 152), .int (iZ ((q_di σ.1 k) : Int)), .int (iZ 2)]) (rest := []) (10 + 120 * k + 4) ⟨hx, hb, hml, hown, hts⟩ (c_L_dog l hl0 G hdm M0 σ hσ ((q_di σ.1 k) : Int) (by omega) 2 (by omega)) (va_cwS 3 hts gA_order_L_dog rfl rfl rfl (by decide +kernel) ⟨Nat.le_of_ble_eq_true rfl, Nat.le_of_ble_eq_true rfl⟩) hG rfl hl.1 rfl (Nat.le_of_ble_eq_true rfl) dL_order_137 ⟨by omega, by omega⟩ ⟨by dsimp only; omega, by dsimp only; omega⟩ (fun z33 K34 H locs hp_137 hG => ?_)
                      obtain ⟨hz_137, hK_137⟩ := hp_137
                      replace hz_137 := hz_137.trans (a_dog_2 (σ := σ) (i := (q_di σ.1 k)) (by omega))
                      replace hz_137 := hz_137.symm; subst hz_137; replace hK_137 := hK_137.symm; subst hK_137
                      refine lv_iconst (v := iZ 2) hx hb dL_order_140 rfl ?_
                      refine z_icmp_ne (tgt := 148) hx hb (by omega) (by decide) dL_order_141 (by decide) (fun c_141 => ?_) (fun c_141 => ?_)
                      · exfalso; omega
                      · skip
                        refine W.widen (k := 10 + 120 * k + 4) (n := 6 * (10 + 120 * k + 4)) (by omega) (by omega) ?_
                        exact J_144  _ _ _ hG (lv_sub hl [0, 1, 2, 3, 4, 5, 6] rfl)
        refine W.widen (k := 10 + 120 * 0) (n := 6 * (10 + 120 * 0)) (by omega) (by omega) ?_
        exact L_74 _ 0 0 (q_lw σ.1) 0 rfl rfl rfl (by omega) (Nat.lt_succ_self _) _ _ _ hG (lv_sub hl [0, 1, 2, 3, 4, 5] rfl)
      refine lv_aload_n hx hb dL_order_42 rfl (lv_at hl 3 rfl) ?_
      refine lv_bipush (v := iZ (7)) hx hb dL_order_43 (by decide) ?_
      refine g_cL (As := [.ref (gad G 152), .int (iZ 7)]) (rest := []) (4) ⟨hx, hb, hml, hown, hts⟩ (c_L_about l hl0 G hdm M0 σ hσ 7 (by omega)) (va_cwS 2 hts gA_order_L_about rfl rfl rfl (by decide +kernel) ⟨Nat.le_of_ble_eq_true rfl, Nat.le_of_ble_eq_true rfl⟩) hG rfl hl.1 rfl (Nat.le_of_ble_eq_true rfl) dL_order_45 ⟨by omega, by omega⟩ ⟨Nat.le_of_ble_eq_true rfl, Nat.le_of_ble_eq_true rfl⟩ (fun z35 K36 H locs hp_45 hG => ?_)
      obtain ⟨hz_45, hK_45⟩ := hp_45
      replace hz_45 := hz_45.trans (a_about_7 σ)
      replace hz_45 := hz_45.symm; subst hz_45; replace hK_45 := hK_45.symm; subst hK_45
      refine lv_bipush (v := iZ (-9)) hx hb dL_order_48 (by decide) ?_
      refine z_icmp_ne (tgt := 58) hx hb (by omega) (by decide) dL_order_50 (by decide) (fun c_50 => ?_) (fun c_50 => ?_)
      · skip
        refine lv_aload_n hx hb dL_order_58 rfl (lv_at hl 3 rfl) ?_
        refine lv_aload_n hx hb dL_order_59 rfl (lv_at hl 3 rfl) ?_
        refine lv_bipush (v := iZ (7)) hx hb dL_order_60 (by decide) ?_
        refine g_cL (As := [.ref (gad G 152), .int (iZ 7)]) (rest := [.ref (gad G 152)]) (5) ⟨hx, hb, hml, hown, hts⟩ (c_L_about l hl0 G hdm M0 σ hσ 7 (by omega)) (va_cwS 2 hts gA_order_L_about rfl rfl rfl (by decide +kernel) ⟨Nat.le_of_ble_eq_true rfl, Nat.le_of_ble_eq_true rfl⟩) hG rfl hl.1 rfl (Nat.le_of_ble_eq_true rfl) dL_order_62 ⟨by omega, by omega⟩ ⟨Nat.le_of_ble_eq_true rfl, Nat.le_of_ble_eq_true rfl⟩ (fun z37 K38 H locs hp_62 hG => ?_)
        obtain ⟨hz_62, hK_62⟩ := hp_62
        replace hz_62 := hz_62.trans (a_about_7 σ)
        replace hz_62 := hz_62.symm; subst hz_62; replace hK_62 := hK_62.symm; subst hK_62
        refine lv_iconst (v := iZ 0) hx hb dL_order_65 rfl ?_
        refine g_cL (As := [.ref (gad G 152), .int (iZ (σ.1 3)), .int (iZ 0)]) (rest := []) (6) ⟨hx, hb, hml, hown, hts⟩ (c_L_dog l hl0 G hdm M0 σ hσ (σ.1 3) (by omega) 0 (by omega)) (va_cwS 3 hts gA_order_L_dog rfl rfl rfl (by decide +kernel) ⟨Nat.le_of_ble_eq_true rfl, Nat.le_of_ble_eq_true rfl⟩) hG rfl hl.1 rfl (Nat.le_of_ble_eq_true rfl) dL_order_66 ⟨by omega, by omega⟩ ⟨Nat.le_of_ble_eq_true rfl, Nat.le_of_ble_eq_true rfl⟩ (fun z39 K40 H locs hp_66 hG => ?_)
        obtain ⟨hz_66, hK_66⟩ := hp_66
        replace hz_66 := hz_66.trans (dog_lw hσ.1.1 (by omega))
        replace hz_66 := hz_66.symm; subst hz_66; replace hK_66 := hK_66.symm; subst hK_66
        refine W.widen (k := 6) (n := 6 * (6)) (by omega) (by omega) ?_
        exact J_69 (q_lw σ.1) rfl _ _ _ hG (lv_sub hl [0, 1, 2, 3] rfl)
      · skip
        refine lv_bipush (v := iZ (-9)) hx hb dL_order_53 (by decide) ?_
        refine lv_goto (tgt := 69) hx hb dL_order_55 (by decide) ?_
        refine W.widen (k := 6) (n := 6 * (6)) (by omega) (by omega) ?_
        exact J_69 (-9) (lw_none (by omega)).symm _ _ _ hG (lv_sub hl [0, 1, 2, 3] rfl)
