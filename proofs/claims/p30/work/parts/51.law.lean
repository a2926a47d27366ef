set_option maxHeartbeats 16000000 in
set_option maxRecDepth 100000 in
/-- THE LAW behind its two constructors -/
theorem law_run {p : Program} {l : Launch} {e : Env} {s : State} {m : MethodId} {below : List Frame} {meth : Method} {c : Code} {G : gG} {b L : Nat} {xs : Nat → Int32} (C0 : lw_At p s m meth c b L xs) (hl0 : l.stackTraces = false) (hdm : ∀ k, k < 169 → gdm G k) (hdm2 : ∀ k, k < 169 → gdm (gSw G) k) (hn0 : G.2.2.2.2.1 = s.heap.size) (hL : L ≤ 260) {H : Heap} {locs : List Loc} {ls : Array Slot} (hG : gK2 G (kT (qMI 168) 0) (kT (qMI 168) 0) s H locs) (hl : lv_has ls 10 [(2, .ref (gad (gSw G) 152)), (1, .ref (gad G 152)), (0, .ref b)]) : W p l e room_1 s m #[Value.ref b] below meth c H locs 1100 (6 * 1100) (lw_Z below #[Value.ref b] s) (F0 m 16 ls []) := by
  obtain ⟨hx, hb, hr, hml, hown, hts, hX, hbl, hlocks, hgv⟩ := id C0
  have hown : s.vm.findClass RL = some m.cls := hown
  have hbA : ¬ gA G b := fun h9 => by have h9 : G.2.2.2.2.1 ≤ b := h9; omega
  refine lv_aload_n hx hb dL_law_16 rfl (lv_at hl 2 rfl) ?_
  refine lv_iconst (v := iZ 0) hx hb dL_law_17 rfl ?_
  refine g_cell (rest := []) hL hX hbl hbA ⟨hx, hb, hml, hown, hts⟩ (va_cwS 2 hts gi_S_yL_cell_223 rfl rfl rfl (by decide +kernel) ⟨Nat.le_of_ble_eq_true rfl, Nat.le_of_ble_eq_true rfl⟩) (k := 0) (by omega) hG hl.1 rfl (Nat.le_of_ble_eq_true rfl) dL_law_18 ⟨by show _ ≤ 612651; omega, by show _ ≤ 7263514; omega⟩ (fun f9 H locs hr_18 hG => ?_)
  refine lv_istore_n (lv' := [(3, .int (iZ f9)), (2, .ref (gad (gSw G) 152)), (1, .ref (gad G 152)), (0, .ref b)]) hx hb dL_law_21 rfl hl (by decide) rfl (fun ls hl => ?_)
  refine lv_aload_n hx hb dL_law_22 rfl (lv_at hl 2 rfl) ?_
  refine lv_iload_n hx hb dL_law_23 rfl (lv_at hl 0 rfl) ?_
  obtain ⟨M, h1, h2, k1, k2⟩ := hG
  refine g_cL (As := [.ref (gad G 152), .int (iZ f9)]) (rest := []) (1160) ⟨hx, hb, hml, hown, hts⟩ (c_L_begin l hl0 G hdm M (qMI 168) f9 (by omega)) (va_cwS 2 hts gi_S_yL_begin_227 rfl rfl rfl (by decide +kernel) ⟨Nat.le_of_ble_eq_true rfl, Nat.le_of_ble_eq_true rfl⟩) ⟨M, h1, h2, k1, q_bd.rf M⟩ rfl hl.1 rfl (Nat.le_of_ble_eq_true rfl) dL_law_24 ⟨by omega, by omega⟩ ⟨by show _ ≤ 612651; omega, by show _ ≤ 7263514; omega⟩ (fun z1 K2 H locs hp_24 hG => ?_)
  obtain ⟨hz_24, hK_24⟩ := hp_24
  replace hz_24 := hz_24.symm; subst hz_24; replace hK_24 := hK_24.symm; subst hK_24
  replace hG := gK2.o (loc_T _ _) k2 hG
  refine z_if_eq (tgt := 42) hx hb (by decide) dL_law_27 (by decide) (fun c_27 => ?_) (fun c_27 => ?_)
  · exfalso; omega
  · skip
    refine lv_aload_n hx hb dL_law_30 rfl (lv_at hl 1 rfl) ?_
    refine lv_iload_n hx hb dL_law_31 rfl (lv_at hl 0 rfl) ?_
    obtain ⟨M, h1, h2, k1, k2⟩ := hG
    refine g_cL (As := [.ref (gad (gSw G) 152), .int (iZ f9)]) (rest := []) (1220) ⟨hx, hb, hml, hown, hts⟩ (c_L_begin l hl0 (gSw G) hdm2 (fun k => M (q_s k)) (qMI 168) f9 (by omega)) (va_cwS 2 hts gi_S_yL_begin_227 rfl rfl rfl (by decide +kernel) ⟨Nat.le_of_ble_eq_true rfl, Nat.le_of_ble_eq_true rfl⟩) (gK2.toP h1 h2 k2) rfl hl.1 rfl (Nat.le_of_ble_eq_true rfl) dL_law_32 ⟨by omega, by omega⟩ ⟨by show _ ≤ 612651; omega, by show _ ≤ 7263514; omega⟩ (fun z3 K4 H locs hp_32 hG => ?_)
    obtain ⟨hz_32, hK_32⟩ := hp_32
    replace hz_32 := hz_32.symm; subst hz_32; replace hK_32 := hK_32.symm; subst hK_32
    replace hG := gK2.p (loc_S _) k1 hG
    refine z_if_eq (tgt := 42) hx hb (by decide) dL_law_35 (by decide) (fun c_35 => ?_) (fun c_35 => ?_)
    · exfalso; omega
    · skip
      refine lv_iconst (v := iZ 1) hx hb dL_law_38 rfl ?_
      refine lv_goto (tgt := 43) hx hb dL_law_39 (by decide) ?_
      refine lv_istore (lv' := [(4, .int (iZ 1)), (3, .int (iZ f9)), (2, .ref (gad (gSw G) 152)), (1, .ref (gad G 152)), (0, .ref b)]) hx hb dL_law_43 hl (by decide) rfl (fun ls hl => ?_)
      refine lv_iconst (v := iZ 0) hx hb dL_law_45 rfl ?_
      refine lv_istore (lv' := [(5, .int (iZ 0)), (4, .int (iZ 1)), (3, .int (iZ f9)), (2, .ref (gad (gSw G) 152)), (1, .ref (gad G 152)), (0, .ref b)]) hx hb dL_law_46 hl (by decide) rfl (fun ls hl => ?_)
      have L_48 : ∀ (n_48 : Nat) (k : Nat) (σ : gS) (x_5 : Int), (x_5 = (k : Int)) → (k ≤ 30) → (s_ok σ) → 30 - k < n_48 → ∀ (H : Heap) (locs : List Loc) (ls : Array Slot), gK2 G (kS σ) (kS σ) s H locs → lv_has ls 10 [(5, .int (iZ x_5)), (4, .int (iZ 1)), (3, .int (iZ f9)), (2, .ref (gad (gSw G) 152)), (1, .ref (gad G 152)), (0, .ref b)] → W p l e room_1 s m #[Value.ref b] below meth c H locs (1300 + 8000 * k) (6 * (1300 + 8000 * k)) (lw_Z below #[Value.ref b] s) (F0 m 48 ls []) := by
        intro n_48
        induction n_48 with
        | zero => intro k σ x_5 he_5 hk hσ hm_48; exact absurd hm_48 (Nat.not_lt_zero _)
        | succ n_48 ih_48 =>
          intro k σ x_5 he_5 hk hσ hm_48 H locs ls hG hl
          subst he_5
          refine lv_iload hx hb dL_law_48 (lv_at hl 0 rfl) ?_
          refine lv_bipush (v := iZ (30)) hx hb dL_law_50 (by decide) ?_
          refine z_icmp_ge (tgt := 359) hx hb (by omega) (by decide) dL_law_52 (by decide) (fun c_52 => ?_) (fun c_52 => ?_)
          · skip
            refine lv_iload hx hb dL_law_359 (lv_at hl 1 rfl) ?_
            obtain ⟨M, h1, -, -, -⟩ := hG
            refine va_forget (fun q hq => by have h9 := h1.2.2.2.2 q hq; have h9 : G.2.2.2.2.1 ≤ q.base := h9; omega) ?_
            refine W.widen (k := 612651) (n := 7263514) (by omega) (by omega) ?_
            exact lw_ret hx hb hr hlocks dL_law_361
          · skip
            refine lv_iload hx hb dL_law_55 (lv_at hl 1 rfl) ?_
            refine z_if_eq (tgt := 359) hx hb (by decide) dL_law_57 (by decide) (fun c_57 => ?_) (fun c_57 => ?_)
            · exfalso; omega
            · skip
              refine lv_aload_n hx hb dL_law_60 rfl (lv_at hl 5 rfl) ?_
              refine lv_iconst (v := iZ 1) hx hb dL_law_61 rfl ?_
              refine lv_iconst (v := iZ 2) hx hb dL_law_62 rfl ?_
              refine lv_iload hx hb dL_law_63 (lv_at hl 0 rfl) ?_
              refine z_imul (z := (2 * (k : Int))) hx hb (by omega) dL_law_65 ?_
              refine z_iadd (z := (2 * (k : Int) + 1)) hx hb (by omega) dL_law_66 ?_
              refine g_cell (rest := []) hL hX hbl hbA ⟨hx, hb, hml, hown, hts⟩ (va_cwS 2 hts gi_S_yL_cell_223 rfl rfl rfl (by decide +kernel) ⟨Nat.le_of_ble_eq_true rfl, Nat.le_of_ble_eq_true rfl⟩) (k := (2 * (k : Int) + 1)) (by omega) hG hl.1 rfl (Nat.le_of_ble_eq_true rfl) dL_law_67 ⟨by show _ ≤ 612651; omega, by show _ ≤ 7263514; omega⟩ (fun x H locs hr_67 hG => ?_)
              refine lv_istore (lv' := [(6, .int (iZ x)), (5, .int (iZ (k : Int))), (4, .int (iZ 1)), (3, .int (iZ f9)), (2, .ref (gad (gSw G) 152)), (1, .ref (gad G 152)), (0, .ref b)]) hx hb dL_law_70 hl (by decide) rfl (fun ls hl => ?_)
              refine lv_aload_n hx hb dL_law_72 rfl (lv_at hl 6 rfl) ?_
              refine lv_iconst (v := iZ 2) hx hb dL_law_73 rfl ?_
              refine lv_iconst (v := iZ 2) hx hb dL_law_74 rfl ?_
              refine lv_iload hx hb dL_law_75 (lv_at hl 1 rfl) ?_
              refine z_imul (z := (2 * (k : Int))) hx hb (by omega) dL_law_77 ?_
              refine z_iadd (z := (2 * (k : Int) + 2)) hx hb (by omega) dL_law_78 ?_
              refine g_cell (rest := []) hL hX hbl hbA ⟨hx, hb, hml, hown, hts⟩ (va_cwS 2 hts gi_S_yL_cell_223 rfl rfl rfl (by decide +kernel) ⟨Nat.le_of_ble_eq_true rfl, Nat.le_of_ble_eq_true rfl⟩) (k := (2 * (k : Int) + 2)) (by omega) hG hl.1 rfl (Nat.le_of_ble_eq_true rfl) dL_law_79 ⟨by show _ ≤ 612651; omega, by show _ ≤ 7263514; omega⟩ (fun y H locs hr_79 hG => ?_)
              refine lv_istore (lv' := [(7, .int (iZ y)), (6, .int (iZ x)), (5, .int (iZ (k : Int))), (4, .int (iZ 1)), (3, .int (iZ f9)), (2, .ref (gad (gSw G) 152)), (1, .ref (gad G 152)), (0, .ref b)]) hx hb dL_law_82 hl (by decide) rfl (fun ls hl => ?_)
              refine lv_aload_n hx hb dL_law_84 rfl (lv_at hl 5 rfl) ?_
              refine lv_iload hx hb dL_law_85 (lv_at hl 1 rfl) ?_
              obtain ⟨M, h1, h2, k1, k2⟩ := hG
              refine g_cL (As := [.ref (gad (gSw G) 152), .int (iZ x)]) (rest := []) (1300 + 8000 * k + 40) ⟨hx, hb, hml, hown, hts⟩ (c_L_fails l hl0 (gSw G) hdm2 (fun k => M (q_s k)) σ hσ x (by omega)) (va_cwS 2 hts gi_S_yL_fails_231 rfl rfl rfl (by decide +kernel) ⟨Nat.le_of_ble_eq_true rfl, Nat.le_of_ble_eq_true rfl⟩) (gK2.toP h1 h2 k2) rfl hl.1 rfl (Nat.le_of_ble_eq_true rfl) dL_law_87 ⟨by omega, by omega⟩ ⟨by show _ ≤ 612651; omega, by show _ ≤ 7263514; omega⟩ (fun z5 K6 H locs hp_87 hG => ?_)
              obtain ⟨hz_87, hK_87⟩ := hp_87
              replace hz_87 := hz_87.symm; subst hz_87; replace hK_87 := hK_87.symm; subst hK_87
              replace hG := gK2.p (loc_S _) k1 hG
              refine z_if_eq (tgt := 128) hx hb (by decide) dL_law_90 (by decide) (fun c_90 => ?_) (fun c_90 => ?_)
              · exfalso; omega
              · skip
                refine lv_aload_n hx hb dL_law_93 rfl (lv_at hl 6 rfl) ?_
                refine lv_iload hx hb dL_law_94 (lv_at hl 1 rfl) ?_
                refine lv_iload hx hb dL_law_96 (lv_at hl 0 rfl) ?_
                obtain ⟨M, h1, h2, k1, k2⟩ := hG
                refine g_cL (As := [.ref (gad G 152), .int (iZ x), .int (iZ y)]) (rest := []) (1300 + 8000 * k + 43) ⟨hx, hb, hml, hown, hts⟩ (c_L_act l hl0 G hdm M σ hσ x (by omega) y (by omega)) (va_cwS 3 hts gi_S_yL_act_234 rfl rfl rfl (by decide +kernel) ⟨Nat.le_of_ble_eq_true rfl, Nat.le_of_ble_eq_true rfl⟩) ⟨M, h1, h2, k1, q_bd.rf M⟩ rfl hl.1 rfl (Nat.le_of_ble_eq_true rfl) dL_law_98 ⟨by omega, by omega⟩ ⟨by show _ ≤ 612651; omega, by show _ ≤ 7263514; omega⟩ (fun z7 K8 H locs hp_98 hG => ?_)
                obtain ⟨hz_98, hK_98⟩ := hp_98
                replace hz_98 := hz_98.symm; subst hz_98; replace hK_98 := hK_98.symm; subst hK_98
                replace hG := gK2.o (loc_S _) k2 hG
                refine lv_aload_n hx hb dL_law_101 rfl (lv_at hl 5 rfl) ?_
                refine lv_iload hx hb dL_law_102 (lv_at hl 1 rfl) ?_
                refine lv_iload hx hb dL_law_104 (lv_at hl 0 rfl) ?_
                obtain ⟨M, h1, h2, k1, k2⟩ := hG
                refine g_cL (As := [.ref (gad (gSw G) 152), .int (iZ x), .int (iZ y)]) (rest := [.int (iZ ((q_acg σ y (x % 16)).1))]) (1300 + 8000 * k + 46) ⟨hx, hb, hml, hown, hts⟩ (c_L_act l hl0 (gSw G) hdm2 (fun k => M (q_s k)) σ hσ x (by omega) y (by omega)) (va_cwS 3 hts gi_S_yL_act_234 rfl rfl rfl (by decide +kernel) ⟨Nat.le_of_ble_eq_true rfl, Nat.le_of_ble_eq_true rfl⟩) (gK2.toP h1 h2 k2) rfl hl.1 rfl (Nat.le_of_ble_eq_true rfl) dL_law_106 ⟨by omega, by omega⟩ ⟨by show _ ≤ 612651; omega, by show _ ≤ 7263514; omega⟩ (fun z9 K10 H locs hp_106 hG => ?_)
                obtain ⟨hz_106, hK_106⟩ := hp_106
                replace hz_106 := hz_106.symm; subst hz_106; replace hK_106 := hK_106.symm; subst hK_106
                replace hG := gK2.p (loc_S _) k1 hG
                refine lv_icmp_ne (tgt := 128) hx hb dL_law_109 (by decide) (fun q9 => absurd rfl q9) (fun _ => ?_)
                refine lv_aload_n hx hb dL_law_112 rfl (lv_at hl 6 rfl) ?_
                obtain ⟨M, h1, h2, k1, k2⟩ := hG
                refine g_cLl (As := [.ref (gad G 152)]) (rest := []) (1300 + 8000 * k + 246) ⟨hx, hb, hml, hown, hts⟩ (c_L_sum l hl0 G hdm M ((q_acg σ y (x % 16)).2) (ok_acg hσ _ _)) (va_cwS 1 hts gi_S_yL_sum_171 rfl rfl rfl (by decide +kernel) ⟨Nat.le_of_ble_eq_true rfl, Nat.le_of_ble_eq_true rfl⟩) ⟨M, h1, h2, k1, q_bd.rf M⟩ rfl hl.1 rfl (Nat.le_of_ble_eq_true rfl) dL_law_113 ⟨by omega, by omega⟩ ⟨by show _ ≤ 612651; omega, by show _ ≤ 7263514; omega⟩ (fun z11 K12 H locs hp_113 hG => ?_)
                obtain ⟨hz_113, hK_113⟩ := hp_113
                replace hz_113 := hz_113.symm; subst hz_113; replace hK_113 := hK_113.symm; subst hK_113
                replace hG := gK2.o (loc_S _) k2 hG
                refine lv_aload_n hx hb dL_law_116 rfl (lv_at hl 5 rfl) ?_
                obtain ⟨M, h1, h2, k1, k2⟩ := hG
                refine g_cLl (As := [.ref (gad (gSw G) 152)]) (rest := [.long (lZ (q_all ((q_acg σ y (x % 16)).2).1))]) (1300 + 8000 * k + 446) ⟨hx, hb, hml, hown, hts⟩ (c_L_sum l hl0 (gSw G) hdm2 (fun k => M (q_s k)) ((q_acg σ y (x % 16)).2) (ok_acg hσ _ _)) (va_cwS 1 hts gi_S_yL_sum_171 rfl rfl rfl (by decide +kernel) ⟨Nat.le_of_ble_eq_true rfl, Nat.le_of_ble_eq_true rfl⟩) (gK2.toP h1 h2 k2) rfl hl.1 rfl (Nat.le_of_ble_eq_true rfl) dL_law_117 ⟨by omega, by omega⟩ ⟨by show _ ≤ 612651; omega, by show _ ≤ 7263514; omega⟩ (fun z13 K14 H locs hp_117 hG => ?_)
                obtain ⟨hz_117, hK_117⟩ := hp_117
                replace hz_117 := hz_117.symm; subst hz_117; replace hK_117 := hK_117.symm; subst hK_117
                replace hG := gK2.p (loc_S _) k1 hG
                refine z_lcmp_same hx hb dL_law_120 ?_
                refine z_if_ne (tgt := 128) hx hb (by decide) dL_law_121 (by decide) (fun c_121 => ?_) (fun c_121 => ?_)
                · exfalso; omega
                · skip
                  refine lv_iconst (v := iZ 1) hx hb dL_law_124 rfl ?_
                  refine lv_goto (tgt := 129) hx hb dL_law_125 (by decide) ?_
                  refine lv_istore (lv' := [(4, .int (iZ 1)), (7, .int (iZ y)), (6, .int (iZ x)), (5, .int (iZ (k : Int))), (3, .int (iZ f9)), (2, .ref (gad (gSw G) 152)), (1, .ref (gad G 152)), (0, .ref b)]) hx hb dL_law_129 hl (by decide) rfl (fun ls hl => ?_)
                  have J_195 : ∀ (H : Heap) (locs : List Loc) (ls : Array Slot), gK2 G (kS ((q_acg σ y (x % 16)).2)) (kS ((q_acg σ y (x % 16)).2)) s H locs → lv_has ls 10 [(4, .int (iZ 1)), (7, .int (iZ y)), (6, .int (iZ x)), (5, .int (iZ (k : Int))), (3, .int (iZ f9)), (2, .ref (gad (gSw G) 152)), (1, .ref (gad G 152)), (0, .ref b)] → W p l e room_1 s m #[Value.ref b] below meth c H locs (1300 + 8000 * k + 3000) (6 * (1300 + 8000 * k + 3000)) (lw_Z below #[Value.ref b] s) (F0 m 195 ls []) := by
                    intro  H locs ls hG hl
                    have J_249 : ∀ (τ : gS), (s_ok τ) → ∀ (H : Heap) (locs : List Loc) (ls : Array Slot), gK2 G (kS τ) (kS τ) s H locs → lv_has ls 10 [(4, .int (iZ 1)), (7, .int (iZ y)), (6, .int (iZ x)), (5, .int (iZ (k : Int))), (3, .int (iZ f9)), (2, .ref (gad (gSw G) 152)), (1, .ref (gad G 152)), (0, .ref b)] → W p l e room_1 s m #[Value.ref b] below meth c H locs (1300 + 8000 * k + 4500) (6 * (1300 + 8000 * k + 4500)) (lw_Z below #[Value.ref b] s) (F0 m 249 ls []) := by
                      intro τ hτ H locs ls hG hl
                      have J_353 : ∀ (υ : gS), (s_ok υ) → ∀ (H : Heap) (locs : List Loc) (ls : Array Slot), gK2 G (kS υ) (kS υ) s H locs → lv_has ls 10 [(4, .int (iZ 1)), (7, .int (iZ y)), (6, .int (iZ x)), (5, .int (iZ (k : Int))), (3, .int (iZ f9)), (2, .ref (gad (gSw G) 152)), (1, .ref (gad G 152)), (0, .ref b)] → W p l e room_1 s m #[Value.ref b] below meth c H locs (1300 + 8000 * k + 6500) (6 * (1300 + 8000 * k + 6500)) (lw_Z below #[Value.ref b] s) (F0 m 353 ls []) := by
                        intro υ hυ H locs ls hG hl
                        refine z_iinc (z := ((k : Int) + 1)) (lv' := [(5, .int (iZ ((k : Int) + 1))), (4, .int (iZ 1)), (7, .int (iZ y)), (6, .int (iZ x)), (3, .int (iZ f9)), (2, .ref (gad (gSw G) 152)), (1, .ref (gad G 152)), (0, .ref b)]) hx hb dL_law_353 hl (k := 3) rfl (by omega) (by decide) rfl (fun ls hl => ?_)
                        refine lv_goto (tgt := 48) hx hb dL_law_356 (by decide) ?_
                        refine W.widen (k := 1300 + 8000 * (k + 1)) (n := 6 * (1300 + 8000 * (k + 1))) (by omega) (by omega) ?_
                        exact ih_48 (k + 1) υ ((k : Int) + 1) (by omega) (by omega) hυ (by omega) _ _ _ hG (lv_sub hl [0, 1, 4, 5, 6, 7] rfl)
                      refine lv_iload hx hb dL_law_249 (lv_at hl 3 rfl) ?_
                      refine lv_bipush (v := iZ (10)) hx hb dL_law_251 (by decide) ?_
                      refine z_irem (z := ((k : Int) % 10)) hx hb (by omega) (by omega) rfl dL_law_253 ?_
                      refine lv_bipush (v := iZ (9)) hx hb dL_law_254 (by decide) ?_
                      refine z_icmp_ne (tgt := 353) hx hb (by omega) (by decide) dL_law_256 (by decide) (fun c_256 => ?_) (fun c_256 => ?_)
                      · skip
                        refine W.widen (k := 1300 + 8000 * k + 6500) (n := 6 * (1300 + 8000 * k + 6500)) (by omega) (by omega) ?_
                        exact J_353 τ hτ _ _ _ hG (lv_sub hl [0, 1, 2, 3, 4, 5, 6, 7] rfl)
                      · skip
                        refine lv_iload hx hb dL_law_259 (lv_at hl 0 rfl) ?_
                        refine z_if_eq (tgt := 353) hx hb (by decide) dL_law_261 (by decide) (fun c_261 => ?_) (fun c_261 => ?_)
                        · exfalso; omega
                        · skip
                          refine lv_iload hx hb dL_law_264 (lv_at hl 1 rfl) ?_
                          refine z_i2l hx hb (by omega) dL_law_266 ?_
                          refine lv_ldc2 (v := lZ (3434269529)) hx hb hown (by rw [show lZ (3434269529) = (3434269529 : Int64) from by decide]; exact hts (.constantLong RL 252 (3434269529)) (List.mem_of_getElem? (i := 897) (by decide +kernel))) dL_law_267 ?_
                          refine z_lmul (z := (3434269529 * y)) hx hb (by omega) dL_law_270 ?_
                          refine lv_ldc2 (v := lZ (743)) hx hb hown (by rw [show lZ (743) = (743 : Int64) from by decide]; exact hts (.constantLong RL 254 (743)) (List.mem_of_getElem? (i := 898) (by decide +kernel))) dL_law_271 ?_
                          refine z_lsub (z := (3434269529 * y - 743)) hx hb (by omega) dL_law_274 ?_
                          refine lv_lstore (lv' := [(8, .long (lZ (3434269529 * y - 743))), (4, .int (iZ 1)), (7, .int (iZ y)), (6, .int (iZ x)), (5, .int (iZ (k : Int))), (3, .int (iZ f9)), (2, .ref (gad (gSw G) 152)), (1, .ref (gad G 152)), (0, .ref b)]) hx hb dL_law_275 hl (by decide) rfl (fun ls hl => ?_)
                          refine lv_aload_n hx hb dL_law_277 rfl (lv_at hl 7 rfl) ?_
                          refine lv_iconst (v := iZ 1) hx hb dL_law_278 rfl ?_
                          refine lv_iload hx hb dL_law_279 (lv_at hl 2 rfl) ?_
                          refine lv_bipush (v := iZ (30)) hx hb dL_law_281 (by decide) ?_
                          refine z_irem (z := (y % 30)) hx hb (by omega) (by omega) rfl dL_law_283 ?_
                          refine z_iadd (z := ((y % 30) + 1)) hx hb (by omega) dL_law_284 ?_
                          obtain ⟨M, h1, h2, k1, k2⟩ := hG
                          refine g_cL (As := [.ref (gad G 152), .int (iZ ((y % 30) + 1))]) (rest := []) (1300 + 8000 * k + 5000) ⟨hx, hb, hml, hown, hts⟩ (c_L_runs l hl0 G hdm M τ hτ ((y % 30) + 1) (by omega)) (va_cwS 2 hts gi_S_yL_runs_256 rfl rfl rfl (by decide +kernel) ⟨Nat.le_of_ble_eq_true rfl, Nat.le_of_ble_eq_true rfl⟩) ⟨M, h1, h2, k1, q_bd.rf M⟩ rfl hl.1 rfl (Nat.le_of_ble_eq_true rfl) dL_law_285 ⟨by omega, by omega⟩ ⟨by show _ ≤ 612651; omega, by show _ ≤ 7263514; omega⟩ (fun z15 K16 H locs hp_285 hG => ?_)
                          obtain ⟨hz_285, hK_285⟩ := hp_285
                          replace hz_285 := hz_285.symm; subst hz_285; replace hK_285 := hK_285.symm; subst hK_285
                          replace hG := gK2.o (loc_S _) k2 hG
                          refine z_if_eq (tgt := 350) hx hb (by decide) dL_law_288 (by decide) (fun c_288 => ?_) (fun c_288 => ?_)
                          · exfalso; omega
                          · skip
                            refine lv_aload_n hx hb dL_law_291 rfl (lv_at hl 6 rfl) ?_
                            refine lv_iconst (v := iZ 1) hx hb dL_law_292 rfl ?_
                            refine lv_iload hx hb dL_law_293 (lv_at hl 2 rfl) ?_
                            refine lv_bipush (v := iZ (30)) hx hb dL_law_295 (by decide) ?_
                            refine z_irem (z := (y % 30)) hx hb (by omega) (by omega) rfl dL_law_297 ?_
                            refine z_iadd (z := ((y % 30) + 1)) hx hb (by omega) dL_law_298 ?_
                            obtain ⟨M, h1, h2, k1, k2⟩ := hG
                            refine g_cL (As := [.ref (gad (gSw G) 152), .int (iZ ((y % 30) + 1))]) (rest := []) (1300 + 8000 * k + 5500) ⟨hx, hb, hml, hown, hts⟩ (c_L_runs l hl0 (gSw G) hdm2 (fun k => M (q_s k)) τ hτ ((y % 30) + 1) (by omega)) (va_cwS 2 hts gi_S_yL_runs_256 rfl rfl rfl (by decide +kernel) ⟨Nat.le_of_ble_eq_true rfl, Nat.le_of_ble_eq_true rfl⟩) (gK2.toP h1 h2 k2) rfl hl.1 rfl (Nat.le_of_ble_eq_true rfl) dL_law_299 ⟨by omega, by omega⟩ ⟨by show _ ≤ 612651; omega, by show _ ≤ 7263514; omega⟩ (fun z17 K18 H locs hp_299 hG => ?_)
                            obtain ⟨hz_299, hK_299⟩ := hp_299
                            replace hz_299 := hz_299.symm; subst hz_299; replace hK_299 := hK_299.symm; subst hK_299
                            replace hG := gK2.p (loc_S _) k1 hG
                            refine z_if_eq (tgt := 350) hx hb (by decide) dL_law_302 (by decide) (fun c_302 => ?_) (fun c_302 => ?_)
                            · exfalso; omega
                            · skip
                              refine lv_aload_n hx hb dL_law_305 rfl (lv_at hl 7 rfl) ?_
                              refine lv_lload hx hb dL_law_306 (lv_at hl 0 rfl) ?_
                              refine lv_iconst (v := iZ 1) hx hb dL_law_308 rfl ?_
                              refine lv_iload hx hb dL_law_309 (lv_at hl 3 rfl) ?_
                              refine lv_bipush (v := iZ (50)) hx hb dL_law_311 (by decide) ?_
                              refine z_irem (z := (x % 50)) hx hb (by omega) (by omega) rfl dL_law_313 ?_
                              refine z_iadd (z := ((x % 50) + 1)) hx hb (by omega) dL_law_314 ?_
                              obtain ⟨M, h1, h2, k1, k2⟩ := hG
                              refine g_cLW (As := [.ref (gad G 152), .long (lZ (3434269529 * y - 743)), .int (iZ ((x % 50) + 1))]) (rest := []) (1300 + 8000 * k + 5501) ⟨hx, hb, hml, hown, hts⟩ (c_L_trySimulate l hl0 G hdm M (t_runs τ ((y % 30) + 1)) (ok_runs hτ (by omega)) (3434269529 * y - 743) (by omega) ((x % 50) + 1) (by omega)) (vx_cwSW 3 hts gi_S_yL_trySimulate_211 rfl rfl rfl (by decide +kernel) ⟨Nat.le_of_ble_eq_true rfl, Nat.le_of_ble_eq_true rfl⟩) ⟨M, h1, h2, k1, q_bd.rf M⟩ rfl hl.1 rfl (Nat.le_of_ble_eq_true rfl) dL_law_315 ⟨by omega, by omega⟩ ⟨by show _ ≤ 612651; omega, by show _ ≤ 7263514; omega⟩ (fun z19 K20 H locs hp_315 hG => ?_)
                              obtain ⟨hz_315, hK_315⟩ := hp_315
                              replace hz_315 := hz_315.symm; subst hz_315; replace hK_315 := hK_315.symm; subst hK_315
                              replace hG := gK2.o (loc_S _) k2 hG
                              refine lv_aload_n hx hb dL_law_318 rfl (lv_at hl 6 rfl) ?_
                              refine lv_lload hx hb dL_law_319 (lv_at hl 0 rfl) ?_
                              refine lv_iconst (v := iZ 1) hx hb dL_law_321 rfl ?_
                              refine lv_iload hx hb dL_law_322 (lv_at hl 3 rfl) ?_
                              refine lv_bipush (v := iZ (50)) hx hb dL_law_324 (by decide) ?_
                              refine z_irem (z := (x % 50)) hx hb (by omega) (by omega) rfl dL_law_326 ?_
                              refine z_iadd (z := ((x % 50) + 1)) hx hb (by omega) dL_law_327 ?_
                              obtain ⟨M, h1, h2, k1, k2⟩ := hG
                              refine g_cLW (As := [.ref (gad (gSw G) 152), .long (lZ (3434269529 * y - 743)), .int (iZ ((x % 50) + 1))]) (rest := [.int (iZ (a_simulate (t_runs τ ((y % 30) + 1)) (3434269529 * y - 743) ((x % 50) + 1)))]) (1300 + 8000 * k + 5502) ⟨hx, hb, hml, hown, hts⟩ (c_L_trySimulate l hl0 (gSw G) hdm2 (fun k => M (q_s k)) (t_runs τ ((y % 30) + 1)) (ok_runs hτ (by omega)) (3434269529 * y - 743) (by omega) ((x % 50) + 1) (by omega)) (vx_cwSW 3 hts gi_S_yL_trySimulate_211 rfl rfl rfl (by decide +kernel) ⟨Nat.le_of_ble_eq_true rfl, Nat.le_of_ble_eq_true rfl⟩) (gK2.toP h1 h2 k2) rfl hl.1 rfl (Nat.le_of_ble_eq_true rfl) dL_law_328 ⟨by omega, by omega⟩ ⟨by show _ ≤ 612651; omega, by show _ ≤ 7263514; omega⟩ (fun z21 K22 H locs hp_328 hG => ?_)
                              obtain ⟨hz_328, hK_328⟩ := hp_328
                              replace hz_328 := hz_328.symm; subst hz_328; replace hK_328 := hK_328.symm; subst hK_328
                              replace hG := gK2.p (loc_S _) k1 hG
                              refine lv_icmp_ne (tgt := 350) hx hb dL_law_331 (by decide) (fun q9 => absurd rfl q9) (fun _ => ?_)
                              refine lv_aload_n hx hb dL_law_334 rfl (lv_at hl 7 rfl) ?_
                              obtain ⟨M, h1, h2, k1, k2⟩ := hG
                              refine g_cLl (As := [.ref (gad G 152)]) (rest := []) (1300 + 8000 * k + 5702) ⟨hx, hb, hml, hown, hts⟩ (c_L_sum l hl0 G hdm M (t_runs τ ((y % 30) + 1)) (ok_runs hτ (by omega))) (va_cwS 1 hts gi_S_yL_sum_171 rfl rfl rfl (by decide +kernel) ⟨Nat.le_of_ble_eq_true rfl, Nat.le_of_ble_eq_true rfl⟩) ⟨M, h1, h2, k1, q_bd.rf M⟩ rfl hl.1 rfl (Nat.le_of_ble_eq_true rfl) dL_law_335 ⟨by omega, by omega⟩ ⟨by show _ ≤ 612651; omega, by show _ ≤ 7263514; omega⟩ (fun z23 K24 H locs hp_335 hG => ?_)
                              obtain ⟨hz_335, hK_335⟩ := hp_335
                              replace hz_335 := hz_335.symm; subst hz_335; replace hK_335 := hK_335.symm; subst hK_335
                              replace hG := gK2.o (loc_S _) k2 hG
                              refine lv_aload_n hx hb dL_law_338 rfl (lv_at hl 6 rfl) ?_
                              obtain ⟨M, h1, h2, k1, k2⟩ := hG
                              refine g_cLl (As := [.ref (gad (gSw G) 152)]) (rest := [.long (lZ (q_all (t_runs τ ((y % 30) + 1)).1))]) (1300 + 8000 * k + 5902) ⟨hx, hb, hml, hown, hts⟩ (c_L_sum l hl0 (gSw G) hdm2 (fun k => M (q_s k)) (t_runs τ ((y % 30) + 1)) (ok_runs hτ (by omega))) (va_cwS 1 hts gi_S_yL_sum_171 rfl rfl rfl (by decide +kernel) ⟨Nat.le_of_ble_eq_true rfl, Nat.le_of_ble_eq_true rfl⟩) (gK2.toP h1 h2 k2) rfl hl.1 rfl (Nat.le_of_ble_eq_true rfl) dL_law_339 ⟨by omega, by omega⟩ ⟨by show _ ≤ 612651; omega, by show _ ≤ 7263514; omega⟩ (fun z25 K26 H locs hp_339 hG => ?_)
                              obtain ⟨hz_339, hK_339⟩ := hp_339
                              replace hz_339 := hz_339.symm; subst hz_339; replace hK_339 := hK_339.symm; subst hK_339
                              replace hG := gK2.p (loc_S _) k1 hG
                              refine z_lcmp_same hx hb dL_law_342 ?_
                              refine z_if_ne (tgt := 350) hx hb (by decide) dL_law_343 (by decide) (fun c_343 => ?_) (fun c_343 => ?_)
                              · exfalso; omega
                              · skip
                                refine lv_iconst (v := iZ 1) hx hb dL_law_346 rfl ?_
                                refine lv_goto (tgt := 351) hx hb dL_law_347 (by decide) ?_
                                refine lv_istore (lv' := [(4, .int (iZ 1)), (8, .long (lZ (3434269529 * y - 743))), (7, .int (iZ y)), (6, .int (iZ x)), (5, .int (iZ (k : Int))), (3, .int (iZ f9)), (2, .ref (gad (gSw G) 152)), (1, .ref (gad G 152)), (0, .ref b)]) hx hb dL_law_351 hl (by decide) rfl (fun ls hl => ?_)
                                refine W.widen (k := 1300 + 8000 * k + 6500) (n := 6 * (1300 + 8000 * k + 6500)) (by omega) (by omega) ?_
                                exact J_353 (t_runs τ ((y % 30) + 1)) (ok_runs hτ (by omega)) _ _ _ hG (lv_sub hl [0, 2, 3, 4, 5, 6, 7, 8] rfl)
                    refine lv_iload hx hb dL_law_195 (lv_at hl 3 rfl) ?_
                    refine lv_iconst (v := iZ 4) hx hb dL_law_197 rfl ?_
                    refine z_irem (z := ((k : Int) % 4)) hx hb (by omega) (by omega) rfl dL_law_198 ?_
                    refine lv_iconst (v := iZ 3) hx hb dL_law_199 rfl ?_
                    refine z_icmp_ne (tgt := 249) hx hb (by omega) (by decide) dL_law_200 (by decide) (fun c_200 => ?_) (fun c_200 => ?_)
                    · skip
                      refine W.widen (k := 1300 + 8000 * k + 4500) (n := 6 * (1300 + 8000 * k + 4500)) (by omega) (by omega) ?_
                      exact J_249 ((q_acg σ y (x % 16)).2) (ok_acg hσ _ _) _ _ _ hG (lv_sub hl [0, 1, 2, 3, 4, 5, 6, 7] rfl)
                    · skip
                      refine lv_iload hx hb dL_law_203 (lv_at hl 0 rfl) ?_
                      refine z_if_eq (tgt := 249) hx hb (by decide) dL_law_205 (by decide) (fun c_205 => ?_) (fun c_205 => ?_)
                      · exfalso; omega
                      · skip
                        refine lv_aload_n hx hb dL_law_208 rfl (lv_at hl 6 rfl) ?_
                        refine lv_iconst (v := iZ 1) hx hb dL_law_209 rfl ?_
                        refine lv_iload hx hb dL_law_210 (lv_at hl 2 rfl) ?_
                        refine lv_bipush (v := iZ (16)) hx hb dL_law_212 (by decide) ?_
                        refine z_idiv (z := (x / 16)) hx hb (by omega) (by omega) rfl dL_law_214 ?_
                        refine lv_bipush (v := iZ (12)) hx hb dL_law_215 (by decide) ?_
                        refine z_irem (z := ((x / 16) % 12)) hx hb (by omega) (by omega) rfl dL_law_217 ?_
                        refine z_iadd (z := (((x / 16) % 12) + 1)) hx hb (by omega) dL_law_218 ?_
                        obtain ⟨M, h1, h2, k1, k2⟩ := hG
                        refine g_cL (As := [.ref (gad G 152), .int (iZ (((x / 16) % 12) + 1))]) (rest := []) (1300 + 8000 * k + 3700) ⟨hx, hb, hml, hown, hts⟩ (c_L_tries l hl0 G hdm M ((q_acg σ y (x % 16)).2) (ok_acg hσ _ _) (((x / 16) % 12) + 1) (by omega)) (va_cwS 2 hts gi_S_yL_tries_249 rfl rfl rfl (by decide +kernel) ⟨Nat.le_of_ble_eq_true rfl, Nat.le_of_ble_eq_true rfl⟩) ⟨M, h1, h2, k1, q_bd.rf M⟩ rfl hl.1 rfl (Nat.le_of_ble_eq_true rfl) dL_law_219 ⟨by omega, by omega⟩ ⟨by show _ ≤ 612651; omega, by show _ ≤ 7263514; omega⟩ (fun z27 K28 H locs hp_219 hG => ?_)
                        obtain ⟨hz_219, hK_219⟩ := hp_219
                        replace hz_219 := hz_219.symm; subst hz_219; replace hK_219 := hK_219.symm; subst hK_219
                        replace hG := gK2.o (loc_S _) k2 hG
                        refine z_if_eq (tgt := 246) hx hb (by decide) dL_law_222 (by decide) (fun c_222 => ?_) (fun c_222 => ?_)
                        · exfalso; omega
                        · skip
                          refine lv_aload_n hx hb dL_law_225 rfl (lv_at hl 5 rfl) ?_
                          refine lv_iconst (v := iZ 1) hx hb dL_law_226 rfl ?_
                          refine lv_iload hx hb dL_law_227 (lv_at hl 2 rfl) ?_
                          refine lv_bipush (v := iZ (16)) hx hb dL_law_229 (by decide) ?_
                          refine z_idiv (z := (x / 16)) hx hb (by omega) (by omega) rfl dL_law_231 ?_
                          refine lv_bipush (v := iZ (12)) hx hb dL_law_232 (by decide) ?_
                          refine z_irem (z := ((x / 16) % 12)) hx hb (by omega) (by omega) rfl dL_law_234 ?_
                          refine z_iadd (z := (((x / 16) % 12) + 1)) hx hb (by omega) dL_law_235 ?_
                          obtain ⟨M, h1, h2, k1, k2⟩ := hG
                          refine g_cL (As := [.ref (gad (gSw G) 152), .int (iZ (((x / 16) % 12) + 1))]) (rest := []) (1300 + 8000 * k + 4400) ⟨hx, hb, hml, hown, hts⟩ (c_L_tries l hl0 (gSw G) hdm2 (fun k => M (q_s k)) ((q_acg σ y (x % 16)).2) (ok_acg hσ _ _) (((x / 16) % 12) + 1) (by omega)) (va_cwS 2 hts gi_S_yL_tries_249 rfl rfl rfl (by decide +kernel) ⟨Nat.le_of_ble_eq_true rfl, Nat.le_of_ble_eq_true rfl⟩) (gK2.toP h1 h2 k2) rfl hl.1 rfl (Nat.le_of_ble_eq_true rfl) dL_law_236 ⟨by omega, by omega⟩ ⟨by show _ ≤ 612651; omega, by show _ ≤ 7263514; omega⟩ (fun z29 K30 H locs hp_236 hG => ?_)
                          obtain ⟨hz_236, hK_236⟩ := hp_236
                          replace hz_236 := hz_236.symm; subst hz_236; replace hK_236 := hK_236.symm; subst hK_236
                          replace hG := gK2.p (loc_S _) k1 hG
                          refine z_if_eq (tgt := 246) hx hb (by decide) dL_law_239 (by decide) (fun c_239 => ?_) (fun c_239 => ?_)
                          · exfalso; omega
                          · skip
                            refine lv_iconst (v := iZ 1) hx hb dL_law_242 rfl ?_
                            refine lv_goto (tgt := 247) hx hb dL_law_243 (by decide) ?_
                            refine lv_istore (lv' := [(4, .int (iZ 1)), (7, .int (iZ y)), (6, .int (iZ x)), (5, .int (iZ (k : Int))), (3, .int (iZ f9)), (2, .ref (gad (gSw G) 152)), (1, .ref (gad G 152)), (0, .ref b)]) hx hb dL_law_247 hl (by decide) rfl (fun ls hl => ?_)
                            refine W.widen (k := 1300 + 8000 * k + 4500) (n := 6 * (1300 + 8000 * k + 4500)) (by omega) (by omega) ?_
                            exact J_249 (t_tries ((q_acg σ y (x % 16)).2) (((x / 16) % 12) + 1)) (ok_tries (ok_acg hσ _ _) _) _ _ _ hG (lv_sub hl [0, 1, 2, 3, 4, 5, 6, 7] rfl)
                  refine lv_iload hx hb dL_law_131 (lv_at hl 3 rfl) ?_
                  refine lv_iconst (v := iZ 3) hx hb dL_law_133 rfl ?_
                  refine z_irem (z := ((k : Int) % 3)) hx hb (by omega) (by omega) rfl dL_law_134 ?_
                  refine z_if_ne (tgt := 195) hx hb (by omega) dL_law_135 (by decide) (fun c_135 => ?_) (fun c_135 => ?_)
                  · skip
                    refine W.widen (k := 1300 + 8000 * k + 3000) (n := 6 * (1300 + 8000 * k + 3000)) (by omega) (by omega) ?_
                    exact J_195  _ _ _ hG (lv_sub hl [0, 1, 2, 3, 4, 5, 6, 7] rfl)
                  · skip
                    refine lv_iload hx hb dL_law_138 (lv_at hl 0 rfl) ?_
                    refine z_if_eq (tgt := 195) hx hb (by decide) dL_law_140 (by decide) (fun c_140 => ?_) (fun c_140 => ?_)
                    · exfalso; omega
                    · skip
                      refine lv_aload_n hx hb dL_law_143 rfl (lv_at hl 6 rfl) ?_
                      obtain ⟨M, h1, h2, k1, k2⟩ := hG
                      refine g_cL (As := [.ref (gad G 152)]) (rest := []) (1300 + 8000 * k + 846) ⟨hx, hb, hml, hown, hts⟩ (c_L_scores l hl0 G hdm M ((q_acg σ y (x % 16)).2) (ok_acg hσ _ _)) (va_cwS 1 hts gi_S_yL_scores_237 rfl rfl rfl (by decide +kernel) ⟨Nat.le_of_ble_eq_true rfl, Nat.le_of_ble_eq_true rfl⟩) ⟨M, h1, h2, k1, q_bd.rf M⟩ rfl hl.1 rfl (Nat.le_of_ble_eq_true rfl) dL_law_144 ⟨by omega, by omega⟩ ⟨by show _ ≤ 612651; omega, by show _ ≤ 7263514; omega⟩ (fun z31 K32 H locs hp_144 hG => ?_)
                      obtain ⟨hz_144, hK_144⟩ := hp_144
                      replace hz_144 := hz_144.symm; subst hz_144; replace hK_144 := hK_144.symm; subst hK_144
                      replace hG := gK2.o (loc_S _) k2 hG
                      refine z_if_eq (tgt := 192) hx hb (by decide) dL_law_147 (by decide) (fun c_147 => ?_) (fun c_147 => ?_)
                      · exfalso; omega
                      · skip
                        refine lv_aload_n hx hb dL_law_150 rfl (lv_at hl 6 rfl) ?_
                        obtain ⟨M, h1, h2, k1, k2⟩ := hG
                        refine g_cL (As := [.ref (gad G 152)]) (rest := []) (1300 + 8000 * k + 2346) ⟨hx, hb, hml, hown, hts⟩ (c_L_order l hl0 G hdm M ((q_acg σ y (x % 16)).2) (ok_acg hσ _ _)) (va_cwS 1 hts gi_S_yL_order_241 rfl rfl rfl (by decide +kernel) ⟨Nat.le_of_ble_eq_true rfl, Nat.le_of_ble_eq_true rfl⟩) ⟨M, h1, h2, k1, q_bd.rf M⟩ rfl hl.1 rfl (Nat.le_of_ble_eq_true rfl) dL_law_151 ⟨by omega, by omega⟩ ⟨by show _ ≤ 612651; omega, by show _ ≤ 7263514; omega⟩ (fun z33 K34 H locs hp_151 hG => ?_)
                        obtain ⟨hz_151, hK_151⟩ := hp_151
                        replace hz_151 := hz_151.symm; subst hz_151; replace hK_151 := hK_151.symm; subst hK_151
                        replace hG := gK2.o (loc_S _) k2 hG
                        refine z_if_eq (tgt := 192) hx hb (by decide) dL_law_154 (by decide) (fun c_154 => ?_) (fun c_154 => ?_)
                        · exfalso; omega
                        · skip
                          refine lv_aload_n hx hb dL_law_157 rfl (lv_at hl 6 rfl) ?_
                          obtain ⟨M, h1, h2, k1, k2⟩ := hG
                          refine g_cL (As := [.ref (gad G 152)]) (rest := []) (1300 + 8000 * k + 2546) ⟨hx, hb, hml, hown, hts⟩ (c_L_places l hl0 G hdm M ((q_acg σ y (x % 16)).2) (ok_acg hσ _ _)) (va_cwS 1 hts gi_S_yL_places_243 rfl rfl rfl (by decide +kernel) ⟨Nat.le_of_ble_eq_true rfl, Nat.le_of_ble_eq_true rfl⟩) ⟨M, h1, h2, k1, q_bd.rf M⟩ rfl hl.1 rfl (Nat.le_of_ble_eq_true rfl) dL_law_158 ⟨by omega, by omega⟩ ⟨by show _ ≤ 612651; omega, by show _ ≤ 7263514; omega⟩ (fun z35 K36 H locs hp_158 hG => ?_)
                          obtain ⟨hz_158, hK_158⟩ := hp_158
                          replace hz_158 := hz_158.symm; subst hz_158; replace hK_158 := hK_158.symm; subst hK_158
                          replace hG := gK2.o (loc_S _) k2 hG
                          refine z_if_eq (tgt := 192) hx hb (by decide) dL_law_161 (by decide) (fun c_161 => ?_) (fun c_161 => ?_)
                          · exfalso; omega
                          · skip
                            refine lv_aload_n hx hb dL_law_164 rfl (lv_at hl 5 rfl) ?_
                            refine lv_iload hx hb dL_law_165 (lv_at hl 2 rfl) ?_
                            refine lv_bipush (v := iZ (16)) hx hb dL_law_167 (by decide) ?_
                            refine z_idiv (z := (x / 16)) hx hb (by omega) (by omega) rfl dL_law_169 ?_
                            obtain ⟨M, h1, h2, k1, k2⟩ := hG
                            refine g_cL (As := [.ref (gad (gSw G) 152), .int (iZ (x / 16))]) (rest := []) (1300 + 8000 * k + 2566) ⟨hx, hb, hml, hown, hts⟩ (c_L_scripts l hl0 (gSw G) hdm2 (fun k => M (q_s k)) ((q_acg σ y (x % 16)).2) (ok_acg hσ _ _) (x / 16) (by omega)) (va_cwS 2 hts gi_S_yL_scripts_246 rfl rfl rfl (by decide +kernel) ⟨Nat.le_of_ble_eq_true rfl, Nat.le_of_ble_eq_true rfl⟩) (gK2.toP h1 h2 k2) rfl hl.1 rfl (Nat.le_of_ble_eq_true rfl) dL_law_170 ⟨by omega, by omega⟩ ⟨by show _ ≤ 612651; omega, by show _ ≤ 7263514; omega⟩ (fun z37 K38 H locs hp_170 hG => ?_)
                            obtain ⟨hz_170, hK_170⟩ := hp_170
                            replace hz_170 := hz_170.symm; subst hz_170; replace hK_170 := hK_170.symm; subst hK_170
                            replace hG := gK2.p (loc_S _) k1 hG
                            refine z_if_eq (tgt := 192) hx hb (by decide) dL_law_173 (by decide) (fun c_173 => ?_) (fun c_173 => ?_)
                            · exfalso; omega
                            · skip
                              refine lv_aload_n hx hb dL_law_176 rfl (lv_at hl 5 rfl) ?_
                              obtain ⟨M, h1, h2, k1, k2⟩ := hG
                              refine g_cLl (As := [.ref (gad (gSw G) 152)]) (rest := []) (1300 + 8000 * k + 2766) ⟨hx, hb, hml, hown, hts⟩ (c_L_sum l hl0 (gSw G) hdm2 (fun k => M (q_s k)) ((q_acg σ y (x % 16)).2) (ok_acg hσ _ _)) (va_cwS 1 hts gi_S_yL_sum_171 rfl rfl rfl (by decide +kernel) ⟨Nat.le_of_ble_eq_true rfl, Nat.le_of_ble_eq_true rfl⟩) (gK2.toP h1 h2 k2) rfl hl.1 rfl (Nat.le_of_ble_eq_true rfl) dL_law_177 ⟨by omega, by omega⟩ ⟨by show _ ≤ 612651; omega, by show _ ≤ 7263514; omega⟩ (fun z39 K40 H locs hp_177 hG => ?_)
                              obtain ⟨hz_177, hK_177⟩ := hp_177
                              replace hz_177 := hz_177.symm; subst hz_177; replace hK_177 := hK_177.symm; subst hK_177
                              replace hG := gK2.p (loc_S _) k1 hG
                              refine lv_aload_n hx hb dL_law_180 rfl (lv_at hl 6 rfl) ?_
                              obtain ⟨M, h1, h2, k1, k2⟩ := hG
                              refine g_cLl (As := [.ref (gad G 152)]) (rest := [.long (lZ (q_all ((q_acg σ y (x % 16)).2).1))]) (1300 + 8000 * k + 2966) ⟨hx, hb, hml, hown, hts⟩ (c_L_sum l hl0 G hdm M ((q_acg σ y (x % 16)).2) (ok_acg hσ _ _)) (va_cwS 1 hts gi_S_yL_sum_171 rfl rfl rfl (by decide +kernel) ⟨Nat.le_of_ble_eq_true rfl, Nat.le_of_ble_eq_true rfl⟩) ⟨M, h1, h2, k1, q_bd.rf M⟩ rfl hl.1 rfl (Nat.le_of_ble_eq_true rfl) dL_law_181 ⟨by omega, by omega⟩ ⟨by show _ ≤ 612651; omega, by show _ ≤ 7263514; omega⟩ (fun z41 K42 H locs hp_181 hG => ?_)
                              obtain ⟨hz_181, hK_181⟩ := hp_181
                              replace hz_181 := hz_181.symm; subst hz_181; replace hK_181 := hK_181.symm; subst hK_181
                              replace hG := gK2.o (loc_S _) k2 hG
                              refine z_lcmp_same hx hb dL_law_184 ?_
                              refine z_if_ne (tgt := 192) hx hb (by decide) dL_law_185 (by decide) (fun c_185 => ?_) (fun c_185 => ?_)
                              · exfalso; omega
                              · skip
                                refine lv_iconst (v := iZ 1) hx hb dL_law_188 rfl ?_
                                refine lv_goto (tgt := 193) hx hb dL_law_189 (by decide) ?_
                                refine lv_istore (lv' := [(4, .int (iZ 1)), (7, .int (iZ y)), (6, .int (iZ x)), (5, .int (iZ (k : Int))), (3, .int (iZ f9)), (2, .ref (gad (gSw G) 152)), (1, .ref (gad G 152)), (0, .ref b)]) hx hb dL_law_193 hl (by decide) rfl (fun ls hl => ?_)
                                refine W.widen (k := 1300 + 8000 * k + 3000) (n := 6 * (1300 + 8000 * k + 3000)) (by omega) (by omega) ?_
                                exact J_195  _ _ _ hG (lv_sub hl [0, 1, 2, 3, 4, 5, 6, 7] rfl)
      refine W.widen (k := 1300 + 8000 * 0) (n := 6 * (1300 + 8000 * 0)) (by omega) (by omega) ?_
      exact L_48 _ 0 (q_s0 f9) 0 rfl (by omega) (ok_s0 hr_18.1) (Nat.lt_succ_self _) _ _ _ hG (lv_sub hl [0, 1, 2, 3, 4, 5] rfl)
