set_option maxHeartbeats 4000000 in
set_option maxRecDepth 100000 in
theorem c_X6_gone (l : Launch) (G : gG) (M : Nat → Nat → Int) (hdm : ∀ k, k < 179 → gdm G k) (hI : q_inv (M 172)) : gMi l yX6_gone wsX6_gone ({ frames := 2, cells := 0, slots := 0, locals := 41 } : Room) G M [.ref (gad G 169)] (fun z M1 => z = q_ngone (M 172) ∧ M1 = M) := by
  refine gMi_of (cc := cX6_gone) (maxL := 3) (ret := some .int) (by decide) rfl (Nat.le_of_ble_eq_true rfl) ?_
  intro p e s m below meth c ls hx hb hr hml hown hts hlocks hl hG
  have hown : s.vm.findClass RX6 = some m.cls := hown
  have hl : lv_has ls 3 [(0, .ref (gad G 169))] := hl
  have hinX6 : ∀ w ∈ u_ws RX6 TX6 13, w ∈ wsX6_gone := by decide +kernel
  have f16 := hts (.fieldLink RX6 16 "DogTrialsModel" "now" "[I") (by decide +kernel)
  have hnd := hI.1
  refine lv_iconst (v := iZ 0) hx hb dX6_gone_0 rfl ?_
  refine lv_istore_n (lv' := [(1, .int (iZ 0)), (0, .ref (gad G 169))]) hx hb dX6_gone_1 rfl hl (by decide) rfl (fun ls hl => ?_)
  refine lv_iconst (v := iZ 0) hx hb dX6_gone_2 rfl ?_
  refine lv_istore_n (lv' := [(2, .int (iZ 0)), (1, .int (iZ 0)), (0, .ref (gad G 169))]) hx hb dX6_gone_3 rfl hl (by decide) rfl (fun ls hl => ?_)
  have L_4 : ∀ (n_4 : Nat) (k : Nat) (x_i : Int) (x_c : Int), (x_i = (k : Int)) → (x_c = (q_ct (fun i => decide (q_sa (M 172) i = 3)) k)) → ((k : Int) ≤ q_nd (M 172)) → 12 - k < n_4 → ∀ (H : Heap) (locs : List Loc) (ls : Array Slot), gH G M s H locs → lv_has ls 3 [(2, .int (iZ x_i)), (1, .int (iZ x_c)), (0, .ref (gad G 169))] → W p l e ({ frames := 2, cells := 0, slots := 0, locals := 41 } : Room) s m [.ref (gad G 169)].toArray below meth c H locs 0 0 (MQ below (va_Qi (fun r (u : Int × (Nat → Nat → Int)) => r = iZ u.1 ∧ (fun z M1 => z = q_ngone (M 172) ∧ M1 = M) u.1 u.2) (fun u U => gB G u.2 U) (gA G)) [.ref (gad G 169)].toArray s 0 0 (gA G)) (F0 m 4 ls []) := by
    intro n_4
    induction n_4 with
    | zero => intro k x_i x_c he_x_i he_x_c hk hm_4; exact absurd hm_4 (Nat.not_lt_zero _)
    | succ n_4 ih_4 =>
      intro k x_i x_c he_x_i he_x_c hk hm_4 H locs ls hG hl
      subst he_x_i
      subst he_x_c
      have hck := ct_in (fun i => decide (q_sa (M 172) i = 3)) k
      have hdk : (k : Int) < q_nd (M 172) → q_dogok (M 172) k := hI.2.1 k
      have hdok := dok hI k
      refine lv_iload_n hx hb dX6_gone_4 rfl (lv_at hl 0 rfl) ?_
      refine lv_aload_n hx hb dX6_gone_5 rfl (lv_at hl 2 rfl) ?_
      refine g_get hx hb hts hinX6 hown hG (o := 169) (hdm 169 (by decide)) rfl rfl 5 (by decide) f16 (fun _ h => h) rfl dX6_gone_6 ?_
      refine lv_bipush (v := iZ (7)) hx hb dX6_gone_9 (by decide) ?_
      refine g_iald (z := (q_nd (M 172))) (j := 7) hx hb hG (o := 172) (hdm 172 (by decide)) rfl (by omega) (by omega) (by omega) rfl dX6_gone_11 ?_
      refine z_icmp_ge (tgt := 41) hx hb (by omega) (by omega) dX6_gone_12 (by decide) (fun c_12 => ?_) (fun c_12 => ?_)
      · skip
        refine lv_iload_n hx hb dX6_gone_41 rfl (lv_at hl 1 rfl) ?_
        exact g_iret (post := fun z M1 => z = q_ngone (M 172) ∧ M1 = M) (z := (q_ct (fun i => decide (q_sa (M 172) i = 3)) k)) hx hb hr hG hlocks (⟨by unfold q_ngone; congr 1; omega, rfl⟩) dX6_gone_42
      · skip
        refine lv_iload_n hx hb dX6_gone_15 rfl (lv_at hl 1 rfl) ?_
        refine lv_aload_n hx hb dX6_gone_16 rfl (lv_at hl 2 rfl) ?_
        refine g_get hx hb hts hinX6 hown hG (o := 169) (hdm 169 (by decide)) rfl rfl 5 (by decide) f16 (fun _ h => h) rfl dX6_gone_17 ?_
        refine lv_iload_n hx hb dX6_gone_20 rfl (lv_at hl 0 rfl) ?_
        refine g_callS (As := [.ref (gad G 172), .int (iZ (k : Int))]) (rest := [.int (iZ (q_ct (fun i => decide (q_sa (M 172) i = 3)) k))]) ⟨hx, hb, hml, hown, hts⟩ (c_X6_stateOf l G M hdm 172 (Or.inr (Or.inl rfl)) hI k (by omega)) (va_cwS 2 hts gX6_gone_X6_stateOf rfl rfl rfl (by decide +kernel) ⟨Nat.le_of_ble_eq_true rfl, Nat.le_of_ble_eq_true rfl⟩) hG rfl hl.1 rfl (Nat.le_of_ble_eq_true rfl) dX6_gone_21 ⟨Nat.zero_le _, Nat.zero_le _⟩ (fun z1 M2 H locs hp_21 hG => ?_)
        obtain ⟨hz_21, hM_21⟩ := hp_21; replace hz_21 := hz_21.symm; subst hz_21; replace hM_21 := hM_21.symm; subst hM_21
        refine lv_iconst (v := iZ 3) hx hb dX6_gone_24 rfl ?_
        refine z_icmp_ne (tgt := 32) hx hb (by omega) (by decide) dX6_gone_25 (by decide) (fun c_25 => ?_) (fun c_25 => ?_)
        · skip
          refine lv_iconst (v := iZ 0) hx hb dX6_gone_32 rfl ?_
          refine z_iadd (z := (q_ct (fun i => decide (q_sa (M 172) i = 3)) k)) hx hb (by omega) dX6_gone_33 ?_
          refine lv_istore_n (lv' := [(1, .int (iZ (q_ct (fun i => decide (q_sa (M 172) i = 3)) k))), (2, .int (iZ (k : Int))), (0, .ref (gad G 169))]) hx hb dX6_gone_34 rfl hl (by decide) rfl (fun ls hl => ?_)
          refine z_iinc (z := ((k : Int) + 1)) (lv' := [(2, .int (iZ ((k : Int) + 1))), (1, .int (iZ (q_ct (fun i => decide (q_sa (M 172) i = 3)) k))), (0, .ref (gad G 169))]) hx hb dX6_gone_35 hl (k := 1) rfl (by omega) (by decide) rfl (fun ls hl => ?_)
          refine lv_goto (tgt := 4) hx hb dX6_gone_38 (by decide) ?_
          exact ih_4 (k + 1) ((k : Int) + 1) (q_ct (fun i => decide (q_sa (M 172) i = 3)) k)  (by omega) (by rw [q_ct]; first | (rw [if_pos (by first | assumption | exact decide_eq_true (by omega) | (simp_all; done))] <;> omega) | (rw [if_neg (by first | assumption | (intro h9; have h8 := of_decide_eq_true h9; omega) | (simp_all; done))] <;> omega)) (by omega) (by omega) _ _ _ hG (lv_sub hl [0, 1, 2] rfl)
        · skip
          refine lv_iconst (v := iZ 1) hx hb dX6_gone_28 rfl ?_
          refine lv_goto (tgt := 33) hx hb dX6_gone_29 (by decide) ?_
          refine z_iadd (z := ((q_ct (fun i => decide (q_sa (M 172) i = 3)) k) + 1)) hx hb (by omega) dX6_gone_33 ?_
          refine lv_istore_n (lv' := [(1, .int (iZ ((q_ct (fun i => decide (q_sa (M 172) i = 3)) k) + 1))), (2, .int (iZ (k : Int))), (0, .ref (gad G 169))]) hx hb dX6_gone_34 rfl hl (by decide) rfl (fun ls hl => ?_)
          refine z_iinc (z := ((k : Int) + 1)) (lv' := [(2, .int (iZ ((k : Int) + 1))), (1, .int (iZ ((q_ct (fun i => decide (q_sa (M 172) i = 3)) k) + 1))), (0, .ref (gad G 169))]) hx hb dX6_gone_35 hl (k := 1) rfl (by omega) (by decide) rfl (fun ls hl => ?_)
          refine lv_goto (tgt := 4) hx hb dX6_gone_38 (by decide) ?_
          exact ih_4 (k + 1) ((k : Int) + 1) ((q_ct (fun i => decide (q_sa (M 172) i = 3)) k) + 1)  (by omega) (by rw [q_ct]; first | (rw [if_pos (by first | assumption | exact decide_eq_true (by omega) | (simp_all; done))] <;> omega) | (rw [if_neg (by first | assumption | (intro h9; have h8 := of_decide_eq_true h9; omega) | (simp_all; done))] <;> omega)) (by omega) (by omega) _ _ _ hG (lv_sub hl [0, 1, 2] rfl)
  exact L_4 _ 0 0 0  rfl rfl (by omega) (Nat.lt_succ_self _) _ _ _ hG (lv_sub hl [0, 1, 2] rfl)
set_option maxHeartbeats 4000000 in
set_option maxRecDepth 100000 in
theorem c_X6_ahead (l : Launch) (G : gG) (M : Nat → Nat → Int) (hdm : ∀ k, k < 179 → gdm G k) (hI : q_inv (M 172)) (i : Nat) (hi : (i : Int) < q_nd (M 172)) : gMi l yX6_ahead wsX6_ahead ({ frames := 4, cells := 0, slots := 0, locals := 90 } : Room) G M [.ref (gad G 169), .int (iZ (i : Int))] (fun z M1 => z = q_ahn (M 172) i ∧ M1 = M) := by
  refine gMi_of (cc := cX6_ahead) (maxL := 6) (ret := some .int) (by decide) rfl (Nat.le_of_ble_eq_true rfl) ?_
  intro p e s m below meth c ls hx hb hr hml hown hts hlocks hl hG
  have hown : s.vm.findClass RX6 = some m.cls := hown
  have hl : lv_has ls 6 [(0, .ref (gad G 169)), (1, .int (iZ (i : Int)))] := hl
  have hinX6 : ∀ w ∈ u_ws RX6 TX6 13, w ∈ wsX6_ahead := by decide +kernel
  have f16 := hts (.fieldLink RX6 16 "DogTrialsModel" "now" "[I") (by decide +kernel)
  have hnd := hI.1
  have hdi := dok5 hI i hi
  refine lv_iconst (v := iZ 0) hx hb dX6_ahead_0 rfl ?_
  refine lv_istore_n (lv' := [(2, .int (iZ 0)), (0, .ref (gad G 169)), (1, .int (iZ (i : Int)))]) hx hb dX6_ahead_1 rfl hl (by decide) rfl (fun ls hl => ?_)
  refine lv_iconst (v := iZ 0) hx hb dX6_ahead_2 rfl ?_
  refine lv_istore_n (lv' := [(3, .int (iZ 0)), (2, .int (iZ 0)), (0, .ref (gad G 169)), (1, .int (iZ (i : Int)))]) hx hb dX6_ahead_3 rfl hl (by decide) rfl (fun ls hl => ?_)
  have L_4 : ∀ (n_4 : Nat) (k : Nat) (x_i : Int) (x_c : Int), (x_i = (k : Int)) → (x_c = (q_ct (fun j => decide (q_hs (M 172) j = 1) && q_ah (M 172) j i) k)) → ((k : Int) ≤ q_nd (M 172)) → 12 - k < n_4 → ∀ (H : Heap) (locs : List Loc) (ls : Array Slot), gH G M s H locs → lv_has ls 6 [(3, .int (iZ x_i)), (2, .int (iZ x_c)), (0, .ref (gad G 169)), (1, .int (iZ (i : Int)))] → W p l e ({ frames := 4, cells := 0, slots := 0, locals := 90 } : Room) s m [.ref (gad G 169), .int (iZ (i : Int))].toArray below meth c H locs 0 0 (MQ below (va_Qi (fun r (u : Int × (Nat → Nat → Int)) => r = iZ u.1 ∧ (fun z M1 => z = q_ahn (M 172) i ∧ M1 = M) u.1 u.2) (fun u U => gB G u.2 U) (gA G)) [.ref (gad G 169), .int (iZ (i : Int))].toArray s 0 0 (gA G)) (F0 m 4 ls []) := by
    intro n_4
    induction n_4 with
    | zero => intro k x_i x_c he_x_i he_x_c hk hm_4; exact absurd hm_4 (Nat.not_lt_zero _)
    | succ n_4 ih_4 =>
      intro k x_i x_c he_x_i he_x_c hk hm_4 H locs ls hG hl
      subst he_x_i
      subst he_x_c
      have hck := ct_in (fun j => decide (q_hs (M 172) j = 1) && q_ah (M 172) j i) k
      refine lv_iload_n hx hb dX6_ahead_4 rfl (lv_at hl 0 rfl) ?_
      refine lv_aload_n hx hb dX6_ahead_5 rfl (lv_at hl 2 rfl) ?_
      refine g_get hx hb hts hinX6 hown hG (o := 169) (hdm 169 (by decide)) rfl rfl 5 (by decide) f16 (fun _ h => h) rfl dX6_ahead_6 ?_
      refine lv_bipush (v := iZ (7)) hx hb dX6_ahead_9 (by decide) ?_
      refine g_iald (z := (q_nd (M 172))) (j := 7) hx hb hG (o := 172) (hdm 172 (by decide)) rfl (by omega) (by omega) (by omega) rfl dX6_ahead_11 ?_
      refine z_icmp_ge (tgt := 125) hx hb (by omega) (by omega) dX6_ahead_12 (by decide) (fun c_12 => ?_) (fun c_12 => ?_)
      · skip
        refine lv_iload_n hx hb dX6_ahead_125 rfl (lv_at hl 1 rfl) ?_
        exact g_iret (post := fun z M1 => z = q_ahn (M 172) i ∧ M1 = M) (z := (q_ct (fun j => decide (q_hs (M 172) j = 1) && q_ah (M 172) j i) k)) hx hb hr hG hlocks (⟨by unfold q_ahn; congr 1; omega, rfl⟩) dX6_ahead_126
      · skip
        have hkl : (k : Int) < q_nd (M 172) := by omega
        have hdk := dok5 hI k hkl
        refine lv_aload_n hx hb dX6_ahead_15 rfl (lv_at hl 2 rfl) ?_
        refine g_get hx hb hts hinX6 hown hG (o := 169) (hdm 169 (by decide)) rfl rfl 5 (by decide) f16 (fun _ h => h) rfl dX6_ahead_16 ?_
        refine lv_iload_n hx hb dX6_ahead_19 rfl (lv_at hl 3 rfl) ?_
        refine lv_iload_n hx hb dX6_ahead_20 rfl (lv_at hl 0 rfl) ?_
        refine g_callS (As := [.ref (gad G 172), .int (iZ (i : Int)), .int (iZ (k : Int))]) (rest := []) ⟨hx, hb, hml, hown, hts⟩ (c_X6_isBetter l G M hdm 172 (Or.inr (Or.inl rfl)) hI i k (by omega) (by omega)) (va_cwS 3 hts gX6_ahead_X6_isBetter rfl rfl rfl (by decide +kernel) ⟨Nat.le_of_ble_eq_true rfl, Nat.le_of_ble_eq_true rfl⟩) hG rfl hl.1 rfl (Nat.le_of_ble_eq_true rfl) dX6_ahead_21 ⟨Nat.zero_le _, Nat.zero_le _⟩ (fun z1 M2 H locs hp_21 hG => ?_)
        obtain ⟨hz_21, hM_21⟩ := hp_21; replace hz_21 := hz_21.symm; subst hz_21; replace hM_21 := hM_21.symm; subst hM_21
        refine z_ifP_ne (tgt := 43) hx hb dX6_ahead_24 (by decide) (fun c_24 => ?_) (fun c_24 => ?_)
        · skip
          refine lv_iconst (v := iZ 0) hx hb dX6_ahead_43 rfl ?_
          refine lv_istore (lv' := [(4, .int (iZ 0)), (3, .int (iZ (k : Int))), (2, .int (iZ (q_ct (fun j => decide (q_hs (M 172) j = 1) && q_ah (M 172) j i) k))), (0, .ref (gad G 169)), (1, .int (iZ (i : Int)))]) hx hb dX6_ahead_44 hl (by decide) rfl (fun ls hl => ?_)
          refine lv_aload_n hx hb dX6_ahead_46 rfl (lv_at hl 3 rfl) ?_
          refine g_get hx hb hts hinX6 hown hG (o := 169) (hdm 169 (by decide)) rfl rfl 5 (by decide) f16 (fun _ h => h) rfl dX6_ahead_47 ?_
          refine lv_iload_n hx hb dX6_ahead_50 rfl (lv_at hl 1 rfl) ?_
          refine g_callS (As := [.int (iZ (k : Int))]) (rest := [.ref (gad G 172)]) ⟨hx, hb, hml, hown, hts⟩ (c_X6_dogAt l G M (k : Int)) (va_cwS 1 hts gX6_ahead_X6_dogAt rfl rfl rfl (by decide +kernel) ⟨Nat.le_of_ble_eq_true rfl, Nat.le_of_ble_eq_true rfl⟩) hG rfl hl.1 rfl (Nat.le_of_ble_eq_true rfl) dX6_ahead_51 ⟨Nat.zero_le _, Nat.zero_le _⟩ (fun z3 M4 H locs hp_51 hG => ?_)
          obtain ⟨hz_51, hM_51⟩ := hp_51; replace hz_51 := hz_51.symm; subst hz_51; replace hM_51 := hM_51.symm; subst hM_51
          rw [show (14 + 11 * (k : Int) : Int) = (11 * (k : Int) + 14) from by omega]
          refine lv_iconst (v := iZ 1) hx hb dX6_ahead_54 rfl ?_
          refine z_iadd (z := (11 * (k : Int) + 15)) hx hb (by omega) dX6_ahead_55 ?_
          refine g_iald (z := (q_dr (M 172) k)) (j := (14 + 11 * k + 1)) hx hb hG (o := 172) (hdm 172 (by decide)) rfl (by omega) (by omega) (by omega) rfl dX6_ahead_56 ?_
          refine lv_aload_n hx hb dX6_ahead_57 rfl (lv_at hl 3 rfl) ?_
          refine g_get hx hb hts hinX6 hown hG (o := 169) (hdm 169 (by decide)) rfl rfl 5 (by decide) f16 (fun _ h => h) rfl dX6_ahead_58 ?_
          refine lv_iload_n hx hb dX6_ahead_61 rfl (lv_at hl 4 rfl) ?_
          refine g_callS (As := [.int (iZ (i : Int))]) (rest := [.ref (gad G 172), .int (iZ (q_dr (M 172) k))]) ⟨hx, hb, hml, hown, hts⟩ (c_X6_dogAt l G M (i : Int)) (va_cwS 1 hts gX6_ahead_X6_dogAt rfl rfl rfl (by decide +kernel) ⟨Nat.le_of_ble_eq_true rfl, Nat.le_of_ble_eq_true rfl⟩) hG rfl hl.1 rfl (Nat.le_of_ble_eq_true rfl) dX6_ahead_62 ⟨Nat.zero_le _, Nat.zero_le _⟩ (fun z5 M6 H locs hp_62 hG => ?_)
          obtain ⟨hz_62, hM_62⟩ := hp_62; replace hz_62 := hz_62.symm; subst hz_62; replace hM_62 := hM_62.symm; subst hM_62
          rw [show (14 + 11 * (i : Int) : Int) = (11 * (i : Int) + 14) from by omega]
          refine lv_iconst (v := iZ 1) hx hb dX6_ahead_65 rfl ?_
          refine z_iadd (z := (11 * (i : Int) + 15)) hx hb (by omega) dX6_ahead_66 ?_
          refine g_iald (z := (q_dr (M 172) i)) (j := (14 + 11 * i + 1)) hx hb hG (o := 172) (hdm 172 (by decide)) rfl (by omega) (by omega) (by omega) rfl dX6_ahead_67 ?_
          refine z_icmp_ge (tgt := 75) hx hb (by omega) (by omega) dX6_ahead_68 (by decide) (fun c_68 => ?_) (fun c_68 => ?_)
          · skip
            refine lv_iconst (v := iZ 0) hx hb dX6_ahead_75 rfl ?_
            refine lv_istore (lv' := [(5, .int (iZ 0)), (4, .int (iZ 0)), (3, .int (iZ (k : Int))), (2, .int (iZ (q_ct (fun j => decide (q_hs (M 172) j = 1) && q_ah (M 172) j i) k))), (0, .ref (gad G 169)), (1, .int (iZ (i : Int)))]) hx hb dX6_ahead_76 hl (by decide) rfl (fun ls hl => ?_)
            refine lv_iload_n hx hb dX6_ahead_78 rfl (lv_at hl 3 rfl) ?_
            refine lv_aload_n hx hb dX6_ahead_79 rfl (lv_at hl 4 rfl) ?_
            refine g_get hx hb hts hinX6 hown hG (o := 169) (hdm 169 (by decide)) rfl rfl 5 (by decide) f16 (fun _ h => h) rfl dX6_ahead_80 ?_
            refine lv_iload_n hx hb dX6_ahead_83 rfl (lv_at hl 2 rfl) ?_
            refine g_callS (As := [.ref (gad G 172), .int (iZ (k : Int))]) (rest := [.int (iZ (q_ct (fun j => decide (q_hs (M 172) j = 1) && q_ah (M 172) j i) k))]) ⟨hx, hb, hml, hown, hts⟩ (c_X6_hasRun l G M hdm 172 (Or.inr (Or.inl rfl)) hI k (by omega)) (va_cwS 2 hts gX6_ahead_X6_hasRun rfl rfl rfl (by decide +kernel) ⟨Nat.le_of_ble_eq_true rfl, Nat.le_of_ble_eq_true rfl⟩) hG rfl hl.1 rfl (Nat.le_of_ble_eq_true rfl) dX6_ahead_84 ⟨Nat.zero_le _, Nat.zero_le _⟩ (fun z7 M8 H locs hp_84 hG => ?_)
            obtain ⟨hz_84, hM_84⟩ := hp_84; replace hz_84 := hz_84.symm; subst hz_84; replace hM_84 := hM_84.symm; subst hM_84
            refine z_ifP_eq (tgt := 116) hx hb dX6_ahead_87 (by decide) (fun c_87 => ?_) (fun c_87 => ?_)
            · skip
              refine lv_iconst (v := iZ 0) hx hb dX6_ahead_116 rfl ?_
              refine z_iadd (z := (q_ct (fun j => decide (q_hs (M 172) j = 1) && q_ah (M 172) j i) k)) hx hb (by omega) dX6_ahead_117 ?_
              refine lv_istore_n (lv' := [(2, .int (iZ (q_ct (fun j => decide (q_hs (M 172) j = 1) && q_ah (M 172) j i) k))), (5, .int (iZ 0)), (4, .int (iZ 0)), (3, .int (iZ (k : Int))), (0, .ref (gad G 169)), (1, .int (iZ (i : Int)))]) hx hb dX6_ahead_118 rfl hl (by decide) rfl (fun ls hl => ?_)
              refine z_iinc (z := ((k : Int) + 1)) (lv' := [(3, .int (iZ ((k : Int) + 1))), (2, .int (iZ (q_ct (fun j => decide (q_hs (M 172) j = 1) && q_ah (M 172) j i) k))), (5, .int (iZ 0)), (4, .int (iZ 0)), (0, .ref (gad G 169)), (1, .int (iZ (i : Int)))]) hx hb dX6_ahead_119 hl (k := 3) rfl (by omega) (by decide) rfl (fun ls hl => ?_)
              refine lv_goto (tgt := 4) hx hb dX6_ahead_122 (by decide) ?_
              exact ih_4 (k + 1) ((k : Int) + 1) (q_ct (fun j => decide (q_hs (M 172) j = 1) && q_ah (M 172) j i) k)  (by omega) (by rw [q_ct]; first | (exfalso; exact c_99 c_36) | (exfalso; exact c_36 c_99) | (rw [if_pos (show (decide (q_hs (M 172) k = 1) && q_ah (M 172) k i) = true by unfold q_ah; (first | rw [show decide (q_dr (M 172) k < q_dr (M 172) i) = true from decide_eq_true (by omega)] | rw [show decide (q_dr (M 172) k < q_dr (M 172) i) = false from decide_eq_false (by omega)]); (first | rw [show decide (q_hs (M 172) k = 1) = true from decide_eq_true (by omega)] | rw [show decide (q_hs (M 172) k = 1) = false from decide_eq_false (by omega)]); simp [c_24, c_87]; done)] <;> omega) | (rw [if_neg (show ¬ (decide (q_hs (M 172) k = 1) && q_ah (M 172) k i) = true by unfold q_ah; (first | rw [show decide (q_dr (M 172) k < q_dr (M 172) i) = true from decide_eq_true (by omega)] | rw [show decide (q_dr (M 172) k < q_dr (M 172) i) = false from decide_eq_false (by omega)]); (first | rw [show decide (q_hs (M 172) k = 1) = true from decide_eq_true (by omega)] | rw [show decide (q_hs (M 172) k = 1) = false from decide_eq_false (by omega)]); simp [c_24, c_87]; done)] <;> omega)) (by omega) (by omega) _ _ _ hG (lv_sub hl [0, 1, 4, 5] rfl)
            · skip
              refine lv_aload_n hx hb dX6_ahead_90 rfl (lv_at hl 4 rfl) ?_
              refine g_get hx hb hts hinX6 hown hG (o := 169) (hdm 169 (by decide)) rfl rfl 5 (by decide) f16 (fun _ h => h) rfl dX6_ahead_91 ?_
              refine lv_iload_n hx hb dX6_ahead_94 rfl (lv_at hl 2 rfl) ?_
              refine lv_iload_n hx hb dX6_ahead_95 rfl (lv_at hl 5 rfl) ?_
              refine g_callS (As := [.ref (gad G 172), .int (iZ (k : Int)), .int (iZ (i : Int))]) (rest := [.int (iZ (q_ct (fun j => decide (q_hs (M 172) j = 1) && q_ah (M 172) j i) k))]) ⟨hx, hb, hml, hown, hts⟩ (c_X6_isBetter l G M hdm 172 (Or.inr (Or.inl rfl)) hI k i (by omega) (by omega)) (va_cwS 3 hts gX6_ahead_X6_isBetter rfl rfl rfl (by decide +kernel) ⟨Nat.le_of_ble_eq_true rfl, Nat.le_of_ble_eq_true rfl⟩) hG rfl hl.1 rfl (Nat.le_of_ble_eq_true rfl) dX6_ahead_96 ⟨Nat.zero_le _, Nat.zero_le _⟩ (fun z9 M10 H locs hp_96 hG => ?_)
              obtain ⟨hz_96, hM_96⟩ := hp_96; replace hz_96 := hz_96.symm; subst hz_96; replace hM_96 := hM_96.symm; subst hM_96
              refine z_ifP_ne (tgt := 112) hx hb dX6_ahead_99 (by decide) (fun c_99 => ?_) (fun c_99 => ?_)
              · skip
                refine lv_iconst (v := iZ 1) hx hb dX6_ahead_112 rfl ?_
                refine lv_goto (tgt := 117) hx hb dX6_ahead_113 (by decide) ?_
                refine z_iadd (z := ((q_ct (fun j => decide (q_hs (M 172) j = 1) && q_ah (M 172) j i) k) + 1)) hx hb (by omega) dX6_ahead_117 ?_
                refine lv_istore_n (lv' := [(2, .int (iZ ((q_ct (fun j => decide (q_hs (M 172) j = 1) && q_ah (M 172) j i) k) + 1))), (5, .int (iZ 0)), (4, .int (iZ 0)), (3, .int (iZ (k : Int))), (0, .ref (gad G 169)), (1, .int (iZ (i : Int)))]) hx hb dX6_ahead_118 rfl hl (by decide) rfl (fun ls hl => ?_)
                refine z_iinc (z := ((k : Int) + 1)) (lv' := [(3, .int (iZ ((k : Int) + 1))), (2, .int (iZ ((q_ct (fun j => decide (q_hs (M 172) j = 1) && q_ah (M 172) j i) k) + 1))), (5, .int (iZ 0)), (4, .int (iZ 0)), (0, .ref (gad G 169)), (1, .int (iZ (i : Int)))]) hx hb dX6_ahead_119 hl (k := 3) rfl (by omega) (by decide) rfl (fun ls hl => ?_)
                refine lv_goto (tgt := 4) hx hb dX6_ahead_122 (by decide) ?_
                exact ih_4 (k + 1) ((k : Int) + 1) ((q_ct (fun j => decide (q_hs (M 172) j = 1) && q_ah (M 172) j i) k) + 1)  (by omega) (by rw [q_ct]; first | (exfalso; exact c_99 c_36) | (exfalso; exact c_36 c_99) | (rw [if_pos (show (decide (q_hs (M 172) k = 1) && q_ah (M 172) k i) = true by unfold q_ah; (first | rw [show decide (q_dr (M 172) k < q_dr (M 172) i) = true from decide_eq_true (by omega)] | rw [show decide (q_dr (M 172) k < q_dr (M 172) i) = false from decide_eq_false (by omega)]); (first | rw [show decide (q_hs (M 172) k = 1) = true from decide_eq_true (by omega)] | rw [show decide (q_hs (M 172) k = 1) = false from decide_eq_false (by omega)]); simp [c_24, c_87, c_99]; done)] <;> omega) | (rw [if_neg (show ¬ (decide (q_hs (M 172) k = 1) && q_ah (M 172) k i) = true by unfold q_ah; (first | rw [show decide (q_dr (M 172) k < q_dr (M 172) i) = true from decide_eq_true (by omega)] | rw [show decide (q_dr (M 172) k < q_dr (M 172) i) = false from decide_eq_false (by omega)]); (first | rw [show decide (q_hs (M 172) k = 1) = true from decide_eq_true (by omega)] | rw [show decide (q_hs (M 172) k = 1) = false from decide_eq_false (by omega)]); simp [c_24, c_87, c_99]; done)] <;> omega)) (by omega) (by omega) _ _ _ hG (lv_sub hl [0, 1, 4, 5] rfl)
              · skip
                refine lv_iload hx hb dX6_ahead_102 (lv_at hl 1 rfl) ?_
                refine z_if_eq (tgt := 116) hx hb (by decide) dX6_ahead_104 (by decide) (fun c_104 => ?_) (fun c_104 => ?_)
                · skip
                  refine lv_iconst (v := iZ 0) hx hb dX6_ahead_116 rfl ?_
                  refine z_iadd (z := (q_ct (fun j => decide (q_hs (M 172) j = 1) && q_ah (M 172) j i) k)) hx hb (by omega) dX6_ahead_117 ?_
                  refine lv_istore_n (lv' := [(2, .int (iZ (q_ct (fun j => decide (q_hs (M 172) j = 1) && q_ah (M 172) j i) k))), (5, .int (iZ 0)), (4, .int (iZ 0)), (3, .int (iZ (k : Int))), (0, .ref (gad G 169)), (1, .int (iZ (i : Int)))]) hx hb dX6_ahead_118 rfl hl (by decide) rfl (fun ls hl => ?_)
                  refine z_iinc (z := ((k : Int) + 1)) (lv' := [(3, .int (iZ ((k : Int) + 1))), (2, .int (iZ (q_ct (fun j => decide (q_hs (M 172) j = 1) && q_ah (M 172) j i) k))), (5, .int (iZ 0)), (4, .int (iZ 0)), (0, .ref (gad G 169)), (1, .int (iZ (i : Int)))]) hx hb dX6_ahead_119 hl (k := 3) rfl (by omega) (by decide) rfl (fun ls hl => ?_)
                  refine lv_goto (tgt := 4) hx hb dX6_ahead_122 (by decide) ?_
                  exact ih_4 (k + 1) ((k : Int) + 1) (q_ct (fun j => decide (q_hs (M 172) j = 1) && q_ah (M 172) j i) k)  (by omega) (by rw [q_ct]; first | (exfalso; exact c_99 c_36) | (exfalso; exact c_36 c_99) | (rw [if_pos (show (decide (q_hs (M 172) k = 1) && q_ah (M 172) k i) = true by unfold q_ah; (first | rw [show decide (q_dr (M 172) k < q_dr (M 172) i) = true from decide_eq_true (by omega)] | rw [show decide (q_dr (M 172) k < q_dr (M 172) i) = false from decide_eq_false (by omega)]); (first | rw [show decide (q_hs (M 172) k = 1) = true from decide_eq_true (by omega)] | rw [show decide (q_hs (M 172) k = 1) = false from decide_eq_false (by omega)]); simp [c_24, c_87, c_99]; done)] <;> omega) | (rw [if_neg (show ¬ (decide (q_hs (M 172) k = 1) && q_ah (M 172) k i) = true by unfold q_ah; (first | rw [show decide (q_dr (M 172) k < q_dr (M 172) i) = true from decide_eq_true (by omega)] | rw [show decide (q_dr (M 172) k < q_dr (M 172) i) = false from decide_eq_false (by omega)]); (first | rw [show decide (q_hs (M 172) k = 1) = true from decide_eq_true (by omega)] | rw [show decide (q_hs (M 172) k = 1) = false from decide_eq_false (by omega)]); simp [c_24, c_87, c_99]; done)] <;> omega)) (by omega) (by omega) _ _ _ hG (lv_sub hl [0, 1, 4, 5] rfl)
                · exfalso; omega
          · skip
            refine lv_iconst (v := iZ 1) hx hb dX6_ahead_71 rfl ?_
            refine lv_goto (tgt := 76) hx hb dX6_ahead_72 (by decide) ?_
            refine lv_istore (lv' := [(5, .int (iZ 1)), (4, .int (iZ 0)), (3, .int (iZ (k : Int))), (2, .int (iZ (q_ct (fun j => decide (q_hs (M 172) j = 1) && q_ah (M 172) j i) k))), (0, .ref (gad G 169)), (1, .int (iZ (i : Int)))]) hx hb dX6_ahead_76 hl (by decide) rfl (fun ls hl => ?_)
            refine lv_iload_n hx hb dX6_ahead_78 rfl (lv_at hl 3 rfl) ?_
            refine lv_aload_n hx hb dX6_ahead_79 rfl (lv_at hl 4 rfl) ?_
            refine g_get hx hb hts hinX6 hown hG (o := 169) (hdm 169 (by decide)) rfl rfl 5 (by decide) f16 (fun _ h => h) rfl dX6_ahead_80 ?_
            refine lv_iload_n hx hb dX6_ahead_83 rfl (lv_at hl 2 rfl) ?_
            refine g_callS (As := [.ref (gad G 172), .int (iZ (k : Int))]) (rest := [.int (iZ (q_ct (fun j => decide (q_hs (M 172) j = 1) && q_ah (M 172) j i) k))]) ⟨hx, hb, hml, hown, hts⟩ (c_X6_hasRun l G M hdm 172 (Or.inr (Or.inl rfl)) hI k (by omega)) (va_cwS 2 hts gX6_ahead_X6_hasRun rfl rfl rfl (by decide +kernel) ⟨Nat.le_of_ble_eq_true rfl, Nat.le_of_ble_eq_true rfl⟩) hG rfl hl.1 rfl (Nat.le_of_ble_eq_true rfl) dX6_ahead_84 ⟨Nat.zero_le _, Nat.zero_le _⟩ (fun z11 M12 H locs hp_84 hG => ?_)
            obtain ⟨hz_84, hM_84⟩ := hp_84; replace hz_84 := hz_84.symm; subst hz_84; replace hM_84 := hM_84.symm; subst hM_84
            refine z_ifP_eq (tgt := 116) hx hb dX6_ahead_87 (by decide) (fun c_87 => ?_) (fun c_87 => ?_)
            · skip
              refine lv_iconst (v := iZ 0) hx hb dX6_ahead_116 rfl ?_
              refine z_iadd (z := (q_ct (fun j => decide (q_hs (M 172) j = 1) && q_ah (M 172) j i) k)) hx hb (by omega) dX6_ahead_117 ?_
              refine lv_istore_n (lv' := [(2, .int (iZ (q_ct (fun j => decide (q_hs (M 172) j = 1) && q_ah (M 172) j i) k))), (5, .int (iZ 1)), (4, .int (iZ 0)), (3, .int (iZ (k : Int))), (0, .ref (gad G 169)), (1, .int (iZ (i : Int)))]) hx hb dX6_ahead_118 rfl hl (by decide) rfl (fun ls hl => ?_)
              refine z_iinc (z := ((k : Int) + 1)) (lv' := [(3, .int (iZ ((k : Int) + 1))), (2, .int (iZ (q_ct (fun j => decide (q_hs (M 172) j = 1) && q_ah (M 172) j i) k))), (5, .int (iZ 1)), (4, .int (iZ 0)), (0, .ref (gad G 169)), (1, .int (iZ (i : Int)))]) hx hb dX6_ahead_119 hl (k := 3) rfl (by omega) (by decide) rfl (fun ls hl => ?_)
              refine lv_goto (tgt := 4) hx hb dX6_ahead_122 (by decide) ?_
              exact ih_4 (k + 1) ((k : Int) + 1) (q_ct (fun j => decide (q_hs (M 172) j = 1) && q_ah (M 172) j i) k)  (by omega) (by rw [q_ct]; first | (exfalso; exact c_99 c_36) | (exfalso; exact c_36 c_99) | (rw [if_pos (show (decide (q_hs (M 172) k = 1) && q_ah (M 172) k i) = true by unfold q_ah; (first | rw [show decide (q_dr (M 172) k < q_dr (M 172) i) = true from decide_eq_true (by omega)] | rw [show decide (q_dr (M 172) k < q_dr (M 172) i) = false from decide_eq_false (by omega)]); (first | rw [show decide (q_hs (M 172) k = 1) = true from decide_eq_true (by omega)] | rw [show decide (q_hs (M 172) k = 1) = false from decide_eq_false (by omega)]); simp [c_24, c_87]; done)] <;> omega) | (rw [if_neg (show ¬ (decide (q_hs (M 172) k = 1) && q_ah (M 172) k i) = true by unfold q_ah; (first | rw [show decide (q_dr (M 172) k < q_dr (M 172) i) = true from decide_eq_true (by omega)] | rw [show decide (q_dr (M 172) k < q_dr (M 172) i) = false from decide_eq_false (by omega)]); (first | rw [show decide (q_hs (M 172) k = 1) = true from decide_eq_true (by omega)] | rw [show decide (q_hs (M 172) k = 1) = false from decide_eq_false (by omega)]); simp [c_24, c_87]; done)] <;> omega)) (by omega) (by omega) _ _ _ hG (lv_sub hl [0, 1, 4, 5] rfl)
            · skip
              refine lv_aload_n hx hb dX6_ahead_90 rfl (lv_at hl 4 rfl) ?_
              refine g_get hx hb hts hinX6 hown hG (o := 169) (hdm 169 (by decide)) rfl rfl 5 (by decide) f16 (fun _ h => h) rfl dX6_ahead_91 ?_
              refine lv_iload_n hx hb dX6_ahead_94 rfl (lv_at hl 2 rfl) ?_
              refine lv_iload_n hx hb dX6_ahead_95 rfl (lv_at hl 5 rfl) ?_
              refine g_callS (As := [.ref (gad G 172), .int (iZ (k : Int)), .int (iZ (i : Int))]) (rest := [.int (iZ (q_ct (fun j => decide (q_hs (M 172) j = 1) && q_ah (M 172) j i) k))]) ⟨hx, hb, hml, hown, hts⟩ (c_X6_isBetter l G M hdm 172 (Or.inr (Or.inl rfl)) hI k i (by omega) (by omega)) (va_cwS 3 hts gX6_ahead_X6_isBetter rfl rfl rfl (by decide +kernel) ⟨Nat.le_of_ble_eq_true rfl, Nat.le_of_ble_eq_true rfl⟩) hG rfl hl.1 rfl (Nat.le_of_ble_eq_true rfl) dX6_ahead_96 ⟨Nat.zero_le _, Nat.zero_le _⟩ (fun z13 M14 H locs hp_96 hG => ?_)
              obtain ⟨hz_96, hM_96⟩ := hp_96; replace hz_96 := hz_96.symm; subst hz_96; replace hM_96 := hM_96.symm; subst hM_96
              refine z_ifP_ne (tgt := 112) hx hb dX6_ahead_99 (by decide) (fun c_99 => ?_) (fun c_99 => ?_)
              · skip
                refine lv_iconst (v := iZ 1) hx hb dX6_ahead_112 rfl ?_
                refine lv_goto (tgt := 117) hx hb dX6_ahead_113 (by decide) ?_
                refine z_iadd (z := ((q_ct (fun j => decide (q_hs (M 172) j = 1) && q_ah (M 172) j i) k) + 1)) hx hb (by omega) dX6_ahead_117 ?_
                refine lv_istore_n (lv' := [(2, .int (iZ ((q_ct (fun j => decide (q_hs (M 172) j = 1) && q_ah (M 172) j i) k) + 1))), (5, .int (iZ 1)), (4, .int (iZ 0)), (3, .int (iZ (k : Int))), (0, .ref (gad G 169)), (1, .int (iZ (i : Int)))]) hx hb dX6_ahead_118 rfl hl (by decide) rfl (fun ls hl => ?_)
                refine z_iinc (z := ((k : Int) + 1)) (lv' := [(3, .int (iZ ((k : Int) + 1))), (2, .int (iZ ((q_ct (fun j => decide (q_hs (M 172) j = 1) && q_ah (M 172) j i) k) + 1))), (5, .int (iZ 1)), (4, .int (iZ 0)), (0, .ref (gad G 169)), (1, .int (iZ (i : Int)))]) hx hb dX6_ahead_119 hl (k := 3) rfl (by omega) (by decide) rfl (fun ls hl => ?_)
                refine lv_goto (tgt := 4) hx hb dX6_ahead_122 (by decide) ?_
                exact ih_4 (k + 1) ((k : Int) + 1) ((q_ct (fun j => decide (q_hs (M 172) j = 1) && q_ah (M 172) j i) k) + 1)  (by omega) (by rw [q_ct]; first | (exfalso; exact c_99 c_36) | (exfalso; exact c_36 c_99) | (rw [if_pos (show (decide (q_hs (M 172) k = 1) && q_ah (M 172) k i) = true by unfold q_ah; (first | rw [show decide (q_dr (M 172) k < q_dr (M 172) i) = true from decide_eq_true (by omega)] | rw [show decide (q_dr (M 172) k < q_dr (M 172) i) = false from decide_eq_false (by omega)]); (first | rw [show decide (q_hs (M 172) k = 1) = true from decide_eq_true (by omega)] | rw [show decide (q_hs (M 172) k = 1) = false from decide_eq_false (by omega)]); simp [c_24, c_87, c_99]; done)] <;> omega) | (rw [if_neg (show ¬ (decide (q_hs (M 172) k = 1) && q_ah (M 172) k i) = true by unfold q_ah; (first | rw [show decide (q_dr (M 172) k < q_dr (M 172) i) = true from decide_eq_true (by omega)] | rw [show decide (q_dr (M 172) k < q_dr (M 172) i) = false from decide_eq_false (by omega)]); (first | rw [show decide (q_hs (M 172) k = 1) = true from decide_eq_true (by omega)] | rw [show decide (q_hs (M 172) k = 1) = false from decide_eq_false (by omega)]); simp [c_24, c_87, c_99]; done)] <;> omega)) (by omega) (by omega) _ _ _ hG (lv_sub hl [0, 1, 4, 5] rfl)
              · skip
                refine lv_iload hx hb dX6_ahead_102 (lv_at hl 1 rfl) ?_
                refine z_if_eq (tgt := 116) hx hb (by decide) dX6_ahead_104 (by decide) (fun c_104 => ?_) (fun c_104 => ?_)
                · skip
                  refine lv_iconst (v := iZ 0) hx hb dX6_ahead_116 rfl ?_
                  refine z_iadd (z := (q_ct (fun j => decide (q_hs (M 172) j = 1) && q_ah (M 172) j i) k)) hx hb (by omega) dX6_ahead_117 ?_
                  refine lv_istore_n (lv' := [(2, .int (iZ (q_ct (fun j => decide (q_hs (M 172) j = 1) && q_ah (M 172) j i) k))), (5, .int (iZ 1)), (4, .int (iZ 0)), (3, .int (iZ (k : Int))), (0, .ref (gad G 169)), (1, .int (iZ (i : Int)))]) hx hb dX6_ahead_118 rfl hl (by decide) rfl (fun ls hl => ?_)
                  refine z_iinc (z := ((k : Int) + 1)) (lv' := [(3, .int (iZ ((k : Int) + 1))), (2, .int (iZ (q_ct (fun j => decide (q_hs (M 172) j = 1) && q_ah (M 172) j i) k))), (5, .int (iZ 1)), (4, .int (iZ 0)), (0, .ref (gad G 169)), (1, .int (iZ (i : Int)))]) hx hb dX6_ahead_119 hl (k := 3) rfl (by omega) (by decide) rfl (fun ls hl => ?_)
                  refine lv_goto (tgt := 4) hx hb dX6_ahead_122 (by decide) ?_
                  exact ih_4 (k + 1) ((k : Int) + 1) (q_ct (fun j => decide (q_hs (M 172) j = 1) && q_ah (M 172) j i) k)  (by omega) (by rw [q_ct]; first | (exfalso; exact c_99 c_36) | (exfalso; exact c_36 c_99) | (rw [if_pos (show (decide (q_hs (M 172) k = 1) && q_ah (M 172) k i) = true by unfold q_ah; (first | rw [show decide (q_dr (M 172) k < q_dr (M 172) i) = true from decide_eq_true (by omega)] | rw [show decide (q_dr (M 172) k < q_dr (M 172) i) = false from decide_eq_false (by omega)]); (first | rw [show decide (q_hs (M 172) k = 1) = true from decide_eq_true (by omega)] | rw [show decide (q_hs (M 172) k = 1) = false from decide_eq_false (by omega)]); simp [c_24, c_87, c_99]; done)] <;> omega) | (rw [if_neg (show ¬ (decide (q_hs (M 172) k = 1) && q_ah (M 172) k i) = true by unfold q_ah; (first | rw [show decide (q_dr (M 172) k < q_dr (M 172) i) = true from decide_eq_true (by omega)] | rw [show decide (q_dr (M 172) k < q_dr (M 172) i) = false from decide_eq_false (by omega)]); (first | rw [show decide (q_hs (M 172) k = 1) = true from decide_eq_true (by omega)] | rw [show decide (q_hs (M 172) k = 1) = false from decide_eq_false (by omega)]); simp [c_24, c_87, c_99]; done)] <;> omega)) (by omega) (by omega) _ _ _ hG (lv_sub hl [0, 1, 4, 5] rfl)
                · exfalso; omega
        · skip
          refine lv_aload_n hx hb dX6_ahead_27 rfl (lv_at hl 2 rfl) ?_
          refine g_get hx hb hts hinX6 hown hG (o := 169) (hdm 169 (by decide)) rfl rfl 5 (by decide) f16 (fun _ h => h) rfl dX6_ahead_28 ?_
          refine lv_iload_n hx hb dX6_ahead_31 rfl (lv_at hl 0 rfl) ?_
          refine lv_iload_n hx hb dX6_ahead_32 rfl (lv_at hl 3 rfl) ?_
          refine g_callS (As := [.ref (gad G 172), .int (iZ (k : Int)), .int (iZ (i : Int))]) (rest := []) ⟨hx, hb, hml, hown, hts⟩ (c_X6_isBetter l G M hdm 172 (Or.inr (Or.inl rfl)) hI k i (by omega) (by omega)) (va_cwS 3 hts gX6_ahead_X6_isBetter rfl rfl rfl (by decide +kernel) ⟨Nat.le_of_ble_eq_true rfl, Nat.le_of_ble_eq_true rfl⟩) hG rfl hl.1 rfl (Nat.le_of_ble_eq_true rfl) dX6_ahead_33 ⟨Nat.zero_le _, Nat.zero_le _⟩ (fun z15 M16 H locs hp_33 hG => ?_)
          obtain ⟨hz_33, hM_33⟩ := hp_33; replace hz_33 := hz_33.symm; subst hz_33; replace hM_33 := hM_33.symm; subst hM_33
          refine z_ifP_ne (tgt := 43) hx hb dX6_ahead_36 (by decide) (fun c_36 => ?_) (fun c_36 => ?_)
          · skip
            refine lv_iconst (v := iZ 0) hx hb dX6_ahead_43 rfl ?_
            refine lv_istore (lv' := [(4, .int (iZ 0)), (3, .int (iZ (k : Int))), (2, .int (iZ (q_ct (fun j => decide (q_hs (M 172) j = 1) && q_ah (M 172) j i) k))), (0, .ref (gad G 169)), (1, .int (iZ (i : Int)))]) hx hb dX6_ahead_44 hl (by decide) rfl (fun ls hl => ?_)
            refine lv_aload_n hx hb dX6_ahead_46 rfl (lv_at hl 3 rfl) ?_
            refine g_get hx hb hts hinX6 hown hG (o := 169) (hdm 169 (by decide)) rfl rfl 5 (by decide) f16 (fun _ h => h) rfl dX6_ahead_47 ?_
            refine lv_iload_n hx hb dX6_ahead_50 rfl (lv_at hl 1 rfl) ?_
            refine g_callS (As := [.int (iZ (k : Int))]) (rest := [.ref (gad G 172)]) ⟨hx, hb, hml, hown, hts⟩ (c_X6_dogAt l G M (k : Int)) (va_cwS 1 hts gX6_ahead_X6_dogAt rfl rfl rfl (by decide +kernel) ⟨Nat.le_of_ble_eq_true rfl, Nat.le_of_ble_eq_true rfl⟩) hG rfl hl.1 rfl (Nat.le_of_ble_eq_true rfl) dX6_ahead_51 ⟨Nat.zero_le _, Nat.zero_le _⟩ (fun z17 M18 H locs hp_51 hG => ?_)
            obtain ⟨hz_51, hM_51⟩ := hp_51; replace hz_51 := hz_51.symm; subst hz_51; replace hM_51 := hM_51.symm; subst hM_51
            rw [show (14 + 11 * (k : Int) : Int) = (11 * (k : Int) + 14) from by omega]
            refine lv_iconst (v := iZ 1) hx hb dX6_ahead_54 rfl ?_
            refine z_iadd (z := (11 * (k : Int) + 15)) hx hb (by omega) dX6_ahead_55 ?_
            refine g_iald (z := (q_dr (M 172) k)) (j := (14 + 11 * k + 1)) hx hb hG (o := 172) (hdm 172 (by decide)) rfl (by omega) (by omega) (by omega) rfl dX6_ahead_56 ?_
            refine lv_aload_n hx hb dX6_ahead_57 rfl (lv_at hl 3 rfl) ?_
            refine g_get hx hb hts hinX6 hown hG (o := 169) (hdm 169 (by decide)) rfl rfl 5 (by decide) f16 (fun _ h => h) rfl dX6_ahead_58 ?_
            refine lv_iload_n hx hb dX6_ahead_61 rfl (lv_at hl 4 rfl) ?_
            refine g_callS (As := [.int (iZ (i : Int))]) (rest := [.ref (gad G 172), .int (iZ (q_dr (M 172) k))]) ⟨hx, hb, hml, hown, hts⟩ (c_X6_dogAt l G M (i : Int)) (va_cwS 1 hts gX6_ahead_X6_dogAt rfl rfl rfl (by decide +kernel) ⟨Nat.le_of_ble_eq_true rfl, Nat.le_of_ble_eq_true rfl⟩) hG rfl hl.1 rfl (Nat.le_of_ble_eq_true rfl) dX6_ahead_62 ⟨Nat.zero_le _, Nat.zero_le _⟩ (fun z19 M20 H locs hp_62 hG => ?_)
            obtain ⟨hz_62, hM_62⟩ := hp_62; replace hz_62 := hz_62.symm; subst hz_62; replace hM_62 := hM_62.symm; subst hM_62
            rw [show (14 + 11 * (i : Int) : Int) = (11 * (i : Int) + 14) from by omega]
            refine lv_iconst (v := iZ 1) hx hb dX6_ahead_65 rfl ?_
            refine z_iadd (z := (11 * (i : Int) + 15)) hx hb (by omega) dX6_ahead_66 ?_
            refine g_iald (z := (q_dr (M 172) i)) (j := (14 + 11 * i + 1)) hx hb hG (o := 172) (hdm 172 (by decide)) rfl (by omega) (by omega) (by omega) rfl dX6_ahead_67 ?_
            refine z_icmp_ge (tgt := 75) hx hb (by omega) (by omega) dX6_ahead_68 (by decide) (fun c_68 => ?_) (fun c_68 => ?_)
            · skip
              refine lv_iconst (v := iZ 0) hx hb dX6_ahead_75 rfl ?_
              refine lv_istore (lv' := [(5, .int (iZ 0)), (4, .int (iZ 0)), (3, .int (iZ (k : Int))), (2, .int (iZ (q_ct (fun j => decide (q_hs (M 172) j = 1) && q_ah (M 172) j i) k))), (0, .ref (gad G 169)), (1, .int (iZ (i : Int)))]) hx hb dX6_ahead_76 hl (by decide) rfl (fun ls hl => ?_)
              refine lv_iload_n hx hb dX6_ahead_78 rfl (lv_at hl 3 rfl) ?_
              refine lv_aload_n hx hb dX6_ahead_79 rfl (lv_at hl 4 rfl) ?_
              refine g_get hx hb hts hinX6 hown hG (o := 169) (hdm 169 (by decide)) rfl rfl 5 (by decide) f16 (fun _ h => h) rfl dX6_ahead_80 ?_
              refine lv_iload_n hx hb dX6_ahead_83 rfl (lv_at hl 2 rfl) ?_
              refine g_callS (As := [.ref (gad G 172), .int (iZ (k : Int))]) (rest := [.int (iZ (q_ct (fun j => decide (q_hs (M 172) j = 1) && q_ah (M 172) j i) k))]) ⟨hx, hb, hml, hown, hts⟩ (c_X6_hasRun l G M hdm 172 (Or.inr (Or.inl rfl)) hI k (by omega)) (va_cwS 2 hts gX6_ahead_X6_hasRun rfl rfl rfl (by decide +kernel) ⟨Nat.le_of_ble_eq_true rfl, Nat.le_of_ble_eq_true rfl⟩) hG rfl hl.1 rfl (Nat.le_of_ble_eq_true rfl) dX6_ahead_84 ⟨Nat.zero_le _, Nat.zero_le _⟩ (fun z21 M22 H locs hp_84 hG => ?_)
              obtain ⟨hz_84, hM_84⟩ := hp_84; replace hz_84 := hz_84.symm; subst hz_84; replace hM_84 := hM_84.symm; subst hM_84
              refine z_ifP_eq (tgt := 116) hx hb dX6_ahead_87 (by decide) (fun c_87 => ?_) (fun c_87 => ?_)
              · skip
                refine lv_iconst (v := iZ 0) hx hb dX6_ahead_116 rfl ?_
                refine z_iadd (z := (q_ct (fun j => decide (q_hs (M 172) j = 1) && q_ah (M 172) j i) k)) hx hb (by omega) dX6_ahead_117 ?_
                refine lv_istore_n (lv' := [(2, .int (iZ (q_ct (fun j => decide (q_hs (M 172) j = 1) && q_ah (M 172) j i) k))), (5, .int (iZ 0)), (4, .int (iZ 0)), (3, .int (iZ (k : Int))), (0, .ref (gad G 169)), (1, .int (iZ (i : Int)))]) hx hb dX6_ahead_118 rfl hl (by decide) rfl (fun ls hl => ?_)
                refine z_iinc (z := ((k : Int) + 1)) (lv' := [(3, .int (iZ ((k : Int) + 1))), (2, .int (iZ (q_ct (fun j => decide (q_hs (M 172) j = 1) && q_ah (M 172) j i) k))), (5, .int (iZ 0)), (4, .int (iZ 0)), (0, .ref (gad G 169)), (1, .int (iZ (i : Int)))]) hx hb dX6_ahead_119 hl (k := 3) rfl (by omega) (by decide) rfl (fun ls hl => ?_)
                refine lv_goto (tgt := 4) hx hb dX6_ahead_122 (by decide) ?_
                exact ih_4 (k + 1) ((k : Int) + 1) (q_ct (fun j => decide (q_hs (M 172) j = 1) && q_ah (M 172) j i) k)  (by omega) (by rw [q_ct]; first | (exfalso; exact c_99 c_36) | (exfalso; exact c_36 c_99) | (rw [if_pos (show (decide (q_hs (M 172) k = 1) && q_ah (M 172) k i) = true by unfold q_ah; (first | rw [show decide (q_dr (M 172) k < q_dr (M 172) i) = true from decide_eq_true (by omega)] | rw [show decide (q_dr (M 172) k < q_dr (M 172) i) = false from decide_eq_false (by omega)]); (first | rw [show decide (q_hs (M 172) k = 1) = true from decide_eq_true (by omega)] | rw [show decide (q_hs (M 172) k = 1) = false from decide_eq_false (by omega)]); simp [c_24, c_36, c_87]; done)] <;> omega) | (rw [if_neg (show ¬ (decide (q_hs (M 172) k = 1) && q_ah (M 172) k i) = true by unfold q_ah; (first | rw [show decide (q_dr (M 172) k < q_dr (M 172) i) = true from decide_eq_true (by omega)] | rw [show decide (q_dr (M 172) k < q_dr (M 172) i) = false from decide_eq_false (by omega)]); (first | rw [show decide (q_hs (M 172) k = 1) = true from decide_eq_true (by omega)] | rw [show decide (q_hs (M 172) k = 1) = false from decide_eq_false (by omega)]); simp [c_24, c_36, c_87]; done)] <;> omega)) (by omega) (by omega) _ _ _ hG (lv_sub hl [0, 1, 4, 5] rfl)
              · skip
                refine lv_aload_n hx hb dX6_ahead_90 rfl (lv_at hl 4 rfl) ?_
                refine g_get hx hb hts hinX6 hown hG (o := 169) (hdm 169 (by decide)) rfl rfl 5 (by decide) f16 (fun _ h => h) rfl dX6_ahead_91 ?_
                refine lv_iload_n hx hb dX6_ahead_94 rfl (lv_at hl 2 rfl) ?_
                refine lv_iload_n hx hb dX6_ahead_95 rfl (lv_at hl 5 rfl) ?_
                refine g_callS (As := [.ref (gad G 172), .int (iZ (k : Int)), .int (iZ (i : Int))]) (rest := [.int (iZ (q_ct (fun j => decide (q_hs (M 172) j = 1) && q_ah (M 172) j i) k))]) ⟨hx, hb, hml, hown, hts⟩ (c_X6_isBetter l G M hdm 172 (Or.inr (Or.inl rfl)) hI k i (by omega) (by omega)) (va_cwS 3 hts gX6_ahead_X6_isBetter rfl rfl rfl (by decide +kernel) ⟨Nat.le_of_ble_eq_true rfl, Nat.le_of_ble_eq_true rfl⟩) hG rfl hl.1 rfl (Nat.le_of_ble_eq_true rfl) dX6_ahead_96 ⟨Nat.zero_le _, Nat.zero_le _⟩ (fun z23 M24 H locs hp_96 hG => ?_)
                obtain ⟨hz_96, hM_96⟩ := hp_96; replace hz_96 := hz_96.symm; subst hz_96; replace hM_96 := hM_96.symm; subst hM_96
                refine z_ifP_ne (tgt := 112) hx hb dX6_ahead_99 (by decide) (fun c_99 => ?_) (fun c_99 => ?_)
                · skip
                  refine lv_iconst (v := iZ 1) hx hb dX6_ahead_112 rfl ?_
                  refine lv_goto (tgt := 117) hx hb dX6_ahead_113 (by decide) ?_
                  refine z_iadd (z := ((q_ct (fun j => decide (q_hs (M 172) j = 1) && q_ah (M 172) j i) k) + 1)) hx hb (by omega) dX6_ahead_117 ?_
                  refine lv_istore_n (lv' := [(2, .int (iZ ((q_ct (fun j => decide (q_hs (M 172) j = 1) && q_ah (M 172) j i) k) + 1))), (5, .int (iZ 0)), (4, .int (iZ 0)), (3, .int (iZ (k : Int))), (0, .ref (gad G 169)), (1, .int (iZ (i : Int)))]) hx hb dX6_ahead_118 rfl hl (by decide) rfl (fun ls hl => ?_)
                  refine z_iinc (z := ((k : Int) + 1)) (lv' := [(3, .int (iZ ((k : Int) + 1))), (2, .int (iZ ((q_ct (fun j => decide (q_hs (M 172) j = 1) && q_ah (M 172) j i) k) + 1))), (5, .int (iZ 0)), (4, .int (iZ 0)), (0, .ref (gad G 169)), (1, .int (iZ (i : Int)))]) hx hb dX6_ahead_119 hl (k := 3) rfl (by omega) (by decide) rfl (fun ls hl => ?_)
                  refine lv_goto (tgt := 4) hx hb dX6_ahead_122 (by decide) ?_
                  exact ih_4 (k + 1) ((k : Int) + 1) ((q_ct (fun j => decide (q_hs (M 172) j = 1) && q_ah (M 172) j i) k) + 1)  (by omega) (by rw [q_ct]; first | (exfalso; exact c_99 c_36) | (exfalso; exact c_36 c_99) | (rw [if_pos (show (decide (q_hs (M 172) k = 1) && q_ah (M 172) k i) = true by unfold q_ah; (first | rw [show decide (q_dr (M 172) k < q_dr (M 172) i) = true from decide_eq_true (by omega)] | rw [show decide (q_dr (M 172) k < q_dr (M 172) i) = false from decide_eq_false (by omega)]); (first | rw [show decide (q_hs (M 172) k = 1) = true from decide_eq_true (by omega)] | rw [show decide (q_hs (M 172) k = 1) = false from decide_eq_false (by omega)]); simp [c_24, c_36, c_87, c_99]; done)] <;> omega) | (rw [if_neg (show ¬ (decide (q_hs (M 172) k = 1) && q_ah (M 172) k i) = true by unfold q_ah; (first | rw [show decide (q_dr (M 172) k < q_dr (M 172) i) = true from decide_eq_true (by omega)] | rw [show decide (q_dr (M 172) k < q_dr (M 172) i) = false from decide_eq_false (by omega)]); (first | rw [show decide (q_hs (M 172) k = 1) = true from decide_eq_true (by omega)] | rw [show decide (q_hs (M 172) k = 1) = false from decide_eq_false (by omega)]); simp [c_24, c_36, c_87, c_99]; done)] <;> omega)) (by omega) (by omega) _ _ _ hG (lv_sub hl [0, 1, 4, 5] rfl)
                · skip
                  refine lv_iload hx hb dX6_ahead_102 (lv_at hl 1 rfl) ?_
                  refine z_if_eq (tgt := 116) hx hb (by decide) dX6_ahead_104 (by decide) (fun c_104 => ?_) (fun c_104 => ?_)
                  · skip
                    refine lv_iconst (v := iZ 0) hx hb dX6_ahead_116 rfl ?_
                    refine z_iadd (z := (q_ct (fun j => decide (q_hs (M 172) j = 1) && q_ah (M 172) j i) k)) hx hb (by omega) dX6_ahead_117 ?_
                    refine lv_istore_n (lv' := [(2, .int (iZ (q_ct (fun j => decide (q_hs (M 172) j = 1) && q_ah (M 172) j i) k))), (5, .int (iZ 0)), (4, .int (iZ 0)), (3, .int (iZ (k : Int))), (0, .ref (gad G 169)), (1, .int (iZ (i : Int)))]) hx hb dX6_ahead_118 rfl hl (by decide) rfl (fun ls hl => ?_)
                    refine z_iinc (z := ((k : Int) + 1)) (lv' := [(3, .int (iZ ((k : Int) + 1))), (2, .int (iZ (q_ct (fun j => decide (q_hs (M 172) j = 1) && q_ah (M 172) j i) k))), (5, .int (iZ 0)), (4, .int (iZ 0)), (0, .ref (gad G 169)), (1, .int (iZ (i : Int)))]) hx hb dX6_ahead_119 hl (k := 3) rfl (by omega) (by decide) rfl (fun ls hl => ?_)
                    refine lv_goto (tgt := 4) hx hb dX6_ahead_122 (by decide) ?_
                    exact ih_4 (k + 1) ((k : Int) + 1) (q_ct (fun j => decide (q_hs (M 172) j = 1) && q_ah (M 172) j i) k)  (by omega) (by rw [q_ct]; first | (exfalso; exact c_99 c_36) | (exfalso; exact c_36 c_99) | (rw [if_pos (show (decide (q_hs (M 172) k = 1) && q_ah (M 172) k i) = true by unfold q_ah; (first | rw [show decide (q_dr (M 172) k < q_dr (M 172) i) = true from decide_eq_true (by omega)] | rw [show decide (q_dr (M 172) k < q_dr (M 172) i) = false from decide_eq_false (by omega)]); (first | rw [show decide (q_hs (M 172) k = 1) = true from decide_eq_true (by omega)] | rw [show decide (q_hs (M 172) k = 1) = false from decide_eq_false (by omega)]); simp [c_24, c_36, c_87, c_99]; done)] <;> omega) | (rw [if_neg (show ¬ (decide (q_hs (M 172) k = 1) && q_ah (M 172) k i) = true by unfold q_ah; (first | rw [show decide (q_dr (M 172) k < q_dr (M 172) i) = true from decide_eq_true (by omega)] | rw [show decide (q_dr (M 172) k < q_dr (M 172) i) = false from decide_eq_false (by omega)]); (first | rw [show decide (q_hs (M 172) k = 1) = true from decide_eq_true (by omega)] | rw [show decide (q_hs (M 172) k = 1) = false from decide_eq_false (by omega)]); simp [c_24, c_36, c_87, c_99]; done)] <;> omega)) (by omega) (by omega) _ _ _ hG (lv_sub hl [0, 1, 4, 5] rfl)
                  · exfalso; omega
            · skip
              refine lv_iconst (v := iZ 1) hx hb dX6_ahead_71 rfl ?_
              refine lv_goto (tgt := 76) hx hb dX6_ahead_72 (by decide) ?_
              refine lv_istore (lv' := [(5, .int (iZ 1)), (4, .int (iZ 0)), (3, .int (iZ (k : Int))), (2, .int (iZ (q_ct (fun j => decide (q_hs (M 172) j = 1) && q_ah (M 172) j i) k))), (0, .ref (gad G 169)), (1, .int (iZ (i : Int)))]) hx hb dX6_ahead_76 hl (by decide) rfl (fun ls hl => ?_)
              refine lv_iload_n hx hb dX6_ahead_78 rfl (lv_at hl 3 rfl) ?_
              refine lv_aload_n hx hb dX6_ahead_79 rfl (lv_at hl 4 rfl) ?_
              refine g_get hx hb hts hinX6 hown hG (o := 169) (hdm 169 (by decide)) rfl rfl 5 (by decide) f16 (fun _ h => h) rfl dX6_ahead_80 ?_
              refine lv_iload_n hx hb dX6_ahead_83 rfl (lv_at hl 2 rfl) ?_
              refine g_callS (As := [.ref (gad G 172), .int (iZ (k : Int))]) (rest := [.int (iZ (q_ct (fun j => decide (q_hs (M 172) j = 1) && q_ah (M 172) j i) k))]) ⟨hx, hb, hml, hown, hts⟩ (c_X6_hasRun l G M hdm 172 (Or.inr (Or.inl rfl)) hI k (by omega)) (va_cwS 2 hts gX6_ahead_X6_hasRun rfl rfl rfl (by decide +kernel) ⟨Nat.le_of_ble_eq_true rfl, Nat.le_of_ble_eq_true rfl⟩) hG rfl hl.1 rfl (Nat.le_of_ble_eq_true rfl) dX6_ahead_84 ⟨Nat.zero_le _, Nat.zero_le _⟩ (fun z25 M26 H locs hp_84 hG => ?_)
              obtain ⟨hz_84, hM_84⟩ := hp_84; replace hz_84 := hz_84.symm; subst hz_84; replace hM_84 := hM_84.symm; subst hM_84
              refine z_ifP_eq (tgt := 116) hx hb dX6_ahead_87 (by decide) (fun c_87 => ?_) (fun c_87 => ?_)
              · skip
                refine lv_iconst (v := iZ 0) hx hb dX6_ahead_116 rfl ?_
                refine z_iadd (z := (q_ct (fun j => decide (q_hs (M 172) j = 1) && q_ah (M 172) j i) k)) hx hb (by omega) dX6_ahead_117 ?_
                refine lv_istore_n (lv' := [(2, .int (iZ (q_ct (fun j => decide (q_hs (M 172) j = 1) && q_ah (M 172) j i) k))), (5, .int (iZ 1)), (4, .int (iZ 0)), (3, .int (iZ (k : Int))), (0, .ref (gad G 169)), (1, .int (iZ (i : Int)))]) hx hb dX6_ahead_118 rfl hl (by decide) rfl (fun ls hl => ?_)
                refine z_iinc (z := ((k : Int) + 1)) (lv' := [(3, .int (iZ ((k : Int) + 1))), (2, .int (iZ (q_ct (fun j => decide (q_hs (M 172) j = 1) && q_ah (M 172) j i) k))), (5, .int (iZ 1)), (4, .int (iZ 0)), (0, .ref (gad G 169)), (1, .int (iZ (i : Int)))]) hx hb dX6_ahead_119 hl (k := 3) rfl (by omega) (by decide) rfl (fun ls hl => ?_)
                refine lv_goto (tgt := 4) hx hb dX6_ahead_122 (by decide) ?_
                exact ih_4 (k + 1) ((k : Int) + 1) (q_ct (fun j => decide (q_hs (M 172) j = 1) && q_ah (M 172) j i) k)  (by omega) (by rw [q_ct]; first | (exfalso; exact c_99 c_36) | (exfalso; exact c_36 c_99) | (rw [if_pos (show (decide (q_hs (M 172) k = 1) && q_ah (M 172) k i) = true by unfold q_ah; (first | rw [show decide (q_dr (M 172) k < q_dr (M 172) i) = true from decide_eq_true (by omega)] | rw [show decide (q_dr (M 172) k < q_dr (M 172) i) = false from decide_eq_false (by omega)]); (first | rw [show decide (q_hs (M 172) k = 1) = true from decide_eq_true (by omega)] | rw [show decide (q_hs (M 172) k = 1) = false from decide_eq_false (by omega)]); simp [c_24, c_36, c_87]; done)] <;> omega) | (rw [if_neg (show ¬ (decide (q_hs (M 172) k = 1) && q_ah (M 172) k i) = true by unfold q_ah; (first | rw [show decide (q_dr (M 172) k < q_dr (M 172) i) = true from decide_eq_true (by omega)] | rw [show decide (q_dr (M 172) k < q_dr (M 172) i) = false from decide_eq_false (by omega)]); (first | rw [show decide (q_hs (M 172) k = 1) = true from decide_eq_true (by omega)] | rw [show decide (q_hs (M 172) k = 1) = false from decide_eq_false (by omega)]); simp [c_24, c_36, c_87]; done)] <;> omega)) (by omega) (by omega) _ _ _ hG (lv_sub hl [0, 1, 4, 5] rfl)
              · skip
                refine lv_aload_n hx hb dX6_ahead_90 rfl (lv_at hl 4 rfl) ?_
                refine g_get hx hb hts hinX6 hown hG (o := 169) (hdm 169 (by decide)) rfl rfl 5 (by decide) f16 (fun _ h => h) rfl dX6_ahead_91 ?_
                refine lv_iload_n hx hb dX6_ahead_94 rfl (lv_at hl 2 rfl) ?_
                refine lv_iload_n hx hb dX6_ahead_95 rfl (lv_at hl 5 rfl) ?_
                refine g_callS (As := [.ref (gad G 172), .int (iZ (k : Int)), .int (iZ (i : Int))]) (rest := [.int (iZ (q_ct (fun j => decide (q_hs (M 172) j = 1) && q_ah (M 172) j i) k))]) ⟨hx, hb, hml, hown, hts⟩ (c_X6_isBetter l G M hdm 172 (Or.inr (Or.inl rfl)) hI k i (by omega) (by omega)) (va_cwS 3 hts gX6_ahead_X6_isBetter rfl rfl rfl (by decide +kernel) ⟨Nat.le_of_ble_eq_true rfl, Nat.le_of_ble_eq_true rfl⟩) hG rfl hl.1 rfl (Nat.le_of_ble_eq_true rfl) dX6_ahead_96 ⟨Nat.zero_le _, Nat.zero_le _⟩ (fun z27 M28 H locs hp_96 hG => ?_)
                obtain ⟨hz_96, hM_96⟩ := hp_96; replace hz_96 := hz_96.symm; subst hz_96; replace hM_96 := hM_96.symm; subst hM_96
                refine z_ifP_ne (tgt := 112) hx hb dX6_ahead_99 (by decide) (fun c_99 => ?_) (fun c_99 => ?_)
                · skip
                  refine lv_iconst (v := iZ 1) hx hb dX6_ahead_112 rfl ?_
                  refine lv_goto (tgt := 117) hx hb dX6_ahead_113 (by decide) ?_
                  refine z_iadd (z := ((q_ct (fun j => decide (q_hs (M 172) j = 1) && q_ah (M 172) j i) k) + 1)) hx hb (by omega) dX6_ahead_117 ?_
                  refine lv_istore_n (lv' := [(2, .int (iZ ((q_ct (fun j => decide (q_hs (M 172) j = 1) && q_ah (M 172) j i) k) + 1))), (5, .int (iZ 1)), (4, .int (iZ 0)), (3, .int (iZ (k : Int))), (0, .ref (gad G 169)), (1, .int (iZ (i : Int)))]) hx hb dX6_ahead_118 rfl hl (by decide) rfl (fun ls hl => ?_)
                  refine z_iinc (z := ((k : Int) + 1)) (lv' := [(3, .int (iZ ((k : Int) + 1))), (2, .int (iZ ((q_ct (fun j => decide (q_hs (M 172) j = 1) && q_ah (M 172) j i) k) + 1))), (5, .int (iZ 1)), (4, .int (iZ 0)), (0, .ref (gad G 169)), (1, .int (iZ (i : Int)))]) hx hb dX6_ahead_119 hl (k := 3) rfl (by omega) (by decide) rfl (fun ls hl => ?_)
                  refine lv_goto (tgt := 4) hx hb dX6_ahead_122 (by decide) ?_
                  exact ih_4 (k + 1) ((k : Int) + 1) ((q_ct (fun j => decide (q_hs (M 172) j = 1) && q_ah (M 172) j i) k) + 1)  (by omega) (by rw [q_ct]; first | (exfalso; exact c_99 c_36) | (exfalso; exact c_36 c_99) | (rw [if_pos (show (decide (q_hs (M 172) k = 1) && q_ah (M 172) k i) = true by unfold q_ah; (first | rw [show decide (q_dr (M 172) k < q_dr (M 172) i) = true from decide_eq_true (by omega)] | rw [show decide (q_dr (M 172) k < q_dr (M 172) i) = false from decide_eq_false (by omega)]); (first | rw [show decide (q_hs (M 172) k = 1) = true from decide_eq_true (by omega)] | rw [show decide (q_hs (M 172) k = 1) = false from decide_eq_false (by omega)]); simp [c_24, c_36, c_87, c_99]; done)] <;> omega) | (rw [if_neg (show ¬ (decide (q_hs (M 172) k = 1) && q_ah (M 172) k i) = true by unfold q_ah; (first | rw [show decide (q_dr (M 172) k < q_dr (M 172) i) = true from decide_eq_true (by omega)] | rw [show decide (q_dr (M 172) k < q_dr (M 172) i) = false from decide_eq_false (by omega)]); (first | rw [show decide (q_hs (M 172) k = 1) = true from decide_eq_true (by omega)] | rw [show decide (q_hs (M 172) k = 1) = false from decide_eq_false (by omega)]); simp [c_24, c_36, c_87, c_99]; done)] <;> omega)) (by omega) (by omega) _ _ _ hG (lv_sub hl [0, 1, 4, 5] rfl)
                · skip
                  refine lv_iload hx hb dX6_ahead_102 (lv_at hl 1 rfl) ?_
                  refine z_if_eq (tgt := 116) hx hb (by decide) dX6_ahead_104 (by decide) (fun c_104 => ?_) (fun c_104 => ?_)
                  · skip
                    refine lv_iconst (v := iZ 0) hx hb dX6_ahead_116 rfl ?_
                    refine z_iadd (z := (q_ct (fun j => decide (q_hs (M 172) j = 1) && q_ah (M 172) j i) k)) hx hb (by omega) dX6_ahead_117 ?_
                    refine lv_istore_n (lv' := [(2, .int (iZ (q_ct (fun j => decide (q_hs (M 172) j = 1) && q_ah (M 172) j i) k))), (5, .int (iZ 1)), (4, .int (iZ 0)), (3, .int (iZ (k : Int))), (0, .ref (gad G 169)), (1, .int (iZ (i : Int)))]) hx hb dX6_ahead_118 rfl hl (by decide) rfl (fun ls hl => ?_)
                    refine z_iinc (z := ((k : Int) + 1)) (lv' := [(3, .int (iZ ((k : Int) + 1))), (2, .int (iZ (q_ct (fun j => decide (q_hs (M 172) j = 1) && q_ah (M 172) j i) k))), (5, .int (iZ 1)), (4, .int (iZ 0)), (0, .ref (gad G 169)), (1, .int (iZ (i : Int)))]) hx hb dX6_ahead_119 hl (k := 3) rfl (by omega) (by decide) rfl (fun ls hl => ?_)
                    refine lv_goto (tgt := 4) hx hb dX6_ahead_122 (by decide) ?_
                    exact ih_4 (k + 1) ((k : Int) + 1) (q_ct (fun j => decide (q_hs (M 172) j = 1) && q_ah (M 172) j i) k)  (by omega) (by rw [q_ct]; first | (exfalso; exact c_99 c_36) | (exfalso; exact c_36 c_99) | (rw [if_pos (show (decide (q_hs (M 172) k = 1) && q_ah (M 172) k i) = true by unfold q_ah; (first | rw [show decide (q_dr (M 172) k < q_dr (M 172) i) = true from decide_eq_true (by omega)] | rw [show decide (q_dr (M 172) k < q_dr (M 172) i) = false from decide_eq_false (by omega)]); (first | rw [show decide (q_hs (M 172) k = 1) = true from decide_eq_true (by omega)] | rw [show decide (q_hs (M 172) k = 1) = false from decide_eq_false (by omega)]); simp [c_24, c_36, c_87, c_99]; done)] <;> omega) | (rw [if_neg (show ¬ (decide (q_hs (M 172) k = 1) && q_ah (M 172) k i) = true by unfold q_ah; (first | rw [show decide (q_dr (M 172) k < q_dr (M 172) i) = true from decide_eq_true (by omega)] | rw [show decide (q_dr (M 172) k < q_dr (M 172) i) = false from decide_eq_false (by omega)]); (first | rw [show decide (q_hs (M 172) k = 1) = true from decide_eq_true (by omega)] | rw [show decide (q_hs (M 172) k = 1) = false from decide_eq_false (by omega)]); simp [c_24, c_36, c_87, c_99]; done)] <;> omega)) (by omega) (by omega) _ _ _ hG (lv_sub hl [0, 1, 4, 5] rfl)
                  · exfalso; omega
          · skip
            refine lv_iconst (v := iZ 1) hx hb dX6_ahead_39 rfl ?_
            refine lv_goto (tgt := 44) hx hb dX6_ahead_40 (by decide) ?_
            refine lv_istore (lv' := [(4, .int (iZ 1)), (3, .int (iZ (k : Int))), (2, .int (iZ (q_ct (fun j => decide (q_hs (M 172) j = 1) && q_ah (M 172) j i) k))), (0, .ref (gad G 169)), (1, .int (iZ (i : Int)))]) hx hb dX6_ahead_44 hl (by decide) rfl (fun ls hl => ?_)
            refine lv_aload_n hx hb dX6_ahead_46 rfl (lv_at hl 3 rfl) ?_
            refine g_get hx hb hts hinX6 hown hG (o := 169) (hdm 169 (by decide)) rfl rfl 5 (by decide) f16 (fun _ h => h) rfl dX6_ahead_47 ?_
            refine lv_iload_n hx hb dX6_ahead_50 rfl (lv_at hl 1 rfl) ?_
            refine g_callS (As := [.int (iZ (k : Int))]) (rest := [.ref (gad G 172)]) ⟨hx, hb, hml, hown, hts⟩ (c_X6_dogAt l G M (k : Int)) (va_cwS 1 hts gX6_ahead_X6_dogAt rfl rfl rfl (by decide +kernel) ⟨Nat.le_of_ble_eq_true rfl, Nat.le_of_ble_eq_true rfl⟩) hG rfl hl.1 rfl (Nat.le_of_ble_eq_true rfl) dX6_ahead_51 ⟨Nat.zero_le _, Nat.zero_le _⟩ (fun z29 M30 H locs hp_51 hG => ?_)
            obtain ⟨hz_51, hM_51⟩ := hp_51; replace hz_51 := hz_51.symm; subst hz_51; replace hM_51 := hM_51.symm; subst hM_51
            rw [show (14 + 11 * (k : Int) : Int) = (11 * (k : Int) + 14) from by omega]
            refine lv_iconst (v := iZ 1) hx hb dX6_ahead_54 rfl ?_
            refine z_iadd (z := (11 * (k : Int) + 15)) hx hb (by omega) dX6_ahead_55 ?_
            refine g_iald (z := (q_dr (M 172) k)) (j := (14 + 11 * k + 1)) hx hb hG (o := 172) (hdm 172 (by decide)) rfl (by omega) (by omega) (by omega) rfl dX6_ahead_56 ?_
            refine lv_aload_n hx hb dX6_ahead_57 rfl (lv_at hl 3 rfl) ?_
            refine g_get hx hb hts hinX6 hown hG (o := 169) (hdm 169 (by decide)) rfl rfl 5 (by decide) f16 (fun _ h => h) rfl dX6_ahead_58 ?_
            refine lv_iload_n hx hb dX6_ahead_61 rfl (lv_at hl 4 rfl) ?_
            refine g_callS (As := [.int (iZ (i : Int))]) (rest := [.ref (gad G 172), .int (iZ (q_dr (M 172) k))]) ⟨hx, hb, hml, hown, hts⟩ (c_X6_dogAt l G M (i : Int)) (va_cwS 1 hts gX6_ahead_X6_dogAt rfl rfl rfl (by decide +kernel) ⟨Nat.le_of_ble_eq_true rfl, Nat.le_of_ble_eq_true rfl⟩) hG rfl hl.1 rfl (Nat.le_of_ble_eq_true rfl) dX6_ahead_62 ⟨Nat.zero_le _, Nat.zero_le _⟩ (fun z31 M32 H locs hp_62 hG => ?_)
            obtain ⟨hz_62, hM_62⟩ := hp_62; replace hz_62 := hz_62.symm; subst hz_62; replace hM_62 := hM_62.symm; subst hM_62
            rw [show (14 + 11 * (i : Int) : Int) = (11 * (i : Int) + 14) from by omega]
            refine lv_iconst (v := iZ 1) hx hb dX6_ahead_65 rfl ?_
            refine z_iadd (z := (11 * (i : Int) + 15)) hx hb (by omega) dX6_ahead_66 ?_
            refine g_iald (z := (q_dr (M 172) i)) (j := (14 + 11 * i + 1)) hx hb hG (o := 172) (hdm 172 (by decide)) rfl (by omega) (by omega) (by omega) rfl dX6_ahead_67 ?_
            refine z_icmp_ge (tgt := 75) hx hb (by omega) (by omega) dX6_ahead_68 (by decide) (fun c_68 => ?_) (fun c_68 => ?_)
            · skip
              refine lv_iconst (v := iZ 0) hx hb dX6_ahead_75 rfl ?_
              refine lv_istore (lv' := [(5, .int (iZ 0)), (4, .int (iZ 1)), (3, .int (iZ (k : Int))), (2, .int (iZ (q_ct (fun j => decide (q_hs (M 172) j = 1) && q_ah (M 172) j i) k))), (0, .ref (gad G 169)), (1, .int (iZ (i : Int)))]) hx hb dX6_ahead_76 hl (by decide) rfl (fun ls hl => ?_)
              refine lv_iload_n hx hb dX6_ahead_78 rfl (lv_at hl 3 rfl) ?_
              refine lv_aload_n hx hb dX6_ahead_79 rfl (lv_at hl 4 rfl) ?_
              refine g_get hx hb hts hinX6 hown hG (o := 169) (hdm 169 (by decide)) rfl rfl 5 (by decide) f16 (fun _ h => h) rfl dX6_ahead_80 ?_
              refine lv_iload_n hx hb dX6_ahead_83 rfl (lv_at hl 2 rfl) ?_
              refine g_callS (As := [.ref (gad G 172), .int (iZ (k : Int))]) (rest := [.int (iZ (q_ct (fun j => decide (q_hs (M 172) j = 1) && q_ah (M 172) j i) k))]) ⟨hx, hb, hml, hown, hts⟩ (c_X6_hasRun l G M hdm 172 (Or.inr (Or.inl rfl)) hI k (by omega)) (va_cwS 2 hts gX6_ahead_X6_hasRun rfl rfl rfl (by decide +kernel) ⟨Nat.le_of_ble_eq_true rfl, Nat.le_of_ble_eq_true rfl⟩) hG rfl hl.1 rfl (Nat.le_of_ble_eq_true rfl) dX6_ahead_84 ⟨Nat.zero_le _, Nat.zero_le _⟩ (fun z33 M34 H locs hp_84 hG => ?_)
              obtain ⟨hz_84, hM_84⟩ := hp_84; replace hz_84 := hz_84.symm; subst hz_84; replace hM_84 := hM_84.symm; subst hM_84
              refine z_ifP_eq (tgt := 116) hx hb dX6_ahead_87 (by decide) (fun c_87 => ?_) (fun c_87 => ?_)
              · skip
                refine lv_iconst (v := iZ 0) hx hb dX6_ahead_116 rfl ?_
                refine z_iadd (z := (q_ct (fun j => decide (q_hs (M 172) j = 1) && q_ah (M 172) j i) k)) hx hb (by omega) dX6_ahead_117 ?_
                refine lv_istore_n (lv' := [(2, .int (iZ (q_ct (fun j => decide (q_hs (M 172) j = 1) && q_ah (M 172) j i) k))), (5, .int (iZ 0)), (4, .int (iZ 1)), (3, .int (iZ (k : Int))), (0, .ref (gad G 169)), (1, .int (iZ (i : Int)))]) hx hb dX6_ahead_118 rfl hl (by decide) rfl (fun ls hl => ?_)
                refine z_iinc (z := ((k : Int) + 1)) (lv' := [(3, .int (iZ ((k : Int) + 1))), (2, .int (iZ (q_ct (fun j => decide (q_hs (M 172) j = 1) && q_ah (M 172) j i) k))), (5, .int (iZ 0)), (4, .int (iZ 1)), (0, .ref (gad G 169)), (1, .int (iZ (i : Int)))]) hx hb dX6_ahead_119 hl (k := 3) rfl (by omega) (by decide) rfl (fun ls hl => ?_)
                refine lv_goto (tgt := 4) hx hb dX6_ahead_122 (by decide) ?_
                exact ih_4 (k + 1) ((k : Int) + 1) (q_ct (fun j => decide (q_hs (M 172) j = 1) && q_ah (M 172) j i) k)  (by omega) (by rw [q_ct]; first | (exfalso; exact c_99 c_36) | (exfalso; exact c_36 c_99) | (rw [if_pos (show (decide (q_hs (M 172) k = 1) && q_ah (M 172) k i) = true by unfold q_ah; (first | rw [show decide (q_dr (M 172) k < q_dr (M 172) i) = true from decide_eq_true (by omega)] | rw [show decide (q_dr (M 172) k < q_dr (M 172) i) = false from decide_eq_false (by omega)]); (first | rw [show decide (q_hs (M 172) k = 1) = true from decide_eq_true (by omega)] | rw [show decide (q_hs (M 172) k = 1) = false from decide_eq_false (by omega)]); simp [c_24, c_36, c_87]; done)] <;> omega) | (rw [if_neg (show ¬ (decide (q_hs (M 172) k = 1) && q_ah (M 172) k i) = true by unfold q_ah; (first | rw [show decide (q_dr (M 172) k < q_dr (M 172) i) = true from decide_eq_true (by omega)] | rw [show decide (q_dr (M 172) k < q_dr (M 172) i) = false from decide_eq_false (by omega)]); (first | rw [show decide (q_hs (M 172) k = 1) = true from decide_eq_true (by omega)] | rw [show decide (q_hs (M 172) k = 1) = false from decide_eq_false (by omega)]); simp [c_24, c_36, c_87]; done)] <;> omega)) (by omega) (by omega) _ _ _ hG (lv_sub hl [0, 1, 4, 5] rfl)
              · skip
                refine lv_aload_n hx hb dX6_ahead_90 rfl (lv_at hl 4 rfl) ?_
                refine g_get hx hb hts hinX6 hown hG (o := 169) (hdm 169 (by decide)) rfl rfl 5 (by decide) f16 (fun _ h => h) rfl dX6_ahead_91 ?_
                refine lv_iload_n hx hb dX6_ahead_94 rfl (lv_at hl 2 rfl) ?_
                refine lv_iload_n hx hb dX6_ahead_95 rfl (lv_at hl 5 rfl) ?_
                refine g_callS (As := [.ref (gad G 172), .int (iZ (k : Int)), .int (iZ (i : Int))]) (rest := [.int (iZ (q_ct (fun j => decide (q_hs (M 172) j = 1) && q_ah (M 172) j i) k))]) ⟨hx, hb, hml, hown, hts⟩ (c_X6_isBetter l G M hdm 172 (Or.inr (Or.inl rfl)) hI k i (by omega) (by omega)) (va_cwS 3 hts gX6_ahead_X6_isBetter rfl rfl rfl (by decide +kernel) ⟨Nat.le_of_ble_eq_true rfl, Nat.le_of_ble_eq_true rfl⟩) hG rfl hl.1 rfl (Nat.le_of_ble_eq_true rfl) dX6_ahead_96 ⟨Nat.zero_le _, Nat.zero_le _⟩ (fun z35 M36 H locs hp_96 hG => ?_)
                obtain ⟨hz_96, hM_96⟩ := hp_96; replace hz_96 := hz_96.symm; subst hz_96; replace hM_96 := hM_96.symm; subst hM_96
                refine z_ifP_ne (tgt := 112) hx hb dX6_ahead_99 (by decide) (fun c_99 => ?_) (fun c_99 => ?_)
                · skip
                  refine lv_iconst (v := iZ 1) hx hb dX6_ahead_112 rfl ?_
                  refine lv_goto (tgt := 117) hx hb dX6_ahead_113 (by decide) ?_
                  refine z_iadd (z := ((q_ct (fun j => decide (q_hs (M 172) j = 1) && q_ah (M 172) j i) k) + 1)) hx hb (by omega) dX6_ahead_117 ?_
                  refine lv_istore_n (lv' := [(2, .int (iZ ((q_ct (fun j => decide (q_hs (M 172) j = 1) && q_ah (M 172) j i) k) + 1))), (5, .int (iZ 0)), (4, .int (iZ 1)), (3, .int (iZ (k : Int))), (0, .ref (gad G 169)), (1, .int (iZ (i : Int)))]) hx hb dX6_ahead_118 rfl hl (by decide) rfl (fun ls hl => ?_)
                  refine z_iinc (z := ((k : Int) + 1)) (lv' := [(3, .int (iZ ((k : Int) + 1))), (2, .int (iZ ((q_ct (fun j => decide (q_hs (M 172) j = 1) && q_ah (M 172) j i) k) + 1))), (5, .int (iZ 0)), (4, .int (iZ 1)), (0, .ref (gad G 169)), (1, .int (iZ (i : Int)))]) hx hb dX6_ahead_119 hl (k := 3) rfl (by omega) (by decide) rfl (fun ls hl => ?_)
                  refine lv_goto (tgt := 4) hx hb dX6_ahead_122 (by decide) ?_
                  exact ih_4 (k + 1) ((k : Int) + 1) ((q_ct (fun j => decide (q_hs (M 172) j = 1) && q_ah (M 172) j i) k) + 1)  (by omega) (by rw [q_ct]; first | (exfalso; exact c_99 c_36) | (exfalso; exact c_36 c_99) | (rw [if_pos (show (decide (q_hs (M 172) k = 1) && q_ah (M 172) k i) = true by unfold q_ah; (first | rw [show decide (q_dr (M 172) k < q_dr (M 172) i) = true from decide_eq_true (by omega)] | rw [show decide (q_dr (M 172) k < q_dr (M 172) i) = false from decide_eq_false (by omega)]); (first | rw [show decide (q_hs (M 172) k = 1) = true from decide_eq_true (by omega)] | rw [show decide (q_hs (M 172) k = 1) = false from decide_eq_false (by omega)]); simp [c_24, c_36, c_87, c_99]; done)] <;> omega) | (rw [if_neg (show ¬ (decide (q_hs (M 172) k = 1) && q_ah (M 172) k i) = true by unfold q_ah; (first | rw [show decide (q_dr (M 172) k < q_dr (M 172) i) = true from decide_eq_true (by omega)] | rw [show decide (q_dr (M 172) k < q_dr (M 172) i) = false from decide_eq_false (by omega)]); (first | rw [show decide (q_hs (M 172) k = 1) = true from decide_eq_true (by omega)] | rw [show decide (q_hs (M 172) k = 1) = false from decide_eq_false (by omega)]); simp [c_24, c_36, c_87, c_99]; done)] <;> omega)) (by omega) (by omega) _ _ _ hG (lv_sub hl [0, 1, 4, 5] rfl)
                · skip
                  refine lv_iload hx hb dX6_ahead_102 (lv_at hl 1 rfl) ?_
                  refine z_if_eq (tgt := 116) hx hb (by decide) dX6_ahead_104 (by decide) (fun c_104 => ?_) (fun c_104 => ?_)
                  · exfalso; omega
                  · skip
                    refine lv_iload hx hb dX6_ahead_107 (lv_at hl 0 rfl) ?_
                    refine z_if_eq (tgt := 116) hx hb (by decide) dX6_ahead_109 (by decide) (fun c_109 => ?_) (fun c_109 => ?_)
                    · skip
                      refine lv_iconst (v := iZ 0) hx hb dX6_ahead_116 rfl ?_
                      refine z_iadd (z := (q_ct (fun j => decide (q_hs (M 172) j = 1) && q_ah (M 172) j i) k)) hx hb (by omega) dX6_ahead_117 ?_
                      refine lv_istore_n (lv' := [(2, .int (iZ (q_ct (fun j => decide (q_hs (M 172) j = 1) && q_ah (M 172) j i) k))), (5, .int (iZ 0)), (4, .int (iZ 1)), (3, .int (iZ (k : Int))), (0, .ref (gad G 169)), (1, .int (iZ (i : Int)))]) hx hb dX6_ahead_118 rfl hl (by decide) rfl (fun ls hl => ?_)
                      refine z_iinc (z := ((k : Int) + 1)) (lv' := [(3, .int (iZ ((k : Int) + 1))), (2, .int (iZ (q_ct (fun j => decide (q_hs (M 172) j = 1) && q_ah (M 172) j i) k))), (5, .int (iZ 0)), (4, .int (iZ 1)), (0, .ref (gad G 169)), (1, .int (iZ (i : Int)))]) hx hb dX6_ahead_119 hl (k := 3) rfl (by omega) (by decide) rfl (fun ls hl => ?_)
                      refine lv_goto (tgt := 4) hx hb dX6_ahead_122 (by decide) ?_
                      exact ih_4 (k + 1) ((k : Int) + 1) (q_ct (fun j => decide (q_hs (M 172) j = 1) && q_ah (M 172) j i) k)  (by omega) (by rw [q_ct]; first | (exfalso; exact c_99 c_36) | (exfalso; exact c_36 c_99) | (rw [if_pos (show (decide (q_hs (M 172) k = 1) && q_ah (M 172) k i) = true by unfold q_ah; (first | rw [show decide (q_dr (M 172) k < q_dr (M 172) i) = true from decide_eq_true (by omega)] | rw [show decide (q_dr (M 172) k < q_dr (M 172) i) = false from decide_eq_false (by omega)]); (first | rw [show decide (q_hs (M 172) k = 1) = true from decide_eq_true (by omega)] | rw [show decide (q_hs (M 172) k = 1) = false from decide_eq_false (by omega)]); simp [c_24, c_36, c_87, c_99]; done)] <;> omega) | (rw [if_neg (show ¬ (decide (q_hs (M 172) k = 1) && q_ah (M 172) k i) = true by unfold q_ah; (first | rw [show decide (q_dr (M 172) k < q_dr (M 172) i) = true from decide_eq_true (by omega)] | rw [show decide (q_dr (M 172) k < q_dr (M 172) i) = false from decide_eq_false (by omega)]); (first | rw [show decide (q_hs (M 172) k = 1) = true from decide_eq_true (by omega)] | rw [show decide (q_hs (M 172) k = 1) = false from decide_eq_false (by omega)]); simp [c_24, c_36, c_87, c_99]; done)] <;> omega)) (by omega) (by omega) _ _ _ hG (lv_sub hl [0, 1, 4, 5] rfl)
                    · exfalso; omega
            · skip
              refine lv_iconst (v := iZ 1) hx hb dX6_ahead_71 rfl ?_
              refine lv_goto (tgt := 76) hx hb dX6_ahead_72 (by decide) ?_
              refine lv_istore (lv' := [(5, .int (iZ 1)), (4, .int (iZ 1)), (3, .int (iZ (k : Int))), (2, .int (iZ (q_ct (fun j => decide (q_hs (M 172) j = 1) && q_ah (M 172) j i) k))), (0, .ref (gad G 169)), (1, .int (iZ (i : Int)))]) hx hb dX6_ahead_76 hl (by decide) rfl (fun ls hl => ?_)
              refine lv_iload_n hx hb dX6_ahead_78 rfl (lv_at hl 3 rfl) ?_
              refine lv_aload_n hx hb dX6_ahead_79 rfl (lv_at hl 4 rfl) ?_
              refine g_get hx hb hts hinX6 hown hG (o := 169) (hdm 169 (by decide)) rfl rfl 5 (by decide) f16 (fun _ h => h) rfl dX6_ahead_80 ?_
              refine lv_iload_n hx hb dX6_ahead_83 rfl (lv_at hl 2 rfl) ?_
              refine g_callS (As := [.ref (gad G 172), .int (iZ (k : Int))]) (rest := [.int (iZ (q_ct (fun j => decide (q_hs (M 172) j = 1) && q_ah (M 172) j i) k))]) ⟨hx, hb, hml, hown, hts⟩ (c_X6_hasRun l G M hdm 172 (Or.inr (Or.inl rfl)) hI k (by omega)) (va_cwS 2 hts gX6_ahead_X6_hasRun rfl rfl rfl (by decide +kernel) ⟨Nat.le_of_ble_eq_true rfl, Nat.le_of_ble_eq_true rfl⟩) hG rfl hl.1 rfl (Nat.le_of_ble_eq_true rfl) dX6_ahead_84 ⟨Nat.zero_le _, Nat.zero_le _⟩ (fun z37 M38 H locs hp_84 hG => ?_)
              obtain ⟨hz_84, hM_84⟩ := hp_84; replace hz_84 := hz_84.symm; subst hz_84; replace hM_84 := hM_84.symm; subst hM_84
              refine z_ifP_eq (tgt := 116) hx hb dX6_ahead_87 (by decide) (fun c_87 => ?_) (fun c_87 => ?_)
              · skip
                refine lv_iconst (v := iZ 0) hx hb dX6_ahead_116 rfl ?_
                refine z_iadd (z := (q_ct (fun j => decide (q_hs (M 172) j = 1) && q_ah (M 172) j i) k)) hx hb (by omega) dX6_ahead_117 ?_
                refine lv_istore_n (lv' := [(2, .int (iZ (q_ct (fun j => decide (q_hs (M 172) j = 1) && q_ah (M 172) j i) k))), (5, .int (iZ 1)), (4, .int (iZ 1)), (3, .int (iZ (k : Int))), (0, .ref (gad G 169)), (1, .int (iZ (i : Int)))]) hx hb dX6_ahead_118 rfl hl (by decide) rfl (fun ls hl => ?_)
                refine z_iinc (z := ((k : Int) + 1)) (lv' := [(3, .int (iZ ((k : Int) + 1))), (2, .int (iZ (q_ct (fun j => decide (q_hs (M 172) j = 1) && q_ah (M 172) j i) k))), (5, .int (iZ 1)), (4, .int (iZ 1)), (0, .ref (gad G 169)), (1, .int (iZ (i : Int)))]) hx hb dX6_ahead_119 hl (k := 3) rfl (by omega) (by decide) rfl (fun ls hl => ?_)
                refine lv_goto (tgt := 4) hx hb dX6_ahead_122 (by decide) ?_
                exact ih_4 (k + 1) ((k : Int) + 1) (q_ct (fun j => decide (q_hs (M 172) j = 1) && q_ah (M 172) j i) k)  (by omega) (by rw [q_ct]; first | (exfalso; exact c_99 c_36) | (exfalso; exact c_36 c_99) | (rw [if_pos (show (decide (q_hs (M 172) k = 1) && q_ah (M 172) k i) = true by unfold q_ah; (first | rw [show decide (q_dr (M 172) k < q_dr (M 172) i) = true from decide_eq_true (by omega)] | rw [show decide (q_dr (M 172) k < q_dr (M 172) i) = false from decide_eq_false (by omega)]); (first | rw [show decide (q_hs (M 172) k = 1) = true from decide_eq_true (by omega)] | rw [show decide (q_hs (M 172) k = 1) = false from decide_eq_false (by omega)]); simp [c_24, c_36, c_87]; done)] <;> omega) | (rw [if_neg (show ¬ (decide (q_hs (M 172) k = 1) && q_ah (M 172) k i) = true by unfold q_ah; (first | rw [show decide (q_dr (M 172) k < q_dr (M 172) i) = true from decide_eq_true (by omega)] | rw [show decide (q_dr (M 172) k < q_dr (M 172) i) = false from decide_eq_false (by omega)]); (first | rw [show decide (q_hs (M 172) k = 1) = true from decide_eq_true (by omega)] | rw [show decide (q_hs (M 172) k = 1) = false from decide_eq_false (by omega)]); simp [c_24, c_36, c_87]; done)] <;> omega)) (by omega) (by omega) _ _ _ hG (lv_sub hl [0, 1, 4, 5] rfl)
              · skip
                refine lv_aload_n hx hb dX6_ahead_90 rfl (lv_at hl 4 rfl) ?_
                refine g_get hx hb hts hinX6 hown hG (o := 169) (hdm 169 (by decide)) rfl rfl 5 (by decide) f16 (fun _ h => h) rfl dX6_ahead_91 ?_
                refine lv_iload_n hx hb dX6_ahead_94 rfl (lv_at hl 2 rfl) ?_
                refine lv_iload_n hx hb dX6_ahead_95 rfl (lv_at hl 5 rfl) ?_
                refine g_callS (As := [.ref (gad G 172), .int (iZ (k : Int)), .int (iZ (i : Int))]) (rest := [.int (iZ (q_ct (fun j => decide (q_hs (M 172) j = 1) && q_ah (M 172) j i) k))]) ⟨hx, hb, hml, hown, hts⟩ (c_X6_isBetter l G M hdm 172 (Or.inr (Or.inl rfl)) hI k i (by omega) (by omega)) (va_cwS 3 hts gX6_ahead_X6_isBetter rfl rfl rfl (by decide +kernel) ⟨Nat.le_of_ble_eq_true rfl, Nat.le_of_ble_eq_true rfl⟩) hG rfl hl.1 rfl (Nat.le_of_ble_eq_true rfl) dX6_ahead_96 ⟨Nat.zero_le _, Nat.zero_le _⟩ (fun z39 M40 H locs hp_96 hG => ?_)
                obtain ⟨hz_96, hM_96⟩ := hp_96; replace hz_96 := hz_96.symm; subst hz_96; replace hM_96 := hM_96.symm; subst hM_96
                refine z_ifP_ne (tgt := 112) hx hb dX6_ahead_99 (by decide) (fun c_99 => ?_) (fun c_99 => ?_)
                · skip
                  refine lv_iconst (v := iZ 1) hx hb dX6_ahead_112 rfl ?_
                  refine lv_goto (tgt := 117) hx hb dX6_ahead_113 (by decide) ?_
                  refine z_iadd (z := ((q_ct (fun j => decide (q_hs (M 172) j = 1) && q_ah (M 172) j i) k) + 1)) hx hb (by omega) dX6_ahead_117 ?_
                  refine lv_istore_n (lv' := [(2, .int (iZ ((q_ct (fun j => decide (q_hs (M 172) j = 1) && q_ah (M 172) j i) k) + 1))), (5, .int (iZ 1)), (4, .int (iZ 1)), (3, .int (iZ (k : Int))), (0, .ref (gad G 169)), (1, .int (iZ (i : Int)))]) hx hb dX6_ahead_118 rfl hl (by decide) rfl (fun ls hl => ?_)
                  refine z_iinc (z := ((k : Int) + 1)) (lv' := [(3, .int (iZ ((k : Int) + 1))), (2, .int (iZ ((q_ct (fun j => decide (q_hs (M 172) j = 1) && q_ah (M 172) j i) k) + 1))), (5, .int (iZ 1)), (4, .int (iZ 1)), (0, .ref (gad G 169)), (1, .int (iZ (i : Int)))]) hx hb dX6_ahead_119 hl (k := 3) rfl (by omega) (by decide) rfl (fun ls hl => ?_)
                  refine lv_goto (tgt := 4) hx hb dX6_ahead_122 (by decide) ?_
                  exact ih_4 (k + 1) ((k : Int) + 1) ((q_ct (fun j => decide (q_hs (M 172) j = 1) && q_ah (M 172) j i) k) + 1)  (by omega) (by rw [q_ct]; first | (exfalso; exact c_99 c_36) | (exfalso; exact c_36 c_99) | (rw [if_pos (show (decide (q_hs (M 172) k = 1) && q_ah (M 172) k i) = true by unfold q_ah; (first | rw [show decide (q_dr (M 172) k < q_dr (M 172) i) = true from decide_eq_true (by omega)] | rw [show decide (q_dr (M 172) k < q_dr (M 172) i) = false from decide_eq_false (by omega)]); (first | rw [show decide (q_hs (M 172) k = 1) = true from decide_eq_true (by omega)] | rw [show decide (q_hs (M 172) k = 1) = false from decide_eq_false (by omega)]); simp [c_24, c_36, c_87, c_99]; done)] <;> omega) | (rw [if_neg (show ¬ (decide (q_hs (M 172) k = 1) && q_ah (M 172) k i) = true by unfold q_ah; (first | rw [show decide (q_dr (M 172) k < q_dr (M 172) i) = true from decide_eq_true (by omega)] | rw [show decide (q_dr (M 172) k < q_dr (M 172) i) = false from decide_eq_false (by omega)]); (first | rw [show decide (q_hs (M 172) k = 1) = true from decide_eq_true (by omega)] | rw [show decide (q_hs (M 172) k = 1) = false from decide_eq_false (by omega)]); simp [c_24, c_36, c_87, c_99]; done)] <;> omega)) (by omega) (by omega) _ _ _ hG (lv_sub hl [0, 1, 4, 5] rfl)
                · skip
                  refine lv_iload hx hb dX6_ahead_102 (lv_at hl 1 rfl) ?_
                  refine z_if_eq (tgt := 116) hx hb (by decide) dX6_ahead_104 (by decide) (fun c_104 => ?_) (fun c_104 => ?_)
                  · exfalso; omega
                  · skip
                    refine lv_iload hx hb dX6_ahead_107 (lv_at hl 0 rfl) ?_
                    refine z_if_eq (tgt := 116) hx hb (by decide) dX6_ahead_109 (by decide) (fun c_109 => ?_) (fun c_109 => ?_)
                    · exfalso; omega
                    · skip
                      refine lv_iconst (v := iZ 1) hx hb dX6_ahead_112 rfl ?_
                      refine lv_goto (tgt := 117) hx hb dX6_ahead_113 (by decide) ?_
                      refine z_iadd (z := ((q_ct (fun j => decide (q_hs (M 172) j = 1) && q_ah (M 172) j i) k) + 1)) hx hb (by omega) dX6_ahead_117 ?_
                      refine lv_istore_n (lv' := [(2, .int (iZ ((q_ct (fun j => decide (q_hs (M 172) j = 1) && q_ah (M 172) j i) k) + 1))), (5, .int (iZ 1)), (4, .int (iZ 1)), (3, .int (iZ (k : Int))), (0, .ref (gad G 169)), (1, .int (iZ (i : Int)))]) hx hb dX6_ahead_118 rfl hl (by decide) rfl (fun ls hl => ?_)
                      refine z_iinc (z := ((k : Int) + 1)) (lv' := [(3, .int (iZ ((k : Int) + 1))), (2, .int (iZ ((q_ct (fun j => decide (q_hs (M 172) j = 1) && q_ah (M 172) j i) k) + 1))), (5, .int (iZ 1)), (4, .int (iZ 1)), (0, .ref (gad G 169)), (1, .int (iZ (i : Int)))]) hx hb dX6_ahead_119 hl (k := 3) rfl (by omega) (by decide) rfl (fun ls hl => ?_)
                      refine lv_goto (tgt := 4) hx hb dX6_ahead_122 (by decide) ?_
                      exact ih_4 (k + 1) ((k : Int) + 1) ((q_ct (fun j => decide (q_hs (M 172) j = 1) && q_ah (M 172) j i) k) + 1)  (by omega) (by rw [q_ct]; first | (exfalso; exact c_99 c_36) | (exfalso; exact c_36 c_99) | (rw [if_pos (show (decide (q_hs (M 172) k = 1) && q_ah (M 172) k i) = true by unfold q_ah; (first | rw [show decide (q_dr (M 172) k < q_dr (M 172) i) = true from decide_eq_true (by omega)] | rw [show decide (q_dr (M 172) k < q_dr (M 172) i) = false from decide_eq_false (by omega)]); (first | rw [show decide (q_hs (M 172) k = 1) = true from decide_eq_true (by omega)] | rw [show decide (q_hs (M 172) k = 1) = false from decide_eq_false (by omega)]); simp [c_24, c_36, c_87, c_99]; done)] <;> omega) | (rw [if_neg (show ¬ (decide (q_hs (M 172) k = 1) && q_ah (M 172) k i) = true by unfold q_ah; (first | rw [show decide (q_dr (M 172) k < q_dr (M 172) i) = true from decide_eq_true (by omega)] | rw [show decide (q_dr (M 172) k < q_dr (M 172) i) = false from decide_eq_false (by omega)]); (first | rw [show decide (q_hs (M 172) k = 1) = true from decide_eq_true (by omega)] | rw [show decide (q_hs (M 172) k = 1) = false from decide_eq_false (by omega)]); simp [c_24, c_36, c_87, c_99]; done)] <;> omega)) (by omega) (by omega) _ _ _ hG (lv_sub hl [0, 1, 4, 5] rfl)
  exact L_4 _ 0 0 0  rfl rfl (by omega) (Nat.lt_succ_self _) _ _ _ hG (lv_sub hl [0, 1, 2, 3] rfl)
set_option maxHeartbeats 4000000 in
set_option maxRecDepth 100000 in
theorem c_X6_inOrder (l : Launch) (G : gG) (M : Nat → Nat → Int) (hdm : ∀ k, k < 179 → gdm G k) (hI : q_inv (M 172)) (d : Int) (hd : -2147483648 ≤ d ∧ d < 2147483648) : gMi l yX6_inOrder wsX6_inOrder ({ frames := 4, cells := 0, slots := 0, locals := 92 } : Room) G M [.ref (gad G 169), .int (iZ d)] (fun z M1 => z = q_pio (M 172) d ∧ (∀ a, a ≠ 169 → a ≠ 177 → M1 a = M a) ∧ ∀ b : Nat, b ≠ 12 → M1 169 b = M 169 b) := by
  refine gMi_of (cc := cX6_inOrder) (maxL := 3) (ret := some .int) (by decide) rfl (Nat.le_of_ble_eq_true rfl) ?_
  intro p e s m below meth c ls hx hb hr hml hown hts hlocks hl hG
  have hown : s.vm.findClass RX6 = some m.cls := hown
  have hl : lv_has ls 3 [(0, .ref (gad G 169)), (1, .int (iZ d))] := hl
  have hinX6 : ∀ w ∈ u_ws RX6 TX6 13, w ∈ wsX6_inOrder := by decide +kernel
  have f16 := hts (.fieldLink RX6 16 "DogTrialsModel" "now" "[I") (by decide +kernel)
  have f32 := hts (.fieldLink RX6 32 "DogTrialsModel" "row" "[I") (by decide +kernel)
  have f78 := hts (.fieldLink RX6 78 "DogTrialsModel" "rowSize" "I") (by decide +kernel)
  have hnd := hI.1
  have hle := q_orn_le hI
  refine lv_aload_n hx hb dX6_inOrder_0 rfl (lv_at hl 0 rfl) ?_
  refine lv_aload_n hx hb dX6_inOrder_1 rfl (lv_at hl 0 rfl) ?_
  refine g_get hx hb hts hinX6 hown hG (o := 169) (hdm 169 (by decide)) rfl rfl 5 (by decide) f16 (fun _ h => h) rfl dX6_inOrder_2 ?_
  refine g_vcallV (b := 169) (As := [.ref (gad G 172)]) (rest := []) ⟨hx, hb, hml, hown, hts⟩ (c_X6_layRow l G M hdm 172 (Or.inr (Or.inl rfl)) hI) (cwV 1 hts gX6_inOrder_X6_layRow rfl rfl rfl (by decide +kernel) ⟨Nat.le_of_ble_eq_true rfl, Nat.le_of_ble_eq_true rfl⟩) hG (g_recv hG (b := 169) (hdm 169 (by decide)) rfl rfl) rfl hl.1 rfl (Nat.le_of_ble_eq_true rfl) dX6_inOrder_5 ⟨Nat.zero_le _, Nat.zero_le _⟩ (fun M2 H locs hp_5 hG => ?_)
  obtain ⟨hn_M2, hf_M2, hoa_M2, hob_M2⟩ := hp_5
  refine lv_iconst (v := iZ 0) hx hb dX6_inOrder_8 rfl ?_
  refine lv_istore_n (lv' := [(2, .int (iZ 0)), (0, .ref (gad G 169)), (1, .int (iZ d))]) hx hb dX6_inOrder_9 rfl hl (by decide) rfl (fun ls hl => ?_)
  have L_10 : ∀ (n_10 : Nat) (k : Nat) (x_i : Int), (x_i = (k : Int)) → (k ≤ q_orn (M 172)) → ((∀ j : Nat, j < k → q_orf (M 172) j ≠ d)) → 12 - k < n_10 → ∀ (H : Heap) (locs : List Loc) (ls : Array Slot), gH G M2 s H locs → lv_has ls 3 [(2, .int (iZ x_i)), (0, .ref (gad G 169)), (1, .int (iZ d))] → W p l e ({ frames := 4, cells := 0, slots := 0, locals := 92 } : Room) s m [.ref (gad G 169), .int (iZ d)].toArray below meth c H locs 0 0 (MQ below (va_Qi (fun r (u : Int × (Nat → Nat → Int)) => r = iZ u.1 ∧ (fun z M1 => z = q_pio (M 172) d ∧ (∀ a, a ≠ 169 → a ≠ 177 → M1 a = M a) ∧ ∀ b : Nat, b ≠ 12 → M1 169 b = M 169 b) u.1 u.2) (fun u U => gB G u.2 U) (gA G)) [.ref (gad G 169), .int (iZ d)].toArray s 0 0 (gA G)) (F0 m 10 ls []) := by
    intro n_10
    induction n_10 with
    | zero => intro k x_i he_x_i hk hno hm_10; exact absurd hm_10 (Nat.not_lt_zero _)
    | succ n_10 ih_10 =>
      intro k x_i he_x_i hk hno hm_10 H locs ls hG hl
      subst he_x_i
      refine lv_iload_n hx hb dX6_inOrder_10 rfl (lv_at hl 0 rfl) ?_
      refine lv_aload_n hx hb dX6_inOrder_11 rfl (lv_at hl 1 rfl) ?_
      refine g_geti (z := ((q_orn (M 172)) : Int)) hx hb hts hinX6 hown hG (o := 169) (hdm 169 (by decide)) rfl rfl 12 (by decide) f78 (fun _ h => h) rfl hn_M2 dX6_inOrder_12 ?_
      refine z_icmp_ge (tgt := 36) hx hb (by omega) (by omega) dX6_inOrder_15 (by decide) (fun c_15 => ?_) (fun c_15 => ?_)
      · skip
        refine lv_bipush (v := iZ (-9)) hx hb dX6_inOrder_36 (by decide) ?_
        exact g_iret (post := fun z M1 => z = q_pio (M 172) d ∧ (∀ a, a ≠ 169 → a ≠ 177 → M1 a = M a) ∧ ∀ b : Nat, b ≠ 12 → M1 169 b = M 169 b) (z := (-9)) hx hb hr hG hlocks (⟨(by unfold q_pio; exact (q_fnd_no (fun j hj => hno j (by omega))).symm), hoa_M2, hob_M2⟩) dX6_inOrder_38
      · skip
        have hfi := q_orf_in hI (k := k) (by omega)
        refine lv_aload_n hx hb dX6_inOrder_18 rfl (lv_at hl 1 rfl) ?_
        refine g_get hx hb hts hinX6 hown hG (o := 169) (hdm 169 (by decide)) rfl rfl 11 (by decide) f32 (fun _ h => h) rfl dX6_inOrder_19 ?_
        refine lv_iload_n hx hb dX6_inOrder_22 rfl (lv_at hl 0 rfl) ?_
        refine g_iald (z := (q_orf (M 172) k)) (j := k) hx hb hG (o := 177) (hdm 177 (by decide)) rfl (by omega) (by omega) (by omega) (hf_M2 k (by omega)) dX6_inOrder_23 ?_
        refine lv_iload_n hx hb dX6_inOrder_24 rfl (lv_at hl 2 rfl) ?_
        refine z_icmp_ne (tgt := 30) hx hb (by omega) (by omega) dX6_inOrder_25 (by decide) (fun c_25 => ?_) (fun c_25 => ?_)
        · skip
          refine z_iinc (z := ((k : Int) + 1)) (lv' := [(2, .int (iZ ((k : Int) + 1))), (0, .ref (gad G 169)), (1, .int (iZ d))]) hx hb dX6_inOrder_30 hl (k := 0) rfl (by omega) (by decide) rfl (fun ls hl => ?_)
          refine lv_goto (tgt := 10) hx hb dX6_inOrder_33 (by decide) ?_
          exact ih_10 (k + 1) ((k : Int) + 1)  (by omega) (by omega) (fun j h => by rcases (show j < k ∨ j = k by omega) with h9 | h9; exact hno j h9; (subst h9; omega)) (by omega) _ _ _ hG (lv_sub hl [0, 1, 2] rfl)
        · skip
          refine lv_iload_n hx hb dX6_inOrder_28 rfl (lv_at hl 0 rfl) ?_
          exact g_iret (post := fun z M1 => z = q_pio (M 172) d ∧ (∀ a, a ≠ 169 → a ≠ 177 → M1 a = M a) ∧ ∀ b : Nat, b ≠ 12 → M1 169 b = M 169 b) (z := (k : Int)) hx hb hr hG hlocks (⟨(by unfold q_pio; exact (q_fnd_hit (by omega) hno (by omega)).symm), hoa_M2, hob_M2⟩) dX6_inOrder_29
  exact L_10 _ 0 0  rfl (by omega) (fun j h => absurd h (Nat.not_lt_zero _)) (Nat.lt_succ_self _) _ _ _ hG (lv_sub hl [0, 1, 2] rfl)
set_option maxHeartbeats 4000000 in
set_option maxRecDepth 100000 in
theorem c_X6_note (l : Launch) (G : gG) (M : Nat → Nat → Int) (hdm : ∀ k, k < 179 → gdm G k) (n : Nat) (hn : n ≤ 14) (h8 : M 169 8 = (n : Int)) : gMv l yX6_note wsX6_note ({ frames := 1, cells := 0, slots := 0, locals := 24 } : Room) G M [.ref (gad G 169)] (fun M1 => M1 169 8 = ((q_rn n + 1 : Nat) : Int) ∧ (∀ b : Nat, b < 146 * q_rn n → M1 174 b = M 174 (if n = 14 then b + 146 else b)) ∧ (∀ j : Nat, j < 146 → M1 174 (146 * q_rn n + j) = M 172 j) ∧ (∀ a, a ≠ 169 → a ≠ 174 → M1 a = M a) ∧ ∀ b : Nat, b ≠ 8 → M1 169 b = M 169 b) := by
  refine gMv_of (cc := cX6_note) (maxL := 2) (ret := none) (by decide) rfl (Nat.le_of_ble_eq_true rfl) ?_
  intro p e s m below meth c ls hx hb hr hml hown hts hlocks hl hG
  have hown : s.vm.findClass RX6 = some m.cls := hown
  have hl : lv_has ls 2 [(0, .ref (gad G 169))] := hl
  have hinX6 : ∀ w ∈ u_ws RX6 TX6 13, w ∈ wsX6_note := by decide +kernel
  have f16 := hts (.fieldLink RX6 16 "DogTrialsModel" "now" "[I") (by decide +kernel)
  have f22 := hts (.fieldLink RX6 22 "DogTrialsModel" "diary" "[I") (by decide +kernel)
  have f149 := hts (.fieldLink RX6 149 "DogTrialsModel" "acts" "I") (by decide +kernel)
  refine lv_aload_n hx hb dX6_note_0 rfl (lv_at hl 0 rfl) ?_
  refine g_geti (z := (n : Int)) hx hb hts hinX6 hown hG (o := 169) (hdm 169 (by decide)) rfl rfl 8 (by decide) f149 (fun _ h => h) rfl h8 dX6_note_1 ?_
  refine lv_bipush (v := iZ (14)) hx hb dX6_note_4 (by decide) ?_
  refine z_icmp_ne (tgt := 50) hx hb (by omega) (by decide) dX6_note_6 (by decide) (fun c_6 => ?_) (fun c_6 => ?_)
  · skip
    refine lv_aload_n hx hb dX6_note_50 rfl (lv_at hl 0 rfl) ?_
    refine g_get hx hb hts hinX6 hown hG (o := 169) (hdm 169 (by decide)) rfl rfl 5 (by decide) f16 (fun _ h => h) rfl dX6_note_51 ?_
    refine lv_iconst (v := iZ 0) hx hb dX6_note_54 rfl ?_
    refine lv_aload_n hx hb dX6_note_55 rfl (lv_at hl 0 rfl) ?_
    refine g_get hx hb hts hinX6 hown hG (o := 169) (hdm 169 (by decide)) rfl rfl 7 (by decide) f22 (fun _ h => h) rfl dX6_note_56 ?_
    refine lv_sipush (v := iZ (146)) hx hb dX6_note_59 (by decide) ?_
    refine lv_aload_n hx hb dX6_note_62 rfl (lv_at hl 0 rfl) ?_
    refine g_geti (z := (n : Int)) hx hb hts hinX6 hown hG (o := 169) (hdm 169 (by decide)) rfl rfl 8 (by decide) f149 (fun _ h => h) rfl h8 dX6_note_63 ?_
    refine z_imul (z := (146 * (n : Int))) hx hb (by omega) dX6_note_66 ?_
    refine g_vcallS (As := [.ref (gad G 172), .int (iZ 0), .ref (gad G 174), .int (iZ (146 * (n : Int)))]) (rest := []) ⟨hx, hb, hml, hown, hts⟩ (c_X6_copyPage l G M hdm 172 174 146 2044 0 (146 * n) (by decide) (by decide) (fun f => rfl) (fun f => rfl) (by decide) (by omega) (by decide) (by decide) (by decide)) (va_cwS 4 hts gX6_note_X6_copyPage rfl rfl rfl (by decide +kernel) ⟨Nat.le_of_ble_eq_true rfl, Nat.le_of_ble_eq_true rfl⟩) hG rfl hl.1 rfl (Nat.le_of_ble_eq_true rfl) dX6_note_67 ⟨Nat.zero_le _, Nat.zero_le _⟩ (fun M2 H locs hp_67 hG => ?_)
    obtain ⟨hpa_M2, hpb_M2, hpo_M2⟩ := hp_67
    refine lv_aload_n hx hb dX6_note_70 rfl (lv_at hl 0 rfl) ?_
    refine lv_dup hx hb dX6_note_71 rfl ?_
    refine g_geti (z := (n : Int)) hx hb hts hinX6 hown hG (o := 169) (hdm 169 (by decide)) rfl rfl 8 (by decide) f149 (fun _ h => h) rfl (by rw [hpo_M2 169 (by decide)]; exact h8) dX6_note_72 ?_
    refine lv_iconst (v := iZ 1) hx hb dX6_note_75 rfl ?_
    refine z_iadd (z := ((n : Int) + 1)) hx hb (by omega) dX6_note_76 ?_
    refine g_put (F := (oR G)) hx hb hts hinX6 tyX6 tyX6_ok nmX6 hown hG (o := 169) (hdm 169 (by decide)) (fun f => rfl) rfl 8 (by decide) f149 (fun _ h => h) rfl rfl (fun _ => Nat.lt_of_lt_of_le (by decide) (Nat.le_refl 13)) (fun _ => rfl) dX6_note_77 (fun H locs hG => ?_)
    obtain ⟨M3, hM3⟩ : ∃ X, X = (q_wr M2 169 8 ((n : Int) + 1)) := ⟨_, rfl⟩
    rw [← hM3] at hG
    have p1 : M3 169 8 = ((q_rn n + 1 : Nat) : Int) := by rw [hM3, wr_eq]; unfold q_rn; rw [if_neg (by omega)]; omega
    have p2 : ∀ b : Nat, b < 146 * q_rn n → M3 174 b = M 174 (if n = 14 then b + 146 else b) := fun b h9 => by unfold q_rn at h9; rw [if_neg (by omega)] at h9 ⊢; rw [hM3, wr_off _ _ _ (by decide), hpb_M2 b (by omega)]
    have p3 : ∀ j : Nat, j < 146 → M3 174 (146 * q_rn n + j) = M 172 j := fun j h9 => by unfold q_rn; rw [if_neg (by omega), hM3, wr_off _ _ _ (by decide), hpa_M2 j h9, Nat.zero_add]
    have p4 : ∀ a, a ≠ 169 → a ≠ 174 → M3 a = M a := fun a h1 h2 => by rw [hM3, wr_off _ _ _ h1, hpo_M2 a h2]
    have p5 : ∀ b : Nat, b ≠ 8 → M3 169 b = M 169 b := fun b h1 => by rw [hM3, wr_ne _ _ _ h1, hpo_M2 169 (by decide)]
    exact g_vret hx hb hr hG hlocks (⟨p1, p2, p3, p4, p5⟩) dX6_note_80
  · skip
    refine lv_iconst (v := iZ 0) hx hb dX6_note_9 rfl ?_
    refine lv_istore_n (lv' := [(1, .int (iZ 0)), (0, .ref (gad G 169))]) hx hb dX6_note_10 rfl hl (by decide) rfl (fun ls hl => ?_)
    have L_11 : ∀ (n_11 : Nat) (k : Nat) (x_i : Int) (Mk : Nat → Nat → Int), (x_i = (k : Int)) → (k ≤ 1898) → ((∀ b : Nat, b < k → Mk 174 b = M 174 (b + 146))) → ((∀ b : Nat, k ≤ b → Mk 174 b = M 174 b)) → ((∀ a, a ≠ 174 → Mk a = M a)) → 1898 - k < n_11 → ∀ (H : Heap) (locs : List Loc) (ls : Array Slot), gH G Mk s H locs → lv_has ls 2 [(1, .int (iZ x_i)), (0, .ref (gad G 169))] → W p l e ({ frames := 1, cells := 0, slots := 0, locals := 24 } : Room) s m [.ref (gad G 169)].toArray below meth c H locs 0 0 (MQ below (va_Qv (fun (u : Nat → Nat → Int) => (fun M1 => M1 169 8 = ((q_rn n + 1 : Nat) : Int) ∧ (∀ b : Nat, b < 146 * q_rn n → M1 174 b = M 174 (if n = 14 then b + 146 else b)) ∧ (∀ j : Nat, j < 146 → M1 174 (146 * q_rn n + j) = M 172 j) ∧ (∀ a, a ≠ 169 → a ≠ 174 → M1 a = M a) ∧ ∀ b : Nat, b ≠ 8 → M1 169 b = M 169 b) u) (fun u U => gB G u U) (gA G)) [.ref (gad G 169)].toArray s 0 0 (gA G)) (F0 m 11 ls []) := by
      intro n_11
      induction n_11 with
      | zero => intro k x_i Mk he_x_i hk hrw hrb ho hm_11; exact absurd hm_11 (Nat.not_lt_zero _)
      | succ n_11 ih_11 =>
        intro k x_i Mk he_x_i hk hrw hrb ho hm_11 H locs ls hG hl
        subst he_x_i
        refine lv_iload_n hx hb dX6_note_11 rfl (lv_at hl 0 rfl) ?_
        refine lv_sipush (v := iZ (1898)) hx hb dX6_note_12 (by decide) ?_
        refine z_icmp_ge (tgt := 40) hx hb (by omega) (by decide) dX6_note_15 (by decide) (fun c_15 => ?_) (fun c_15 => ?_)
        · skip
          refine lv_aload_n hx hb dX6_note_40 rfl (lv_at hl 1 rfl) ?_
          refine lv_dup hx hb dX6_note_41 rfl ?_
          refine g_geti (z := (n : Int)) hx hb hts hinX6 hown hG (o := 169) (hdm 169 (by decide)) rfl rfl 8 (by decide) f149 (fun _ h => h) rfl (by rw [ho 169 (by decide)]; exact h8) dX6_note_42 ?_
          refine lv_iconst (v := iZ 1) hx hb dX6_note_45 rfl ?_
          refine z_isub (z := ((n : Int) - 1)) hx hb (by omega) dX6_note_46 ?_
          refine g_put (F := (oR G)) hx hb hts hinX6 tyX6 tyX6_ok nmX6 hown hG (o := 169) (hdm 169 (by decide)) (fun f => rfl) rfl 8 (by decide) f149 (fun _ h => h) rfl rfl (fun _ => Nat.lt_of_lt_of_le (by decide) (Nat.le_refl 13)) (fun _ => rfl) dX6_note_47 (fun H locs hG => ?_)
          obtain ⟨M4, hM4⟩ : ∃ X, X = (q_wr Mk 169 8 ((n : Int) - 1)) := ⟨_, rfl⟩
          rw [← hM4] at hG
          refine lv_aload_n hx hb dX6_note_50 rfl (lv_at hl 1 rfl) ?_
          refine g_get hx hb hts hinX6 hown hG (o := 169) (hdm 169 (by decide)) rfl rfl 5 (by decide) f16 (fun _ h => h) rfl dX6_note_51 ?_
          refine lv_iconst (v := iZ 0) hx hb dX6_note_54 rfl ?_
          refine lv_aload_n hx hb dX6_note_55 rfl (lv_at hl 1 rfl) ?_
          refine g_get hx hb hts hinX6 hown hG (o := 169) (hdm 169 (by decide)) rfl rfl 7 (by decide) f22 (fun _ h => h) rfl dX6_note_56 ?_
          refine lv_sipush (v := iZ (146)) hx hb dX6_note_59 (by decide) ?_
          refine lv_aload_n hx hb dX6_note_62 rfl (lv_at hl 1 rfl) ?_
          refine g_geti (z := 13) hx hb hts hinX6 hown hG (o := 169) (hdm 169 (by decide)) rfl rfl 8 (by decide) f149 (fun _ h => h) rfl (by rw [hM4, wr_eq]; omega) dX6_note_63 ?_
          refine z_imul (z := 1898) hx hb (by omega) dX6_note_66 ?_
          refine g_vcallS (As := [.ref (gad G 172), .int (iZ 0), .ref (gad G 174), .int (iZ 1898)]) (rest := []) ⟨hx, hb, hml, hown, hts⟩ (c_X6_copyPage l G M4 hdm 172 174 146 2044 0 1898 (by decide) (by decide) (fun f => rfl) (fun f => rfl) (by decide) (by omega) (by decide) (by decide) (by decide)) (va_cwS 4 hts gX6_note_X6_copyPage rfl rfl rfl (by decide +kernel) ⟨Nat.le_of_ble_eq_true rfl, Nat.le_of_ble_eq_true rfl⟩) hG rfl hl.1 rfl (Nat.le_of_ble_eq_true rfl) dX6_note_67 ⟨Nat.zero_le _, Nat.zero_le _⟩ (fun M6 H locs hp_67 hG => ?_)
          obtain ⟨hpa_M6, hpb_M6, hpo_M6⟩ := hp_67
          refine lv_aload_n hx hb dX6_note_70 rfl (lv_at hl 1 rfl) ?_
          refine lv_dup hx hb dX6_note_71 rfl ?_
          refine g_geti (z := 13) hx hb hts hinX6 hown hG (o := 169) (hdm 169 (by decide)) rfl rfl 8 (by decide) f149 (fun _ h => h) rfl (by rw [hpo_M6 169 (by decide), hM4, wr_eq]; omega) dX6_note_72 ?_
          refine lv_iconst (v := iZ 1) hx hb dX6_note_75 rfl ?_
          refine z_iadd (z := 14) hx hb (by omega) dX6_note_76 ?_
          refine g_put (F := (oR G)) hx hb hts hinX6 tyX6 tyX6_ok nmX6 hown hG (o := 169) (hdm 169 (by decide)) (fun f => rfl) rfl 8 (by decide) f149 (fun _ h => h) rfl rfl (fun _ => Nat.lt_of_lt_of_le (by decide) (Nat.le_refl 13)) (fun _ => rfl) dX6_note_77 (fun H locs hG => ?_)
          obtain ⟨M7, hM7⟩ : ∃ X, X = (q_wr M6 169 8 14) := ⟨_, rfl⟩
          rw [← hM7] at hG
          have p1 : M7 169 8 = ((q_rn n + 1 : Nat) : Int) := by rw [hM7, wr_eq]; unfold q_rn; rw [if_pos (by omega)]; omega
          have p2 : ∀ b : Nat, b < 146 * q_rn n → M7 174 b = M 174 (if n = 14 then b + 146 else b) := fun b h9 => by unfold q_rn at h9; rw [if_pos (by omega)] at h9 ⊢; rw [hM7, wr_off _ _ _ (by decide), hpb_M6 b (by omega), hM4, wr_off _ _ _ (by decide), hrw b (by omega)]
          have p3 : ∀ j : Nat, j < 146 → M7 174 (146 * q_rn n + j) = M 172 j := fun j h9 => by unfold q_rn; rw [if_pos (by omega), hM7, wr_off _ _ _ (by decide), show 146 * 13 + j = 1898 + j by omega, hpa_M6 j h9, hM4, wr_off _ _ _ (by decide), ho 172 (by decide), Nat.zero_add]
          have p4 : ∀ a, a ≠ 169 → a ≠ 174 → M7 a = M a := fun a h1 h2 => by rw [hM7, wr_off _ _ _ h1, hpo_M6 a h2, hM4, wr_off _ _ _ h1, ho a h2]
          have p5 : ∀ b : Nat, b ≠ 8 → M7 169 b = M 169 b := fun b h1 => by rw [hM7, wr_ne _ _ _ h1, hpo_M6 169 (by decide), hM4, wr_ne _ _ _ h1, ho 169 (by decide)]
          exact g_vret hx hb hr hG hlocks (⟨p1, p2, p3, p4, p5⟩) dX6_note_80
        · skip
          refine lv_aload_n hx hb dX6_note_18 rfl (lv_at hl 1 rfl) ?_
          refine g_get hx hb hts hinX6 hown hG (o := 169) (hdm 169 (by decide)) rfl rfl 7 (by decide) f22 (fun _ h => h) rfl dX6_note_19 ?_
          refine lv_iload_n hx hb dX6_note_22 rfl (lv_at hl 0 rfl) ?_
          refine lv_aload_n hx hb dX6_note_23 rfl (lv_at hl 1 rfl) ?_
          refine g_get hx hb hts hinX6 hown hG (o := 169) (hdm 169 (by decide)) rfl rfl 7 (by decide) f22 (fun _ h => h) rfl dX6_note_24 ?_
          refine lv_iload_n hx hb dX6_note_27 rfl (lv_at hl 0 rfl) ?_
          refine lv_sipush (v := iZ (146)) hx hb dX6_note_28 (by decide) ?_
          refine z_iadd (z := ((k : Int) + 146)) hx hb (by omega) dX6_note_31 ?_
          refine g_iald (z := (Mk 174 (k + 146))) (j := (k + 146)) hx hb hG (o := 174) (hdm 174 (by decide)) rfl (by omega) (by omega) (by omega) rfl dX6_note_32 ?_
          refine g_iast (j := k) hx hb hG (o := 174) (hdm 174 (by decide)) (fun f => rfl) (by omega) (by omega) (by omega) dX6_note_33 (fun H locs hG => ?_)
          obtain ⟨M8, hM8⟩ : ∃ X, X = (q_wr Mk 174 k (Mk 174 (k + 146))) := ⟨_, rfl⟩
          rw [← hM8] at hG
          refine z_iinc (z := ((k : Int) + 1)) (lv' := [(1, .int (iZ ((k : Int) + 1))), (0, .ref (gad G 169))]) hx hb dX6_note_34 hl (k := 0) rfl (by omega) (by decide) rfl (fun ls hl => ?_)
          refine lv_goto (tgt := 11) hx hb dX6_note_37 (by decide) ?_
          exact ih_11 (k + 1) ((k : Int) + 1) M8 (by omega) (by omega) (fun b hb9 => by rw [hM8, wr_ap]; by_cases e9 : b = k; (subst e9; rw [if_pos ⟨rfl, rfl⟩]; exact hrb _ (by omega)); (rw [if_neg (fun h => e9 h.2)]; exact hrw b (by omega))) (fun b hb9 => by rw [hM8, wr_ne _ _ _ (by omega)]; exact hrb b (by omega)) (fun a ha => by rw [hM8, wr_off _ _ _ ha]; exact ho a ha) (by omega) _ _ _ hG (lv_sub hl [0, 1] rfl)
    exact L_11 _ 0 0 M rfl (by omega) (fun b h => absurd h (Nat.not_lt_zero _)) (fun _ _ => rfl) (fun _ _ => rfl) (Nat.lt_succ_self _) _ _ _ hG (lv_sub hl [0, 1] rfl)
