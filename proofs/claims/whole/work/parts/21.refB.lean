set_option maxHeartbeats 4000000 in
set_option maxRecDepth 100000 in
theorem c_X6_pointsBy (l : Launch) (G : gG) (M : Nat → Nat → Int) (v : Int) (hv : 0 ≤ v ∧ v < 2147483648) : gMl l yX6_pointsBy wsX6_pointsBy ({ frames := 1, cells := 0, slots := 0, locals := 20 } : Room) G M [.int (iZ v)] (fun z M1 => z = q_pb v ∧ M1 = M) := by
  refine gMl_of (cc := cX6_pointsBy) (maxL := 4) (ret := some .long) (by decide) rfl (Nat.le_of_ble_eq_true rfl) ?_
  intro p e s m below meth c ls hx hb hr hml hown hts hlocks hl hG
  have hown : s.vm.findClass RX6 = some m.cls := hown
  have hl : lv_has ls 4 [(0, .int (iZ v))] := hl
  refine lv_lconst (v := lZ 0) hx hb dX6_pointsBy_0 rfl ?_
  refine lv_lstore_n (lv' := [(1, .long (lZ 0)), (0, .int (iZ v))]) hx hb dX6_pointsBy_1 rfl hl (by decide) rfl (fun ls hl => ?_)
  refine lv_iconst (v := iZ 0) hx hb dX6_pointsBy_2 rfl ?_
  refine lv_istore_n (lv' := [(3, .int (iZ 0)), (1, .long (lZ 0)), (0, .int (iZ v))]) hx hb dX6_pointsBy_3 rfl hl (by decide) rfl (fun ls hl => ?_)
  have L_4 : ∀ (n_4 : Nat) (k : Nat) (x_i : Int) (x_p : Int), (x_i = (k : Int)) → (x_p = (q_pbn v k)) → (k ≤ 6) → 6 - k < n_4 → ∀ (H : Heap) (locs : List Loc) (ls : Array Slot), gH G M s H locs → lv_has ls 4 [(3, .int (iZ x_i)), (1, .long (lZ x_p)), (0, .int (iZ v))] → W p l e ({ frames := 1, cells := 0, slots := 0, locals := 20 } : Room) s m [.int (iZ v)].toArray below meth c H locs 0 0 (MQ below (va_Ql (fun r (u : Int × (Nat → Nat → Int)) => r = lZ u.1 ∧ (fun z M1 => z = q_pb v ∧ M1 = M) u.1 u.2) (fun u U => gB G u.2 U) (gA G)) [.int (iZ v)].toArray s 0 0 (gA G)) (F0 m 4 ls []) := by
    intro n_4
    induction n_4 with
    | zero => intro k x_i x_p he_x_i he_x_p hk hm_4; exact absurd hm_4 (Nat.not_lt_zero _)
    | succ n_4 ih_4 =>
      intro k x_i x_p he_x_i he_x_p hk hm_4 H locs ls hG hl
      subst he_x_i
      subst he_x_p
      have hwk := wth_in k
      have hmk := q_wmod v k
      refine lv_iload_n hx hb dX6_pointsBy_4 rfl (lv_at hl 0 rfl) ?_
      refine lv_bipush (v := iZ (6)) hx hb dX6_pointsBy_5 (by decide) ?_
      refine z_icmp_ge (tgt := 32) hx hb (by omega) (by decide) dX6_pointsBy_7 (by decide) (fun c_7 => ?_) (fun c_7 => ?_)
      · skip
        refine lv_lload_n hx hb dX6_pointsBy_32 rfl (lv_at hl 1 rfl) ?_
        exact g_lret (post := fun z M1 => z = q_pb v ∧ M1 = M) (z := (q_pbn v k)) hx hb hr hG hlocks (⟨by unfold q_pb; rw [show 6 = k by omega], rfl⟩) dX6_pointsBy_33
      · skip
        refine lv_ldc2 (v := lZ 100) hx hb hown (by rw [show lZ 100 = (100 : Int64) from by decide]; exact hts (.constantLong RX6 95 100) (by decide +kernel)) dX6_pointsBy_10 ?_
        refine lv_lload_n hx hb dX6_pointsBy_13 rfl (lv_at hl 1 rfl) ?_
        refine z_lmul (z := (100 * (q_pbn v k))) hx hb (by omega) dX6_pointsBy_14 ?_
        refine lv_iload_n hx hb dX6_pointsBy_15 rfl (lv_at hl 2 rfl) ?_
        refine lv_iload_n hx hb dX6_pointsBy_16 rfl (lv_at hl 0 rfl) ?_
        refine g_callS (As := [.int (iZ (k : Int))]) (rest := [.int (iZ v), .long (lZ (100 * (q_pbn v k)))]) ⟨hx, hb, hml, hown, hts⟩ (c_X6_worth l G M k (by omega)) (va_cwS 1 hts gX6_pointsBy_X6_worth rfl rfl rfl (by decide +kernel) ⟨Nat.le_of_ble_eq_true rfl, Nat.le_of_ble_eq_true rfl⟩) hG rfl hl.1 rfl (Nat.le_of_ble_eq_true rfl) dX6_pointsBy_17 ⟨Nat.zero_le _, Nat.zero_le _⟩ (fun z1 M2 H locs hp_17 hG => ?_)
        obtain ⟨hz_17, hM_17⟩ := hp_17; replace hz_17 := hz_17.symm; subst hz_17; replace hM_17 := hM_17.symm; subst hM_17
        refine lv_iconst (v := iZ 1) hx hb dX6_pointsBy_20 rfl ?_
        refine z_iadd (z := ((q_wth k) + 1)) hx hb (by omega) dX6_pointsBy_21 ?_
        refine z_irem (z := (v % (q_wth k + 1))) hx hb (by omega) (by omega) rfl dX6_pointsBy_22 ?_
        refine z_i2l hx hb (by omega) dX6_pointsBy_23 ?_
        refine z_ladd (z := (100 * (q_pbn v k) + (v % (q_wth k + 1)))) hx hb (by omega) dX6_pointsBy_24 ?_
        refine lv_lstore_n (lv' := [(1, .long (lZ (100 * (q_pbn v k) + (v % (q_wth k + 1))))), (3, .int (iZ (k : Int))), (0, .int (iZ v))]) hx hb dX6_pointsBy_25 rfl hl (by decide) rfl (fun ls hl => ?_)
        refine z_iinc (z := ((k : Int) + 1)) (lv' := [(3, .int (iZ ((k : Int) + 1))), (1, .long (lZ (100 * (q_pbn v k) + (v % (q_wth k + 1))))), (0, .int (iZ v))]) hx hb dX6_pointsBy_26 hl (k := 1) rfl (by omega) (by decide) rfl (fun ls hl => ?_)
        refine lv_goto (tgt := 4) hx hb dX6_pointsBy_29 (by decide) ?_
        exact ih_4 (k + 1) ((k : Int) + 1) (100 * (q_pbn v k) + (v % (q_wth k + 1)))  (by omega) (by rw [q_pbn]) (by omega) (by omega) _ _ _ hG (lv_sub hl [0, 1, 2] rfl)
  exact L_4 _ 0 0 0  rfl rfl (by omega) (Nat.lt_succ_self _) _ _ _ hG (lv_sub hl [0, 1, 2] rfl)
set_option maxHeartbeats 4000000 in
set_option maxRecDepth 100000 in
theorem c_X6_arePoints (l : Launch) (G : gG) (M : Nat → Nat → Int) (v : Int) (hv : -9223372036854775808 ≤ v ∧ v < 9223372036854775808) : gMi l yX6_arePoints wsX6_arePoints ({ frames := 1, cells := 0, slots := 0, locals := 25 } : Room) G M [.long (lZ v)] (fun z M1 => z = (if q_ptb v 6 = true then 1 else 0) ∧ M1 = M) := by
  refine gMi_of (cc := cX6_arePoints) (maxL := 6) (ret := some .boolean) (by decide) rfl (Nat.le_of_ble_eq_true rfl) ?_
  intro p e s m below meth c ls hx hb hr hml hown hts hlocks hl hG
  have hown : s.vm.findClass RX6 = some m.cls := hown
  have hl : lv_has ls 6 [(0, .long (lZ v))] := hl
  refine lv_lload_n hx hb dX6_arePoints_0 rfl (lv_at hl 0 rfl) ?_
  refine lv_lconst (v := lZ 0) hx hb dX6_arePoints_1 rfl ?_
  refine lv_ldc2 (v := lZ 999999999999) hx hb hown (by rw [show lZ 999999999999 = (999999999999 : Int64) from by decide]; exact hts (.constantLong RX6 181 999999999999) (by decide +kernel)) dX6_arePoints_2 ?_
  refine g_callS (As := [.long (lZ v), .long (lZ 0), .long (lZ 999999999999)]) (rest := []) ⟨hx, hb, hml, hown, hts⟩ (c_X6_in l G M v 0 999999999999 (by omega) (by omega) (by omega)) (va_cwS 3 hts gX6_arePoints_X6_in rfl rfl rfl (by decide +kernel) ⟨Nat.le_of_ble_eq_true rfl, Nat.le_of_ble_eq_true rfl⟩) hG rfl hl.1 rfl (Nat.le_of_ble_eq_true rfl) dX6_arePoints_5 ⟨Nat.zero_le _, Nat.zero_le _⟩ (fun z1 M2 H locs hp_5 hG => ?_)
  obtain ⟨hz_5, hM_5⟩ := hp_5; replace hz_5 := hz_5.symm; subst hz_5; replace hM_5 := hM_5.symm; subst hM_5
  rw [show (if (0 : Int) ≤ v ∧ v ≤ 999999999999 then (1 : Int) else 0) = (if q_ptb v 0 = true then 1 else 0) from by rw [q_ptb]; by_cases h9 : 0 ≤ v ∧ v ≤ 999999999999; (rw [if_pos h9, if_pos (decide_eq_true h9)]); (rw [if_neg h9, if_neg (fun h8 => h9 (of_decide_eq_true h8))])]
  refine lv_istore_n (lv' := [(2, .int (iZ (if q_ptb v 0 = true then 1 else 0))), (0, .long (lZ v))]) hx hb dX6_arePoints_8 rfl hl (by decide) rfl (fun ls hl => ?_)
  refine lv_lload_n hx hb dX6_arePoints_9 rfl (lv_at hl 1 rfl) ?_
  refine lv_lstore_n (lv' := [(3, .long (lZ v)), (2, .int (iZ (if q_ptb v 0 = true then 1 else 0))), (0, .long (lZ v))]) hx hb dX6_arePoints_10 rfl hl (by decide) rfl (fun ls hl => ?_)
  refine lv_iconst (v := iZ 5) hx hb dX6_arePoints_11 rfl ?_
  refine lv_istore (lv' := [(5, .int (iZ 5)), (3, .long (lZ v)), (2, .int (iZ (if q_ptb v 0 = true then 1 else 0))), (0, .long (lZ v))]) hx hb dX6_arePoints_12 hl (by decide) rfl (fun ls hl => ?_)
  have L_14 : ∀ (n_14 : Nat) (k : Nat) (x_i : Int) (x_r : Int) (x_b : Int), (x_i = (5 - (k : Int))) → (x_r = (q_rt v k)) → (x_b = (if q_ptb v k = true then 1 else 0)) → (k ≤ 6) → 7 - k < n_14 → ∀ (H : Heap) (locs : List Loc) (ls : Array Slot), gH G M s H locs → lv_has ls 6 [(5, .int (iZ x_i)), (3, .long (lZ x_r)), (2, .int (iZ x_b)), (0, .long (lZ v))] → W p l e ({ frames := 1, cells := 0, slots := 0, locals := 25 } : Room) s m [.long (lZ v)].toArray below meth c H locs 0 0 (MQ below (va_Qi (fun r (u : Int × (Nat → Nat → Int)) => r = iZ u.1 ∧ (fun z M1 => z = (if q_ptb v 6 = true then 1 else 0) ∧ M1 = M) u.1 u.2) (fun u U => gB G u.2 U) (gA G)) [.long (lZ v)].toArray s 0 0 (gA G)) (F0 m 14 ls []) := by
    intro n_14
    induction n_14 with
    | zero => intro k x_i x_r x_b he_x_i he_x_r he_x_b hk hm_14; exact absurd hm_14 (Nat.not_lt_zero _)
    | succ n_14 ih_14 =>
      intro k x_i x_r x_b he_x_i he_x_r he_x_b hk hm_14 H locs ls hG hl
      subst he_x_i
      subst he_x_r
      subst he_x_b
      have hrt := q_rt_in v k
      have htm := tmod_in (q_rt v k)
      have hwk := wth_in (5 - k)
      refine lv_iload hx hb dX6_arePoints_14 (lv_at hl 0 rfl) ?_
      refine z_if_lt (tgt := 54) hx hb (by omega) dX6_arePoints_16 (by decide) (fun c_16 => ?_) (fun c_16 => ?_)
      · skip
        refine lv_iload_n hx hb dX6_arePoints_54 rfl (lv_at hl 2 rfl) ?_
        exact g_zret (post := fun z M1 => z = (if q_ptb v 6 = true then 1 else 0) ∧ M1 = M) (z := (if q_ptb v k = true then 1 else 0)) hx hb hr hG hlocks (by split <;> simp) (⟨by rw [show k = 6 by omega], rfl⟩) dX6_arePoints_55
      · skip
        refine lv_iload_n hx hb dX6_arePoints_19 rfl (lv_at hl 2 rfl) ?_
        refine lv_lload_n hx hb dX6_arePoints_20 rfl (lv_at hl 1 rfl) ?_
        refine lv_ldc2 (v := lZ 100) hx hb hown (by rw [show lZ 100 = (100 : Int64) from by decide]; exact hts (.constantLong RX6 95 100) (by decide +kernel)) dX6_arePoints_21 ?_
        refine z_lrem (z := ((q_rt v k).tmod 100)) hx hb (by omega) (by omega) rfl dX6_arePoints_24 ?_
        refine lv_iload hx hb dX6_arePoints_25 (lv_at hl 0 rfl) ?_
        rw [show (5 - (k : Int)) = ((5 - k : Nat) : Int) by omega]
        refine g_callS (As := [.int (iZ ((5 - k : Nat) : Int))]) (rest := [.long (lZ ((q_rt v k).tmod 100)), .int (iZ (if q_ptb v k = true then 1 else 0))]) ⟨hx, hb, hml, hown, hts⟩ (c_X6_worth l G M (5 - k) (by omega)) (va_cwS 1 hts gX6_arePoints_X6_worth rfl rfl rfl (by decide +kernel) ⟨Nat.le_of_ble_eq_true rfl, Nat.le_of_ble_eq_true rfl⟩) hG rfl hl.1 rfl (Nat.le_of_ble_eq_true rfl) dX6_arePoints_27 ⟨Nat.zero_le _, Nat.zero_le _⟩ (fun z3 M4 H locs hp_27 hG => ?_)
        obtain ⟨hz_27, hM_27⟩ := hp_27; replace hz_27 := hz_27.symm; subst hz_27; replace hM_27 := hM_27.symm; subst hM_27
        refine z_i2l hx hb (by omega) dX6_arePoints_30 ?_
        refine W.lcmp hx hb dX6_arePoints_31 ?_
        refine z_ifL_gt (tgt := 39) hx hb (by omega) (by omega) dX6_arePoints_32 (by decide) (fun c_32 => ?_) (fun c_32 => ?_)
        · skip
          refine lv_iconst (v := iZ 0) hx hb dX6_arePoints_39 rfl ?_
          refine z_iand0 hx hb dX6_arePoints_40 ?_
          refine lv_istore_n (lv' := [(2, .int (iZ 0)), (5, .int (iZ (5 - (k : Int)))), (3, .long (lZ (q_rt v k))), (0, .long (lZ v))]) hx hb dX6_arePoints_41 rfl hl (by decide) rfl (fun ls hl => ?_)
          refine lv_lload_n hx hb dX6_arePoints_42 rfl (lv_at hl 2 rfl) ?_
          refine lv_ldc2 (v := lZ 100) hx hb hown (by rw [show lZ 100 = (100 : Int64) from by decide]; exact hts (.constantLong RX6 95 100) (by decide +kernel)) dX6_arePoints_43 ?_
          refine z_ldiv (z := ((q_rt v k).tdiv 100)) hx hb (by omega) (by omega) rfl dX6_arePoints_46 ?_
          refine lv_lstore_n (lv' := [(3, .long (lZ ((q_rt v k).tdiv 100))), (2, .int (iZ 0)), (5, .int (iZ (5 - (k : Int)))), (0, .long (lZ v))]) hx hb dX6_arePoints_47 rfl hl (by decide) rfl (fun ls hl => ?_)
          refine z_iinc (z := (4 - (k : Int))) (lv' := [(5, .int (iZ (4 - (k : Int)))), (3, .long (lZ ((q_rt v k).tdiv 100))), (2, .int (iZ 0)), (0, .long (lZ v))]) hx hb dX6_arePoints_48 hl (k := 2) rfl (by omega) (by decide) rfl (fun ls hl => ?_)
          refine lv_goto (tgt := 14) hx hb dX6_arePoints_51 (by decide) ?_
          exact ih_14 (k + 1) (4 - (k : Int)) ((q_rt v k).tdiv 100) 0  (by omega) (by rw [q_rt]) (by rw [q_ptb]; first | (rw [show decide ((q_rt v k).tmod 100 ≤ q_wth (5 - k)) = true from decide_eq_true (by omega), Bool.and_true]; first | done | rfl) | (rw [show decide ((q_rt v k).tmod 100 ≤ q_wth (5 - k)) = false from decide_eq_false (by omega), Bool.and_false]; first | done | rfl)) (by omega) (by omega) _ _ _ hG (lv_sub hl [0, 1, 2, 3] rfl)
        · skip
          refine lv_iconst (v := iZ 1) hx hb dX6_arePoints_35 rfl ?_
          refine lv_goto (tgt := 40) hx hb dX6_arePoints_36 (by decide) ?_
          refine z_iand1 hx hb (by split <;> omega) dX6_arePoints_40 ?_
          refine lv_istore_n (lv' := [(2, .int (iZ (if q_ptb v k = true then 1 else 0))), (5, .int (iZ (5 - (k : Int)))), (3, .long (lZ (q_rt v k))), (0, .long (lZ v))]) hx hb dX6_arePoints_41 rfl hl (by decide) rfl (fun ls hl => ?_)
          refine lv_lload_n hx hb dX6_arePoints_42 rfl (lv_at hl 2 rfl) ?_
          refine lv_ldc2 (v := lZ 100) hx hb hown (by rw [show lZ 100 = (100 : Int64) from by decide]; exact hts (.constantLong RX6 95 100) (by decide +kernel)) dX6_arePoints_43 ?_
          refine z_ldiv (z := ((q_rt v k).tdiv 100)) hx hb (by omega) (by omega) rfl dX6_arePoints_46 ?_
          refine lv_lstore_n (lv' := [(3, .long (lZ ((q_rt v k).tdiv 100))), (2, .int (iZ (if q_ptb v k = true then 1 else 0))), (5, .int (iZ (5 - (k : Int)))), (0, .long (lZ v))]) hx hb dX6_arePoints_47 rfl hl (by decide) rfl (fun ls hl => ?_)
          refine z_iinc (z := (4 - (k : Int))) (lv' := [(5, .int (iZ (4 - (k : Int)))), (3, .long (lZ ((q_rt v k).tdiv 100))), (2, .int (iZ (if q_ptb v k = true then 1 else 0))), (0, .long (lZ v))]) hx hb dX6_arePoints_48 hl (k := 2) rfl (by omega) (by decide) rfl (fun ls hl => ?_)
          refine lv_goto (tgt := 14) hx hb dX6_arePoints_51 (by decide) ?_
          exact ih_14 (k + 1) (4 - (k : Int)) ((q_rt v k).tdiv 100) (if q_ptb v k = true then 1 else 0)  (by omega) (by rw [q_rt]) (by rw [q_ptb]; first | (rw [show decide ((q_rt v k).tmod 100 ≤ q_wth (5 - k)) = true from decide_eq_true (by omega), Bool.and_true]; first | done | rfl) | (rw [show decide ((q_rt v k).tmod 100 ≤ q_wth (5 - k)) = false from decide_eq_false (by omega), Bool.and_false]; first | done | rfl)) (by omega) (by omega) _ _ _ hG (lv_sub hl [0, 1, 2, 3] rfl)
  exact L_14 _ 0 5 v (if q_ptb v 0 = true then 1 else 0)  rfl rfl rfl (by omega) (Nat.lt_succ_self _) _ _ _ hG (lv_sub hl [0, 1, 2, 3] rfl)
set_option maxHeartbeats 4000000 in
set_option maxRecDepth 100000 in
theorem c_X6_round (l : Launch) (G : gG) (M : Nat → Nat → Int) (hdm : ∀ k, k < 179 → gdm G k) (hI : q_inv (M 173)) (r : Int) (hr : 0 ≤ r ∧ r < 2147483648) : gMv l yX6_round wsX6_round ({ frames := 5, cells := 0, slots := 0, locals := 113 } : Room) G M [.ref (gad G 169), .int (iZ r)] (fun M1 => M1 173 = q_rnd (M 173) r ∧ q_rf M M1) := by
  refine gMv_of (cc := cX6_round) (maxL := 4) (ret := none) (by decide) rfl (Nat.le_of_ble_eq_true rfl) ?_
  intro p e s m below meth c ls hx hb hr hml hown hts hlocks hl hG
  have hown : s.vm.findClass RX6 = some m.cls := hown
  have hl : lv_has ls 4 [(0, .ref (gad G 169)), (1, .int (iZ r))] := hl
  have hinX6 : ∀ w ∈ u_ws RX6 TX6 13, w ∈ wsX6_round := by decide +kernel
  have f19 := hts (.fieldLink RX6 19 "DogTrialsModel" "trial" "[I") (by decide +kernel)
  have hnd := hI.1
  have hob := q_ob_in (M 173)
  refine lv_aload_n hx hb dX6_round_0 rfl (lv_at hl 0 rfl) ?_
  refine g_get hx hb hts hinX6 hown hG (o := 169) (hdm 169 (by decide)) rfl rfl 6 (by decide) f19 (fun _ h => h) rfl dX6_round_1 ?_
  refine g_callS (As := [.ref (gad G 173)]) (rest := []) ⟨hx, hb, hml, hown, hts⟩ (c_X6_why l G M hdm 173 (Or.inr (Or.inr rfl)) hI) (va_cwS 1 hts gX6_round_X6_why rfl rfl rfl (by decide +kernel) ⟨Nat.le_of_ble_eq_true rfl, Nat.le_of_ble_eq_true rfl⟩) hG rfl hl.1 rfl (Nat.le_of_ble_eq_true rfl) dX6_round_4 ⟨Nat.zero_le _, Nat.zero_le _⟩ (fun z1 M2 H locs hp_4 hG => ?_)
  obtain ⟨hz_4, hM_4⟩ := hp_4; replace hz_4 := hz_4.symm; subst hz_4; replace hM_4 := hM_4.symm; subst hM_4
  refine lv_istore_n (lv' := [(2, .int (iZ (q_ob (M 173)))), (0, .ref (gad G 169)), (1, .int (iZ r))]) hx hb dX6_round_7 rfl hl (by decide) rfl (fun ls hl => ?_)
  refine lv_iload_n hx hb dX6_round_8 rfl (lv_at hl 0 rfl) ?_
  refine lv_iconst (v := iZ 2) hx hb dX6_round_9 rfl ?_
  refine z_icmp_ne (tgt := 34) hx hb (by omega) (by decide) dX6_round_10 (by decide) (fun c_10 => ?_) (fun c_10 => ?_)
  · skip
    refine lv_iload_n hx hb dX6_round_34 rfl (lv_at hl 0 rfl) ?_
    refine z_if_ne (tgt := 74) hx hb (by omega) dX6_round_35 (by decide) (fun c_35 => ?_) (fun c_35 => ?_)
    · skip
      refine lv_aload_n hx hb dX6_round_74 rfl (lv_at hl 1 rfl) ?_
      refine g_get hx hb hts hinX6 hown hG (o := 169) (hdm 169 (by decide)) rfl rfl 6 (by decide) f19 (fun _ h => h) rfl dX6_round_75 ?_
      refine lv_bipush (v := iZ (7)) hx hb dX6_round_78 (by decide) ?_
      refine g_iald (z := (q_nd (M 173))) (j := 7) hx hb hG (o := 173) (hdm 173 (by decide)) rfl (by omega) (by omega) (by omega) rfl dX6_round_80 ?_
      refine z_if_le (tgt := 125) hx hb (by omega) dX6_round_81 (by decide) (fun c_81 => ?_) (fun c_81 => ?_)
      · skip
        have hfr_0 : q_rf M M := q_rf.rf M
        have hfr := hfr_0
        exact g_vret hx hb hr hG hlocks (⟨by unfold q_rnd; rw [if_neg (by omega), if_neg (by omega), if_neg (by omega)]; first | done | exact rfl, hfr⟩) dX6_round_125
      · skip
        refine lv_iload_n hx hb dX6_round_84 rfl (lv_at hl 2 rfl) ?_
        refine lv_bipush (v := iZ (8)) hx hb dX6_round_85 (by decide) ?_
        refine z_idiv (z := (r / 8)) hx hb (by omega) (by omega) rfl dX6_round_87 ?_
        refine lv_aload_n hx hb dX6_round_88 rfl (lv_at hl 1 rfl) ?_
        refine g_get hx hb hts hinX6 hown hG (o := 169) (hdm 169 (by decide)) rfl rfl 6 (by decide) f19 (fun _ h => h) rfl dX6_round_89 ?_
        refine lv_bipush (v := iZ (7)) hx hb dX6_round_92 (by decide) ?_
        refine g_iald (z := (q_nd (M 173))) (j := 7) hx hb hG (o := 173) (hdm 173 (by decide)) rfl (by omega) (by omega) (by omega) rfl dX6_round_94 ?_
        refine z_irem (z := ((r / 8) % (q_nd (M 173)))) hx hb (by omega) (by omega) rfl dX6_round_95 ?_
        have hmd := q_rmod (R := M 173) (by omega) r
        rw [show ((r / 8) % (q_nd (M 173))) = ((((r / 8) % (q_nd (M 173))).toNat : Nat) : Int) by omega]
        refine lv_istore_n (lv' := [(3, .int (iZ ((((r / 8) % (q_nd (M 173))).toNat) : Int))), (2, .int (iZ (q_ob (M 173)))), (0, .ref (gad G 169)), (1, .int (iZ r))]) hx hb dX6_round_96 rfl hl (by decide) rfl (fun ls hl => ?_)
        refine lv_aload_n hx hb dX6_round_97 rfl (lv_at hl 2 rfl) ?_
        refine g_get hx hb hts hinX6 hown hG (o := 169) (hdm 169 (by decide)) rfl rfl 6 (by decide) f19 (fun _ h => h) rfl dX6_round_98 ?_
        refine lv_iload_n hx hb dX6_round_101 rfl (lv_at hl 0 rfl) ?_
        refine g_callS (As := [.ref (gad G 173), .int (iZ ((((r / 8) % (q_nd (M 173))).toNat) : Int))]) (rest := []) ⟨hx, hb, hml, hown, hts⟩ (c_X6_stateOf l G M hdm 173 (Or.inr (Or.inr rfl)) hI ((((r / 8) % (q_nd (M 173))).toNat)) (by omega)) (va_cwS 2 hts gX6_round_X6_stateOf rfl rfl rfl (by decide +kernel) ⟨Nat.le_of_ble_eq_true rfl, Nat.le_of_ble_eq_true rfl⟩) hG rfl hl.1 rfl (Nat.le_of_ble_eq_true rfl) dX6_round_102 ⟨Nat.zero_le _, Nat.zero_le _⟩ (fun z3 M4 H locs hp_102 hG => ?_)
        obtain ⟨hz_102, hM_102⟩ := hp_102; replace hz_102 := hz_102.symm; subst hz_102; replace hM_102 := hM_102.symm; subst hM_102
        have hsd := dok5 hI (r / 8 % q_nd (M 173)).toNat (by omega)
        refine lv_iconst (v := iZ 1) hx hb dX6_round_105 rfl ?_
        refine z_icmp_ne (tgt := 125) hx hb (by omega) (by decide) dX6_round_106 (by decide) (fun c_106 => ?_) (fun c_106 => ?_)
        · skip
          have hfr_0 : q_rf M M := q_rf.rf M
          have hfr := hfr_0
          exact g_vret hx hb hr hG hlocks (⟨by unfold q_rnd; rw [if_neg (by omega), if_neg (by omega), if_neg (by omega)]; first | done | exact rfl, hfr⟩) dX6_round_125
        · skip
          refine lv_aload_n hx hb dX6_round_109 rfl (lv_at hl 2 rfl) ?_
          refine g_get hx hb hts hinX6 hown hG (o := 169) (hdm 169 (by decide)) rfl rfl 6 (by decide) f19 (fun _ h => h) rfl dX6_round_110 ?_
          refine lv_iload_n hx hb dX6_round_113 rfl (lv_at hl 0 rfl) ?_
          refine lv_iload_n hx hb dX6_round_114 rfl (lv_at hl 3 rfl) ?_
          refine lv_sipush (v := iZ (128)) hx hb dX6_round_115 (by decide) ?_
          refine z_idiv (z := (r / 128)) hx hb (by omega) (by omega) rfl dX6_round_118 ?_
          refine lv_bipush (v := iZ (6)) hx hb dX6_round_119 (by decide) ?_
          refine z_irem (z := ((r / 128) % 6)) hx hb (by omega) (by omega) rfl dX6_round_121 ?_
          refine g_vcallS (As := [.ref (gad G 173), .int (iZ ((((r / 8) % (q_nd (M 173))).toNat) : Int)), .int (iZ ((r / 128) % 6))]) (rest := []) ⟨hx, hb, hml, hown, hts⟩ (c_X6_breakOn l G M hdm 173 (Or.inr (Or.inr rfl)) hI ((((r / 8) % (q_nd (M 173))).toNat)) (by omega) ((r / 128) % 6)) (va_cwS 3 hts gX6_round_X6_breakOn rfl rfl rfl (by decide +kernel) ⟨Nat.le_of_ble_eq_true rfl, Nat.le_of_ble_eq_true rfl⟩) hG rfl hl.1 rfl (Nat.le_of_ble_eq_true rfl) dX6_round_122 ⟨Nat.zero_le _, Nat.zero_le _⟩ (fun M6 H locs hp_122 hG => ?_)
          replace hp_122 : M6 = q_set M 173 (q_brk (M 173) ((((r / 8) % (q_nd (M 173))).toNat)) ((r / 128) % 6)) := hp_122
          have hpv_M6_173 : M6 173 = (q_brk (M 173) ((((r / 8) % (q_nd (M 173))).toNat)) ((r / 128) % 6)) := by rw [hp_122, q_set_at]
          have hfr_0 : q_rf M M := q_rf.rf M
          have hfr_M6 : q_rf M M6 := by rw [hp_122]; exact q_rf.set hfr_0
          have hfr := hfr_M6
          exact g_vret hx hb hr hG hlocks (⟨by unfold q_rnd; rw [if_neg (by omega), if_neg (by omega), if_pos (by omega)]; exact hpv_M6_173, hfr⟩) dX6_round_125
    · skip
      refine lv_aload_n hx hb dX6_round_38 rfl (lv_at hl 1 rfl) ?_
      refine g_get hx hb hts hinX6 hown hG (o := 169) (hdm 169 (by decide)) rfl rfl 6 (by decide) f19 (fun _ h => h) rfl dX6_round_39 ?_
      refine lv_aload_n hx hb dX6_round_42 rfl (lv_at hl 1 rfl) ?_
      refine lv_aload_n hx hb dX6_round_43 rfl (lv_at hl 1 rfl) ?_
      refine g_get hx hb hts hinX6 hown hG (o := 169) (hdm 169 (by decide)) rfl rfl 6 (by decide) f19 (fun _ h => h) rfl dX6_round_44 ?_
      refine g_callV (b := 169) (As := [.ref (gad G 173)]) (rest := [.ref (gad G 173)]) ⟨hx, hb, hml, hown, hts⟩ (c_X6_firstOf l G M hdm 173 (Or.inr (Or.inr rfl)) hI) (cwV 1 hts gX6_round_X6_firstOf rfl rfl rfl (by decide +kernel) ⟨Nat.le_of_ble_eq_true rfl, Nat.le_of_ble_eq_true rfl⟩) hG (g_recv hG (b := 169) (hdm 169 (by decide)) rfl rfl) rfl hl.1 rfl (Nat.le_of_ble_eq_true rfl) dX6_round_47 ⟨Nat.zero_le _, Nat.zero_le _⟩ (fun z7 M8 H locs hp_47 hG => ?_)
      obtain ⟨hz_47, hoa_M8, hob_M8⟩ := hp_47; replace hz_47 := hz_47.symm; subst hz_47
      have hpv_M8_173 : M8 173 = (M 173) := (hoa_M8 173 (by omega) (by omega))
      have hfi := q_first_in hI (q_ob_wait (by omega))
      rw [show (q_first (M 173)) = (((q_first (M 173)).toNat : Nat) : Int) by omega]
      refine lv_iload_n hx hb dX6_round_50 rfl (lv_at hl 2 rfl) ?_
      refine lv_sipush (v := iZ (256)) hx hb dX6_round_51 (by decide) ?_
      refine z_idiv (z := (r / 256)) hx hb (by omega) (by omega) rfl dX6_round_54 ?_
      refine g_lcallS (As := [.int (iZ (r / 256))]) (rest := [.int (iZ (((q_first (M 173)).toNat) : Int)), .ref (gad G 173)]) ⟨hx, hb, hml, hown, hts⟩ (c_X6_pointsBy l G M8 (r / 256) (by omega)) (va_cwS 1 hts gX6_round_X6_pointsBy rfl rfl rfl (by decide +kernel) ⟨Nat.le_of_ble_eq_true rfl, Nat.le_of_ble_eq_true rfl⟩) hG rfl hl.1 rfl (Nat.le_of_ble_eq_true rfl) dX6_round_55 ⟨Nat.zero_le _, Nat.zero_le _⟩ (fun z9 M10 H locs hp_55 hG => ?_)
      obtain ⟨hz_55, hM_55⟩ := hp_55; replace hz_55 := hz_55.symm; subst hz_55; replace hM_55 := hM_55.symm; subst hM_55
      have hpb : 0 ≤ q_pb (r / 256) ∧ q_pb (r / 256) < 1000000000000 := (q_pbn_in _).2.2.2.2.2.2
      refine lv_iconst (v := iZ 1) hx hb dX6_round_58 rfl ?_
      refine lv_iload_n hx hb dX6_round_59 rfl (lv_at hl 2 rfl) ?_
      refine lv_bipush (v := iZ (8)) hx hb dX6_round_60 (by decide) ?_
      refine z_idiv (z := (r / 8)) hx hb (by omega) (by omega) rfl dX6_round_62 ?_
      refine lv_bipush (v := iZ (30)) hx hb dX6_round_63 (by decide) ?_
      refine z_irem (z := ((r / 8) % 30)) hx hb (by omega) (by omega) rfl dX6_round_65 ?_
      refine z_iadd (z := (((r / 8) % 30) + 1)) hx hb (by omega) dX6_round_66 ?_
      refine g_callS (As := [.ref (gad G 173), .int (iZ (((q_first (M 173)).toNat) : Int)), .long (lZ (q_pb (r / 256))), .int (iZ (((r / 8) % 30) + 1))]) (rest := []) ⟨hx, hb, hml, hown, hts⟩ (c_X6_runOn l G M8 hdm 173 (Or.inr (Or.inr rfl)) (by rw [hpv_M8_173]; exact hI) (((q_first (M 173)).toNat)) (by first | omega | (rw [hpv_M8_173]; omega)) (q_pb (r / 256)) (by omega) (((r / 8) % 30) + 1) (by omega)) (va_cwS 4 hts gX6_round_X6_runOn rfl rfl rfl (by decide +kernel) ⟨Nat.le_of_ble_eq_true rfl, Nat.le_of_ble_eq_true rfl⟩) hG rfl hl.1 rfl (Nat.le_of_ble_eq_true rfl) dX6_round_67 ⟨Nat.zero_le _, Nat.zero_le _⟩ (fun z11 M12 H locs hp_67 hG => ?_)
      rw [hpv_M8_173] at hp_67
      obtain ⟨hz_67, hM12⟩ := hp_67; replace hz_67 := hz_67.symm; subst hz_67
      have hpv_M12_173 : M12 173 = (q_rno (M 173) (((q_first (M 173)).toNat)) (((r / 8) % 30) + 1) (q_dig (q_pb (r / 256)))) := by rw [hM12, q_set_at]
      refine lv_pop hx hb dX6_round_70 rfl ?_
      refine lv_goto (tgt := 125) hx hb dX6_round_71 (by decide) ?_
      have hfr_0 : q_rf M M := q_rf.rf M
      have hfr_M8 : q_rf M M8 := q_rf.lay hfr_0 hoa_M8 hob_M8
      have hfr_M12 : q_rf M M12 := by rw [hM12]; exact q_rf.set hfr_M8
      have hfr := hfr_M12
      exact g_vret hx hb hr hG hlocks (⟨by unfold q_rnd; rw [if_neg (by omega), if_pos (by omega), Int.add_comm 1]; exact hpv_M12_173.trans (q_rno_congr _ _ _ (fun p hp => q_pb_dig (r / 256) p hp)), hfr⟩) dX6_round_125
  · skip
    refine lv_aload_n hx hb dX6_round_13 rfl (lv_at hl 1 rfl) ?_
    refine g_get hx hb hts hinX6 hown hG (o := 169) (hdm 169 (by decide)) rfl rfl 6 (by decide) f19 (fun _ h => h) rfl dX6_round_14 ?_
    refine lv_bipush (v := iZ (60)) hx hb dX6_round_17 (by decide) ?_
    refine lv_iload_n hx hb dX6_round_19 rfl (lv_at hl 2 rfl) ?_
    refine lv_bipush (v := iZ (8)) hx hb dX6_round_20 (by decide) ?_
    refine z_idiv (z := (r / 8)) hx hb (by omega) (by omega) rfl dX6_round_22 ?_
    refine lv_sipush (v := iZ (541)) hx hb dX6_round_23 (by decide) ?_
    refine z_irem (z := ((r / 8) % 541)) hx hb (by omega) (by omega) rfl dX6_round_26 ?_
    refine z_iadd (z := (((r / 8) % 541) + 60)) hx hb (by omega) dX6_round_27 ?_
    refine g_vcallS (As := [.ref (gad G 173), .int (iZ (((r / 8) % 541) + 60))]) (rest := []) ⟨hx, hb, hml, hown, hts⟩ (c_X6_nextOn l G M hdm 173 (Or.inr (Or.inr rfl)) hI (((r / 8) % 541) + 60)) (va_cwS 2 hts gX6_round_X6_nextOn rfl rfl rfl (by decide +kernel) ⟨Nat.le_of_ble_eq_true rfl, Nat.le_of_ble_eq_true rfl⟩) hG rfl hl.1 rfl (Nat.le_of_ble_eq_true rfl) dX6_round_28 ⟨Nat.zero_le _, Nat.zero_le _⟩ (fun M14 H locs hp_28 hG => ?_)
    replace hp_28 : M14 = q_set M 173 (q_nxt (M 173) (((r / 8) % 541) + 60)) := hp_28
    have hpv_M14_173 : M14 173 = (q_nxt (M 173) (((r / 8) % 541) + 60)) := by rw [hp_28, q_set_at]
    refine lv_goto (tgt := 125) hx hb dX6_round_31 (by decide) ?_
    have hfr_0 : q_rf M M := q_rf.rf M
    have hfr_M14 : q_rf M M14 := by rw [hp_28]; exact q_rf.set hfr_0
    have hfr := hfr_M14
    exact g_vret hx hb hr hG hlocks (⟨by unfold q_rnd; rw [if_pos (by omega), Int.add_comm 60]; exact hpv_M14_173, hfr⟩) dX6_round_125
set_option maxHeartbeats 8000000 in
set_option maxRecDepth 100000 in
theorem c_X6_does (l : Launch) (G : gG) (M : Nat → Nat → Int) (hdm : ∀ k, k < 179 → gdm G k) (hI : q_inv (M 173)) (h t : Int) (hh : 0 ≤ h ∧ h ≤ 9) (ht : 0 ≤ t ∧ t < 1000) : gMi l yX6_does wsX6_does ({ frames := 5, cells := 0, slots := 0, locals := 113 } : Room) G M [.ref (gad G 169), .int (iZ h), .int (iZ t)] (fun z M1 => z = (if q_doz (M 173) h t = true then 1 else 0) ∧ (q_doz (M 173) h t = true → M1 173 = q_dop (M 173) h t) ∧ q_rf M M1) := by
  refine gMi_of (cc := cX6_does) (maxL := 5) (ret := some .boolean) (by decide) rfl (Nat.le_of_ble_eq_true rfl) ?_
  intro p e s m below meth c ls hx hb hr hml hown hts hlocks hl hG
  have hown : s.vm.findClass RX6 = some m.cls := hown
  have hl : lv_has ls 5 [(0, .ref (gad G 169)), (1, .int (iZ h)), (2, .int (iZ t))] := hl
  have hinX6 : ∀ w ∈ u_ws RX6 TX6 13, w ∈ wsX6_does := by decide +kernel
  have f19 := hts (.fieldLink RX6 19 "DogTrialsModel" "trial" "[I") (by decide +kernel)
  have f32 := hts (.fieldLink RX6 32 "DogTrialsModel" "row" "[I") (by decide +kernel)
  have f78 := hts (.fieldLink RX6 78 "DogTrialsModel" "rowSize" "I") (by decide +kernel)
  have hnd := hI.1
  have hob := q_ob_in (M 173)
  have hor := q_orn_le hI
  have hms := hI.2.2.2.1
  have hs6 := hI.2.2.2.2.1
  refine lv_iload_n hx hb dX6_does_0 rfl (lv_at hl 2 rfl) ?_
  refine lv_bipush (v := iZ (100)) hx hb dX6_does_1 (by decide) ?_
  refine z_idiv (z := (t / 100)) hx hb (by omega) (by omega) rfl dX6_does_3 ?_
  refine lv_istore_n (lv' := [(3, .int (iZ (t / 100))), (0, .ref (gad G 169)), (1, .int (iZ h)), (2, .int (iZ t))]) hx hb dX6_does_4 rfl hl (by decide) rfl (fun ls hl => ?_)
  refine lv_iload_n hx hb dX6_does_5 rfl (lv_at hl 3 rfl) ?_
  refine lv_bipush (v := iZ (100)) hx hb dX6_does_6 (by decide) ?_
  refine z_irem (z := (t % 100)) hx hb (by omega) (by omega) rfl dX6_does_8 ?_
  have htw : (((t % 100).toNat : Nat) : Int) = t % 100 := by omega
  rw [show (t % 100) = (((t % 100).toNat : Nat) : Int) by omega]
  refine lv_istore (lv' := [(4, .int (iZ (((t % 100).toNat) : Int))), (3, .int (iZ (t / 100))), (0, .ref (gad G 169)), (1, .int (iZ h)), (2, .int (iZ t))]) hx hb dX6_does_9 hl (by decide) rfl (fun ls hl => ?_)
  refine lv_iload_n hx hb dX6_does_11 rfl (lv_at hl 3 rfl) ?_
  have hsw_12 : (iZ h).toInt = h := iZ_int (by omega)
  by_cases c_12 : h < 1 ∨ 9 < h
  · refine lv_tableOut (tgt := 374) hx hb dX6_does_12 (by rw [hsw_12]; exact c_12) (by decide) ?_
    refine lv_iconst (v := iZ 0) hx hb dX6_does_374 rfl ?_
    have hfr_0 : q_rf M M := q_rf.rf M
    have hfr := hfr_0
    exact g_zret (post := fun z M1 => z = (if q_doz (M 173) h t = true then 1 else 0) ∧ (q_doz (M 173) h t = true → M1 173 = q_dop (M 173) h t) ∧ q_rf M M1) (z := 0) hx hb hr hG hlocks (Or.inl rfl) (⟨by rw [q_doz_0 _ _ _ c_12]; rfl, fun h9 => absurd h9 (by rw [q_doz_0 _ _ _ c_12]; decide), hfr⟩) dX6_does_375
  · rcases (show h = 1 ∨ 1 < h by omega) with e_12 | e_12
    · skip
      refine lv_tableIn (off := 52) (tgt := 64) hx hb dX6_does_12 (by rw [hsw_12]; omega) (by rw [hsw_12]; omega) (by rw [hsw_12, e_12]; rfl) (by decide) ?_
      refine lv_iload hx hb dX6_does_64 (lv_at hl 0 rfl) ?_
      refine z_i2l hx hb (by omega) dX6_does_66 ?_
      refine lv_lconst (v := lZ 1) hx hb dX6_does_67 rfl ?_
      refine lv_ldc2 (v := lZ 30) hx hb hown (by rw [show lZ 30 = (30 : Int64) from by decide]; exact hts (.constantLong RX6 187 30) (by decide +kernel)) dX6_does_68 ?_
      refine g_callS (As := [.long (lZ (((t % 100).toNat) : Int)), .long (lZ 1), .long (lZ 30)]) (rest := []) ⟨hx, hb, hml, hown, hts⟩ (c_X6_in l G M (((t % 100).toNat) : Int) 1 30 (by omega) (by omega) (by omega)) (va_cwS 3 hts gX6_does_X6_in rfl rfl rfl (by decide +kernel) ⟨Nat.le_of_ble_eq_true rfl, Nat.le_of_ble_eq_true rfl⟩) hG rfl hl.1 rfl (Nat.le_of_ble_eq_true rfl) dX6_does_71 ⟨Nat.zero_le _, Nat.zero_le _⟩ (fun z1 M2 H locs hp_71 hG => ?_)
      obtain ⟨hz_71, hM_71⟩ := hp_71; replace hz_71 := hz_71.symm; subst hz_71; replace hM_71 := hM_71.symm; subst hM_71
      refine z_ifP_eq (tgt := 117) hx hb dX6_does_74 (by decide) (fun c_74 => ?_) (fun c_74 => ?_)
      · skip
        refine lv_iconst (v := iZ 0) hx hb dX6_does_117 rfl ?_
        have hfr_0 : q_rf M M := q_rf.rf M
        have hfr := hfr_0
        exact g_zret (post := fun z M1 => z = (if q_doz (M 173) h t = true then 1 else 0) ∧ (q_doz (M 173) h t = true → M1 173 = q_dop (M 173) h t) ∧ q_rf M M1) (z := 0) hx hb hr hG hlocks (Or.inl rfl) (⟨by first | (rw [if_pos (show q_doz (M 173) h t = true by rw [e_12, q_doz_1, ← htw]; exact decide_eq_true (by omega))]; done) | (rw [if_neg (show ¬ q_doz (M 173) h t = true by rw [e_12, q_doz_1, ← htw]; exact fun h9 => by have h8 := of_decide_eq_true h9; omega)]; done), fun h9 => by (exfalso; rw [e_12, q_doz_1, ← htw] at h9; have h8 := of_decide_eq_true h9; omega), hfr⟩) dX6_does_118
      · skip
        refine lv_aload_n hx hb dX6_does_77 rfl (lv_at hl 2 rfl) ?_
        refine g_get hx hb hts hinX6 hown hG (o := 169) (hdm 169 (by decide)) rfl rfl 6 (by decide) f19 (fun _ h => h) rfl dX6_does_78 ?_
        refine g_callS (As := [.ref (gad G 173)]) (rest := []) ⟨hx, hb, hml, hown, hts⟩ (c_X6_why l G M hdm 173 (Or.inr (Or.inr rfl)) hI) (va_cwS 1 hts gX6_does_X6_why rfl rfl rfl (by decide +kernel) ⟨Nat.le_of_ble_eq_true rfl, Nat.le_of_ble_eq_true rfl⟩) hG rfl hl.1 rfl (Nat.le_of_ble_eq_true rfl) dX6_does_81 ⟨Nat.zero_le _, Nat.zero_le _⟩ (fun z3 M4 H locs hp_81 hG => ?_)
        obtain ⟨hz_81, hM_81⟩ := hp_81; replace hz_81 := hz_81.symm; subst hz_81; replace hM_81 := hM_81.symm; subst hM_81
        refine z_if_ne (tgt := 117) hx hb (by omega) dX6_does_84 (by decide) (fun c_84 => ?_) (fun c_84 => ?_)
        · skip
          refine lv_iconst (v := iZ 0) hx hb dX6_does_117 rfl ?_
          have hfr_0 : q_rf M M := q_rf.rf M
          have hfr := hfr_0
          exact g_zret (post := fun z M1 => z = (if q_doz (M 173) h t = true then 1 else 0) ∧ (q_doz (M 173) h t = true → M1 173 = q_dop (M 173) h t) ∧ q_rf M M1) (z := 0) hx hb hr hG hlocks (Or.inl rfl) (⟨by first | (rw [if_pos (show q_doz (M 173) h t = true by rw [e_12, q_doz_1, ← htw]; exact decide_eq_true (by omega))]; done) | (rw [if_neg (show ¬ q_doz (M 173) h t = true by rw [e_12, q_doz_1, ← htw]; exact fun h9 => by have h8 := of_decide_eq_true h9; omega)]; done), fun h9 => by (exfalso; rw [e_12, q_doz_1, ← htw] at h9; have h8 := of_decide_eq_true h9; omega), hfr⟩) dX6_does_118
        · skip
          refine lv_aload_n hx hb dX6_does_87 rfl (lv_at hl 2 rfl) ?_
          refine g_get hx hb hts hinX6 hown hG (o := 169) (hdm 169 (by decide)) rfl rfl 6 (by decide) f19 (fun _ h => h) rfl dX6_does_88 ?_
          refine lv_aload_n hx hb dX6_does_91 rfl (lv_at hl 2 rfl) ?_
          refine lv_aload_n hx hb dX6_does_92 rfl (lv_at hl 2 rfl) ?_
          refine g_get hx hb hts hinX6 hown hG (o := 169) (hdm 169 (by decide)) rfl rfl 6 (by decide) f19 (fun _ h => h) rfl dX6_does_93 ?_
          refine g_callV (b := 169) (As := [.ref (gad G 173)]) (rest := [.ref (gad G 173)]) ⟨hx, hb, hml, hown, hts⟩ (c_X6_firstOf l G M hdm 173 (Or.inr (Or.inr rfl)) hI) (cwV 1 hts gX6_does_X6_firstOf rfl rfl rfl (by decide +kernel) ⟨Nat.le_of_ble_eq_true rfl, Nat.le_of_ble_eq_true rfl⟩) hG (g_recv hG (b := 169) (hdm 169 (by decide)) rfl rfl) rfl hl.1 rfl (Nat.le_of_ble_eq_true rfl) dX6_does_96 ⟨Nat.zero_le _, Nat.zero_le _⟩ (fun z5 M6 H locs hp_96 hG => ?_)
          obtain ⟨hz_96, hoa_M6, hob_M6⟩ := hp_96; replace hz_96 := hz_96.symm; subst hz_96
          have hpv_M6_173 : M6 173 = (M 173) := (hoa_M6 173 (by omega) (by omega))
          have hfi := q_first_in hI (q_ob_wait (by omega))
          rw [show (q_first (M 173)) = (((q_first (M 173)).toNat : Nat) : Int) by omega]
          refine lv_ldc2 (v := lZ 10101010101) hx hb hown (by rw [show lZ 10101010101 = (10101010101 : Int64) from by decide]; exact hts (.constantLong RX6 221 10101010101) (by decide +kernel)) dX6_does_99 ?_
          refine lv_iload_n hx hb dX6_does_102 rfl (lv_at hl 1 rfl) ?_
          refine z_i2l hx hb (by omega) dX6_does_103 ?_
          refine z_lmul (z := (10101010101 * (t / 100))) hx hb (by omega) dX6_does_104 ?_
          refine lv_iload hx hb dX6_does_105 (lv_at hl 0 rfl) ?_
          refine g_callS (As := [.ref (gad G 173), .int (iZ (((q_first (M 173)).toNat) : Int)), .long (lZ (10101010101 * (t / 100))), .int (iZ (((t % 100).toNat) : Int))]) (rest := []) ⟨hx, hb, hml, hown, hts⟩ (c_X6_runOn l G M6 hdm 173 (Or.inr (Or.inr rfl)) (by rw [hpv_M6_173]; exact hI) (((q_first (M 173)).toNat)) (by first | omega | (rw [hpv_M6_173]; omega)) (10101010101 * (t / 100)) (by omega) (((t % 100).toNat) : Int) (by omega)) (va_cwS 4 hts gX6_does_X6_runOn rfl rfl rfl (by decide +kernel) ⟨Nat.le_of_ble_eq_true rfl, Nat.le_of_ble_eq_true rfl⟩) hG rfl hl.1 rfl (Nat.le_of_ble_eq_true rfl) dX6_does_107 ⟨Nat.zero_le _, Nat.zero_le _⟩ (fun z7 M8 H locs hp_107 hG => ?_)
          rw [hpv_M6_173] at hp_107
          obtain ⟨hz_107, hM8⟩ := hp_107; replace hz_107 := hz_107.symm; subst hz_107
          have hpv_M8_173 : M8 173 = (q_rno (M 173) (((q_first (M 173)).toNat)) (((t % 100).toNat) : Int) (q_dig (10101010101 * (t / 100)))) := by rw [hM8, q_set_at]
          have hrz := q_rz_in (M 173) ((t % 100).toNat : Int)
          refine z_if_eq (tgt := 117) hx hb (by omega) dX6_does_110 (by decide) (fun c_110 => ?_) (fun c_110 => ?_)
          · skip
            refine lv_iconst (v := iZ 0) hx hb dX6_does_117 rfl ?_
            have hfr_0 : q_rf M M := q_rf.rf M
            have hfr_M6 : q_rf M M6 := q_rf.lay hfr_0 hoa_M6 hob_M6
            have hfr_M8 : q_rf M M8 := by rw [hM8]; exact q_rf.set hfr_M6
            have hfr := hfr_M8
            exact g_zret (post := fun z M1 => z = (if q_doz (M 173) h t = true then 1 else 0) ∧ (q_doz (M 173) h t = true → M1 173 = q_dop (M 173) h t) ∧ q_rf M M1) (z := 0) hx hb hr hG hlocks (Or.inl rfl) (⟨by first | (rw [if_pos (show q_doz (M 173) h t = true by rw [e_12, q_doz_1, ← htw]; exact decide_eq_true (by omega))]; done) | (rw [if_neg (show ¬ q_doz (M 173) h t = true by rw [e_12, q_doz_1, ← htw]; exact fun h9 => by have h8 := of_decide_eq_true h9; omega)]; done), fun h9 => by rw [e_12, q_dop_1, ← htw]; exact hpv_M8_173.trans (q_rno_congr _ _ _ (fun p hp => q_same_dig (t / 100) (by omega) p hp)), hfr⟩) dX6_does_118
          · skip
            refine lv_iconst (v := iZ 1) hx hb dX6_does_113 rfl ?_
            refine lv_goto (tgt := 118) hx hb dX6_does_114 (by decide) ?_
            have hfr_0 : q_rf M M := q_rf.rf M
            have hfr_M6 : q_rf M M6 := q_rf.lay hfr_0 hoa_M6 hob_M6
            have hfr_M8 : q_rf M M8 := by rw [hM8]; exact q_rf.set hfr_M6
            have hfr := hfr_M8
            exact g_zret (post := fun z M1 => z = (if q_doz (M 173) h t = true then 1 else 0) ∧ (q_doz (M 173) h t = true → M1 173 = q_dop (M 173) h t) ∧ q_rf M M1) (z := 1) hx hb hr hG hlocks (Or.inr rfl) (⟨by first | (rw [if_pos (show q_doz (M 173) h t = true by rw [e_12, q_doz_1, ← htw]; exact decide_eq_true (by omega))]; done) | (rw [if_neg (show ¬ q_doz (M 173) h t = true by rw [e_12, q_doz_1, ← htw]; exact fun h9 => by have h8 := of_decide_eq_true h9; omega)]; done), fun h9 => by rw [e_12, q_dop_1, ← htw]; exact hpv_M8_173.trans (q_rno_congr _ _ _ (fun p hp => q_same_dig (t / 100) (by omega) p hp)), hfr⟩) dX6_does_118
    · rcases (show h = 2 ∨ 2 < h by omega) with e_12 | e_12
      · skip
        refine lv_tableIn (off := 107) (tgt := 119) hx hb dX6_does_12 (by rw [hsw_12]; omega) (by rw [hsw_12]; omega) (by rw [hsw_12, e_12]; rfl) (by decide) ?_
        refine lv_iload_n hx hb dX6_does_119 rfl (lv_at hl 1 rfl) ?_
        refine z_if_ne (tgt := 148) hx hb (by omega) dX6_does_120 (by decide) (fun c_120 => ?_) (fun c_120 => ?_)
        · skip
          refine lv_iconst (v := iZ 0) hx hb dX6_does_148 rfl ?_
          have hfr_0 : q_rf M M := q_rf.rf M
          have hfr := hfr_0
          exact g_zret (post := fun z M1 => z = (if q_doz (M 173) h t = true then 1 else 0) ∧ (q_doz (M 173) h t = true → M1 173 = q_dop (M 173) h t) ∧ q_rf M M1) (z := 0) hx hb hr hG hlocks (Or.inl rfl) (⟨by first | (rw [if_pos (show q_doz (M 173) h t = true by rw [e_12, q_doz_2]; exact decide_eq_true (by omega))]; done) | (rw [if_neg (show ¬ q_doz (M 173) h t = true by rw [e_12, q_doz_2]; exact fun h9 => by have h8 := of_decide_eq_true h9; omega)]; done), fun h9 => by (exfalso; rw [e_12, q_doz_2] at h9; have h8 := of_decide_eq_true h9; omega), hfr⟩) dX6_does_149
        · skip
          refine lv_aload_n hx hb dX6_does_123 rfl (lv_at hl 2 rfl) ?_
          refine g_get hx hb hts hinX6 hown hG (o := 169) (hdm 169 (by decide)) rfl rfl 6 (by decide) f19 (fun _ h => h) rfl dX6_does_124 ?_
          refine lv_iload hx hb dX6_does_127 (lv_at hl 0 rfl) ?_
          refine g_callS (As := [.ref (gad G 173), .int (iZ (((t % 100).toNat) : Int))]) (rest := []) ⟨hx, hb, hml, hown, hts⟩ (c_X6_isDog l G M hdm 173 (Or.inr (Or.inr rfl)) hI (((t % 100).toNat) : Int) (by omega)) (va_cwS 2 hts gX6_does_X6_isDog rfl rfl rfl (by decide +kernel) ⟨Nat.le_of_ble_eq_true rfl, Nat.le_of_ble_eq_true rfl⟩) hG rfl hl.1 rfl (Nat.le_of_ble_eq_true rfl) dX6_does_129 ⟨Nat.zero_le _, Nat.zero_le _⟩ (fun z9 M10 H locs hp_129 hG => ?_)
          obtain ⟨hz_129, hM_129⟩ := hp_129; replace hz_129 := hz_129.symm; subst hz_129; replace hM_129 := hM_129.symm; subst hM_129
          refine z_ifP_eq (tgt := 148) hx hb dX6_does_132 (by decide) (fun c_132 => ?_) (fun c_132 => ?_)
          · skip
            refine lv_iconst (v := iZ 0) hx hb dX6_does_148 rfl ?_
            have hfr_0 : q_rf M M := q_rf.rf M
            have hfr := hfr_0
            exact g_zret (post := fun z M1 => z = (if q_doz (M 173) h t = true then 1 else 0) ∧ (q_doz (M 173) h t = true → M1 173 = q_dop (M 173) h t) ∧ q_rf M M1) (z := 0) hx hb hr hG hlocks (Or.inl rfl) (⟨by first | (rw [if_pos (show q_doz (M 173) h t = true by rw [e_12, q_doz_2]; exact decide_eq_true (by omega))]; done) | (rw [if_neg (show ¬ q_doz (M 173) h t = true by rw [e_12, q_doz_2]; exact fun h9 => by have h8 := of_decide_eq_true h9; omega)]; done), fun h9 => by (exfalso; rw [e_12, q_doz_2] at h9; have h8 := of_decide_eq_true h9; omega), hfr⟩) dX6_does_149
          · skip
            refine lv_aload_n hx hb dX6_does_135 rfl (lv_at hl 2 rfl) ?_
            refine g_get hx hb hts hinX6 hown hG (o := 169) (hdm 169 (by decide)) rfl rfl 6 (by decide) f19 (fun _ h => h) rfl dX6_does_136 ?_
            refine lv_iload hx hb dX6_does_139 (lv_at hl 0 rfl) ?_
            refine g_callS (As := [.ref (gad G 173), .int (iZ (((t % 100).toNat) : Int))]) (rest := []) ⟨hx, hb, hml, hown, hts⟩ (c_X6_stateOf l G M hdm 173 (Or.inr (Or.inr rfl)) hI (((t % 100).toNat)) (by omega)) (va_cwS 2 hts gX6_does_X6_stateOf rfl rfl rfl (by decide +kernel) ⟨Nat.le_of_ble_eq_true rfl, Nat.le_of_ble_eq_true rfl⟩) hG rfl hl.1 rfl (Nat.le_of_ble_eq_true rfl) dX6_does_141 ⟨Nat.zero_le _, Nat.zero_le _⟩ (fun z11 M12 H locs hp_141 hG => ?_)
            obtain ⟨hz_141, hM_141⟩ := hp_141; replace hz_141 := hz_141.symm; subst hz_141; replace hM_141 := hM_141.symm; subst hM_141
            have hdo := dok5 hI (t % 100).toNat (by omega)
            refine lv_iconst (v := iZ 3) hx hb dX6_does_144 rfl ?_
            refine z_icmp_ne (tgt := 150) hx hb (by omega) (by decide) dX6_does_145 (by decide) (fun c_145 => ?_) (fun c_145 => ?_)
            · skip
              refine lv_aload_n hx hb dX6_does_150 rfl (lv_at hl 2 rfl) ?_
              refine g_get hx hb hts hinX6 hown hG (o := 169) (hdm 169 (by decide)) rfl rfl 6 (by decide) f19 (fun _ h => h) rfl dX6_does_151 ?_
              refine lv_iload hx hb dX6_does_154 (lv_at hl 0 rfl) ?_
              refine g_callS (As := [.int (iZ (((t % 100).toNat) : Int))]) (rest := [.ref (gad G 173)]) ⟨hx, hb, hml, hown, hts⟩ (c_X6_dogAt l G M (((t % 100).toNat) : Int)) (va_cwS 1 hts gX6_does_X6_dogAt rfl rfl rfl (by decide +kernel) ⟨Nat.le_of_ble_eq_true rfl, Nat.le_of_ble_eq_true rfl⟩) hG rfl hl.1 rfl (Nat.le_of_ble_eq_true rfl) dX6_does_156 ⟨Nat.zero_le _, Nat.zero_le _⟩ (fun z13 M14 H locs hp_156 hG => ?_)
              obtain ⟨hz_156, hM_156⟩ := hp_156; replace hz_156 := hz_156.symm; subst hz_156; replace hM_156 := hM_156.symm; subst hM_156
              rw [show (14 + 11 * (((t % 100).toNat) : Int) : Int) = (11 * (((t % 100).toNat) : Int) + 14) from by omega]
              refine lv_iconst (v := iZ 2) hx hb dX6_does_159 rfl ?_
              refine z_iadd (z := (11 * (((t % 100).toNat) : Int) + 16)) hx hb (by omega) dX6_does_160 ?_
              refine lv_iconst (v := iZ 3) hx hb dX6_does_161 rfl ?_
              refine g_iast (j := (14 + 11 * (((t % 100).toNat)) + 2)) hx hb hG (o := 173) (hdm 173 (by decide)) (fun f => rfl) (by omega) (by omega) (by omega) dX6_does_162 (fun H locs hG => ?_)
              obtain ⟨M15, hM15⟩ : ∃ X, X = (q_wr M 173 (14 + 11 * (((t % 100).toNat)) + 2) 3) := ⟨_, rfl⟩
              rw [← hM15] at hG
              refine lv_iconst (v := iZ 1) hx hb dX6_does_163 rfl ?_
              have hfr_0 : q_rf M M := q_rf.rf M
              have hfr_M15 : q_rf M M15 := by rw [hM15]; exact q_rf.wr hfr_0
              have hfr := hfr_M15
              exact g_zret (post := fun z M1 => z = (if q_doz (M 173) h t = true then 1 else 0) ∧ (q_doz (M 173) h t = true → M1 173 = q_dop (M 173) h t) ∧ q_rf M M1) (z := 1) hx hb hr hG hlocks (Or.inr rfl) (⟨by first | (rw [if_pos (show q_doz (M 173) h t = true by rw [e_12, q_doz_2]; exact decide_eq_true (by omega))]; done) | (rw [if_neg (show ¬ q_doz (M 173) h t = true by rw [e_12, q_doz_2]; exact fun h9 => by have h8 := of_decide_eq_true h9; omega)]; done), fun h9 => by rw [e_12, q_dop_2, hM15, wr_at]; rfl, hfr⟩) dX6_does_164
            · skip
              refine lv_iconst (v := iZ 0) hx hb dX6_does_148 rfl ?_
              have hfr_0 : q_rf M M := q_rf.rf M
              have hfr := hfr_0
              exact g_zret (post := fun z M1 => z = (if q_doz (M 173) h t = true then 1 else 0) ∧ (q_doz (M 173) h t = true → M1 173 = q_dop (M 173) h t) ∧ q_rf M M1) (z := 0) hx hb hr hG hlocks (Or.inl rfl) (⟨by first | (rw [if_pos (show q_doz (M 173) h t = true by rw [e_12, q_doz_2]; exact decide_eq_true (by omega))]; done) | (rw [if_neg (show ¬ q_doz (M 173) h t = true by rw [e_12, q_doz_2]; exact fun h9 => by have h8 := of_decide_eq_true h9; omega)]; done), fun h9 => by (exfalso; rw [e_12, q_doz_2] at h9; have h8 := of_decide_eq_true h9; omega), hfr⟩) dX6_does_149
      · rcases (show h = 3 ∨ 3 < h by omega) with e_12 | e_12
        · skip
          refine lv_tableIn (off := 153) (tgt := 165) hx hb dX6_does_12 (by rw [hsw_12]; omega) (by rw [hsw_12]; omega) (by rw [hsw_12, e_12]; rfl) (by decide) ?_
          refine lv_iload_n hx hb dX6_does_165 rfl (lv_at hl 1 rfl) ?_
          refine g_callS (As := [.int (iZ (t / 100))]) (rest := []) ⟨hx, hb, hml, hown, hts⟩ (c_X6_isPhase l G M (t / 100) (by omega)) (va_cwS 1 hts gX6_does_X6_isPhase rfl rfl rfl (by decide +kernel) ⟨Nat.le_of_ble_eq_true rfl, Nat.le_of_ble_eq_true rfl⟩) hG rfl hl.1 rfl (Nat.le_of_ble_eq_true rfl) dX6_does_166 ⟨Nat.zero_le _, Nat.zero_le _⟩ (fun z16 M17 H locs hp_166 hG => ?_)
          obtain ⟨hz_166, hM_166⟩ := hp_166; replace hz_166 := hz_166.symm; subst hz_166; replace hM_166 := hM_166.symm; subst hM_166
          refine z_ifP_eq (tgt := 197) hx hb dX6_does_169 (by decide) (fun c_169 => ?_) (fun c_169 => ?_)
          · skip
            refine lv_iconst (v := iZ 0) hx hb dX6_does_197 rfl ?_
            have hfr_0 : q_rf M M := q_rf.rf M
            have hfr := hfr_0
            exact g_zret (post := fun z M1 => z = (if q_doz (M 173) h t = true then 1 else 0) ∧ (q_doz (M 173) h t = true → M1 173 = q_dop (M 173) h t) ∧ q_rf M M1) (z := 0) hx hb hr hG hlocks (Or.inl rfl) (⟨by first | (rw [if_pos (show q_doz (M 173) h t = true by rw [e_12, q_doz_3]; exact decide_eq_true (by omega))]; done) | (rw [if_neg (show ¬ q_doz (M 173) h t = true by rw [e_12, q_doz_3]; exact fun h9 => by have h8 := of_decide_eq_true h9; omega)]; done), fun h9 => by (exfalso; rw [e_12, q_doz_3] at h9; have h8 := of_decide_eq_true h9; omega), hfr⟩) dX6_does_198
          · skip
            refine lv_aload_n hx hb dX6_does_172 rfl (lv_at hl 2 rfl) ?_
            refine g_get hx hb hts hinX6 hown hG (o := 169) (hdm 169 (by decide)) rfl rfl 6 (by decide) f19 (fun _ h => h) rfl dX6_does_173 ?_
            refine lv_iload hx hb dX6_does_176 (lv_at hl 0 rfl) ?_
            refine g_callS (As := [.ref (gad G 173), .int (iZ (((t % 100).toNat) : Int))]) (rest := []) ⟨hx, hb, hml, hown, hts⟩ (c_X6_isDog l G M hdm 173 (Or.inr (Or.inr rfl)) hI (((t % 100).toNat) : Int) (by omega)) (va_cwS 2 hts gX6_does_X6_isDog rfl rfl rfl (by decide +kernel) ⟨Nat.le_of_ble_eq_true rfl, Nat.le_of_ble_eq_true rfl⟩) hG rfl hl.1 rfl (Nat.le_of_ble_eq_true rfl) dX6_does_178 ⟨Nat.zero_le _, Nat.zero_le _⟩ (fun z18 M19 H locs hp_178 hG => ?_)
            obtain ⟨hz_178, hM_178⟩ := hp_178; replace hz_178 := hz_178.symm; subst hz_178; replace hM_178 := hM_178.symm; subst hM_178
            refine z_ifP_eq (tgt := 197) hx hb dX6_does_181 (by decide) (fun c_181 => ?_) (fun c_181 => ?_)
            · skip
              refine lv_iconst (v := iZ 0) hx hb dX6_does_197 rfl ?_
              have hfr_0 : q_rf M M := q_rf.rf M
              have hfr := hfr_0
              exact g_zret (post := fun z M1 => z = (if q_doz (M 173) h t = true then 1 else 0) ∧ (q_doz (M 173) h t = true → M1 173 = q_dop (M 173) h t) ∧ q_rf M M1) (z := 0) hx hb hr hG hlocks (Or.inl rfl) (⟨by first | (rw [if_pos (show q_doz (M 173) h t = true by rw [e_12, q_doz_3]; exact decide_eq_true (by omega))]; done) | (rw [if_neg (show ¬ q_doz (M 173) h t = true by rw [e_12, q_doz_3]; exact fun h9 => by have h8 := of_decide_eq_true h9; omega)]; done), fun h9 => by (exfalso; rw [e_12, q_doz_3] at h9; have h8 := of_decide_eq_true h9; omega), hfr⟩) dX6_does_198
            · skip
              refine lv_aload_n hx hb dX6_does_184 rfl (lv_at hl 2 rfl) ?_
              refine g_get hx hb hts hinX6 hown hG (o := 169) (hdm 169 (by decide)) rfl rfl 6 (by decide) f19 (fun _ h => h) rfl dX6_does_185 ?_
              refine lv_iload hx hb dX6_does_188 (lv_at hl 0 rfl) ?_
              refine g_callS (As := [.ref (gad G 173), .int (iZ (((t % 100).toNat) : Int))]) (rest := []) ⟨hx, hb, hml, hown, hts⟩ (c_X6_stateOf l G M hdm 173 (Or.inr (Or.inr rfl)) hI (((t % 100).toNat)) (by omega)) (va_cwS 2 hts gX6_does_X6_stateOf rfl rfl rfl (by decide +kernel) ⟨Nat.le_of_ble_eq_true rfl, Nat.le_of_ble_eq_true rfl⟩) hG rfl hl.1 rfl (Nat.le_of_ble_eq_true rfl) dX6_does_190 ⟨Nat.zero_le _, Nat.zero_le _⟩ (fun z20 M21 H locs hp_190 hG => ?_)
              obtain ⟨hz_190, hM_190⟩ := hp_190; replace hz_190 := hz_190.symm; subst hz_190; replace hM_190 := hM_190.symm; subst hM_190
              have hdo := dok5 hI (t % 100).toNat (by omega)
              refine lv_iconst (v := iZ 1) hx hb dX6_does_193 rfl ?_
              refine z_icmp_eq (tgt := 199) hx hb (by omega) (by decide) dX6_does_194 (by decide) (fun c_194 => ?_) (fun c_194 => ?_)
              · skip
                refine lv_aload_n hx hb dX6_does_199 rfl (lv_at hl 2 rfl) ?_
                refine g_get hx hb hts hinX6 hown hG (o := 169) (hdm 169 (by decide)) rfl rfl 6 (by decide) f19 (fun _ h => h) rfl dX6_does_200 ?_
                refine lv_iload hx hb dX6_does_203 (lv_at hl 0 rfl) ?_
                refine lv_iload_n hx hb dX6_does_205 rfl (lv_at hl 1 rfl) ?_
                refine g_vcallS (As := [.ref (gad G 173), .int (iZ (((t % 100).toNat) : Int)), .int (iZ (t / 100))]) (rest := []) ⟨hx, hb, hml, hown, hts⟩ (c_X6_breakOn l G M hdm 173 (Or.inr (Or.inr rfl)) hI (((t % 100).toNat)) (by omega) (t / 100)) (va_cwS 3 hts gX6_does_X6_breakOn rfl rfl rfl (by decide +kernel) ⟨Nat.le_of_ble_eq_true rfl, Nat.le_of_ble_eq_true rfl⟩) hG rfl hl.1 rfl (Nat.le_of_ble_eq_true rfl) dX6_does_206 ⟨Nat.zero_le _, Nat.zero_le _⟩ (fun M23 H locs hp_206 hG => ?_)
                replace hp_206 : M23 = q_set M 173 (q_brk (M 173) (((t % 100).toNat)) (t / 100)) := hp_206
                have hpv_M23_173 : M23 173 = (q_brk (M 173) (((t % 100).toNat)) (t / 100)) := by rw [hp_206, q_set_at]
                refine lv_iconst (v := iZ 1) hx hb dX6_does_209 rfl ?_
                have hfr_0 : q_rf M M := q_rf.rf M
                have hfr_M23 : q_rf M M23 := by rw [hp_206]; exact q_rf.set hfr_0
                have hfr := hfr_M23
                exact g_zret (post := fun z M1 => z = (if q_doz (M 173) h t = true then 1 else 0) ∧ (q_doz (M 173) h t = true → M1 173 = q_dop (M 173) h t) ∧ q_rf M M1) (z := 1) hx hb hr hG hlocks (Or.inr rfl) (⟨by first | (rw [if_pos (show q_doz (M 173) h t = true by rw [e_12, q_doz_3]; exact decide_eq_true (by omega))]; done) | (rw [if_neg (show ¬ q_doz (M 173) h t = true by rw [e_12, q_doz_3]; exact fun h9 => by have h8 := of_decide_eq_true h9; omega)]; done), fun h9 => by rw [e_12, q_dop_3]; exact hpv_M23_173, hfr⟩) dX6_does_210
              · skip
                refine lv_iconst (v := iZ 0) hx hb dX6_does_197 rfl ?_
                have hfr_0 : q_rf M M := q_rf.rf M
                have hfr := hfr_0
                exact g_zret (post := fun z M1 => z = (if q_doz (M 173) h t = true then 1 else 0) ∧ (q_doz (M 173) h t = true → M1 173 = q_dop (M 173) h t) ∧ q_rf M M1) (z := 0) hx hb hr hG hlocks (Or.inl rfl) (⟨by first | (rw [if_pos (show q_doz (M 173) h t = true by rw [e_12, q_doz_3]; exact decide_eq_true (by omega))]; done) | (rw [if_neg (show ¬ q_doz (M 173) h t = true by rw [e_12, q_doz_3]; exact fun h9 => by have h8 := of_decide_eq_true h9; omega)]; done), fun h9 => by (exfalso; rw [e_12, q_doz_3] at h9; have h8 := of_decide_eq_true h9; omega), hfr⟩) dX6_does_198
        · rcases (show h = 4 ∨ 4 < h by omega) with e_12 | e_12
          · skip
            refine lv_tableIn (off := 199) (tgt := 211) hx hb dX6_does_12 (by rw [hsw_12]; omega) (by rw [hsw_12]; omega) (by rw [hsw_12, e_12]; rfl) (by decide) ?_
            refine lv_iload_n hx hb dX6_does_211 rfl (lv_at hl 4 rfl) ?_
            refine g_callS (As := [.int (iZ t)]) (rest := []) ⟨hx, hb, hml, hown, hts⟩ (c_X6_isSunset l G M t (by omega)) (va_cwS 1 hts gX6_does_X6_isSunset rfl rfl rfl (by decide +kernel) ⟨Nat.le_of_ble_eq_true rfl, Nat.le_of_ble_eq_true rfl⟩) hG rfl hl.1 rfl (Nat.le_of_ble_eq_true rfl) dX6_does_212 ⟨Nat.zero_le _, Nat.zero_le _⟩ (fun z24 M25 H locs hp_212 hG => ?_)
            obtain ⟨hz_212, hM_212⟩ := hp_212; replace hz_212 := hz_212.symm; subst hz_212; replace hM_212 := hM_212.symm; subst hM_212
            refine z_ifP_ne (tgt := 220) hx hb dX6_does_215 (by decide) (fun c_215 => ?_) (fun c_215 => ?_)
            · skip
              refine lv_aload_n hx hb dX6_does_220 rfl (lv_at hl 2 rfl) ?_
              refine g_get hx hb hts hinX6 hown hG (o := 169) (hdm 169 (by decide)) rfl rfl 6 (by decide) f19 (fun _ h => h) rfl dX6_does_221 ?_
              refine lv_iload_n hx hb dX6_does_224 rfl (lv_at hl 4 rfl) ?_
              refine g_vcallS (As := [.ref (gad G 173), .int (iZ t)]) (rest := []) ⟨hx, hb, hml, hown, hts⟩ (c_X6_nextOn l G M hdm 173 (Or.inr (Or.inr rfl)) hI t) (va_cwS 2 hts gX6_does_X6_nextOn rfl rfl rfl (by decide +kernel) ⟨Nat.le_of_ble_eq_true rfl, Nat.le_of_ble_eq_true rfl⟩) hG rfl hl.1 rfl (Nat.le_of_ble_eq_true rfl) dX6_does_225 ⟨Nat.zero_le _, Nat.zero_le _⟩ (fun M27 H locs hp_225 hG => ?_)
              replace hp_225 : M27 = q_set M 173 (q_nxt (M 173) t) := hp_225
              have hpv_M27_173 : M27 173 = (q_nxt (M 173) t) := by rw [hp_225, q_set_at]
              refine lv_iconst (v := iZ 1) hx hb dX6_does_228 rfl ?_
              have hfr_0 : q_rf M M := q_rf.rf M
              have hfr_M27 : q_rf M M27 := by rw [hp_225]; exact q_rf.set hfr_0
              have hfr := hfr_M27
              exact g_zret (post := fun z M1 => z = (if q_doz (M 173) h t = true then 1 else 0) ∧ (q_doz (M 173) h t = true → M1 173 = q_dop (M 173) h t) ∧ q_rf M M1) (z := 1) hx hb hr hG hlocks (Or.inr rfl) (⟨by first | (rw [if_pos (show q_doz (M 173) h t = true by rw [e_12, q_doz_4]; exact decide_eq_true (by omega))]; done) | (rw [if_neg (show ¬ q_doz (M 173) h t = true by rw [e_12, q_doz_4]; exact fun h9 => by have h8 := of_decide_eq_true h9; omega)]; done), fun h9 => by rw [e_12, q_dop_4]; exact hpv_M27_173, hfr⟩) dX6_does_229
            · skip
              refine lv_iconst (v := iZ 0) hx hb dX6_does_218 rfl ?_
              have hfr_0 : q_rf M M := q_rf.rf M
              have hfr := hfr_0
              exact g_zret (post := fun z M1 => z = (if q_doz (M 173) h t = true then 1 else 0) ∧ (q_doz (M 173) h t = true → M1 173 = q_dop (M 173) h t) ∧ q_rf M M1) (z := 0) hx hb hr hG hlocks (Or.inl rfl) (⟨by first | (rw [if_pos (show q_doz (M 173) h t = true by rw [e_12, q_doz_4]; exact decide_eq_true (by omega))]; done) | (rw [if_neg (show ¬ q_doz (M 173) h t = true by rw [e_12, q_doz_4]; exact fun h9 => by have h8 := of_decide_eq_true h9; omega)]; done), fun h9 => by (exfalso; rw [e_12, q_doz_4] at h9; have h8 := of_decide_eq_true h9; omega), hfr⟩) dX6_does_219
          · rcases (show h = 5 ∨ 5 < h by omega) with e_12 | e_12
            · skip
              refine lv_tableIn (off := 218) (tgt := 230) hx hb dX6_does_12 (by rw [hsw_12]; omega) (by rw [hsw_12]; omega) (by rw [hsw_12, e_12]; rfl) (by decide) ?_
              refine lv_aload_n hx hb dX6_does_230 rfl (lv_at hl 2 rfl) ?_
              refine lv_aload_n hx hb dX6_does_231 rfl (lv_at hl 2 rfl) ?_
              refine g_get hx hb hts hinX6 hown hG (o := 169) (hdm 169 (by decide)) rfl rfl 6 (by decide) f19 (fun _ h => h) rfl dX6_does_232 ?_
              refine g_vcallV (b := 169) (As := [.ref (gad G 173)]) (rest := []) ⟨hx, hb, hml, hown, hts⟩ (c_X6_layRow l G M hdm 173 (Or.inr (Or.inr rfl)) hI) (cwV 1 hts gX6_does_X6_layRow rfl rfl rfl (by decide +kernel) ⟨Nat.le_of_ble_eq_true rfl, Nat.le_of_ble_eq_true rfl⟩) hG (g_recv hG (b := 169) (hdm 169 (by decide)) rfl rfl) rfl hl.1 rfl (Nat.le_of_ble_eq_true rfl) dX6_does_235 ⟨Nat.zero_le _, Nat.zero_le _⟩ (fun M29 H locs hp_235 hG => ?_)
              obtain ⟨hn_M29, hf_M29, hoa_M29, hob_M29⟩ := hp_235
              have hpv_M29_173 : M29 173 = (M 173) := (hoa_M29 173 (by omega) (by omega))
              refine lv_iload_n hx hb dX6_does_238 rfl (lv_at hl 1 rfl) ?_
              refine z_if_ne (tgt := 276) hx hb (by omega) dX6_does_239 (by decide) (fun c_239 => ?_) (fun c_239 => ?_)
              · skip
                refine lv_iconst (v := iZ 0) hx hb dX6_does_276 rfl ?_
                have hfr_0 : q_rf M M := q_rf.rf M
                have hfr_M29 : q_rf M M29 := q_rf.lay hfr_0 hoa_M29 hob_M29
                have hfr := hfr_M29
                exact g_zret (post := fun z M1 => z = (if q_doz (M 173) h t = true then 1 else 0) ∧ (q_doz (M 173) h t = true → M1 173 = q_dop (M 173) h t) ∧ q_rf M M1) (z := 0) hx hb hr hG hlocks (Or.inl rfl) (⟨by
    by_cases h7 : 0 ≤ t % 100 / 10 ∧ t % 100 / 10 < (q_orn (M 173) : Int)
    · have h6 : q_atk (M 173) (t % 100 / 10) = q_orf (M 173) ((t % 100).toNat / 10) := by unfold q_atk; rw [if_pos h7, show (t % 100 / 10).toNat = (t % 100).toNat / 10 by omega]
      first | (rw [if_pos (show q_doz (M 173) h t = true by rw [e_12, q_doz_5]; exact decide_eq_true (by omega))]; done) | (rw [if_neg (show ¬ q_doz (M 173) h t = true by rw [e_12, q_doz_5]; exact fun h9 => by have h8 := of_decide_eq_true h9; omega)]; done)
    · have h6 : q_atk (M 173) (t % 100 / 10) = -9 := by unfold q_atk; rw [if_neg h7]
      first | (rw [if_pos (show q_doz (M 173) h t = true by rw [e_12, q_doz_5]; exact decide_eq_true (by omega))]; done) | (rw [if_neg (show ¬ q_doz (M 173) h t = true by rw [e_12, q_doz_5]; exact fun h9 => by have h8 := of_decide_eq_true h9; omega)]; done), fun _ => by rw [e_12, q_dop_5 _ _ _ (by omega)]; first | done | exact hpv_M29_173, hfr⟩) dX6_does_277
              · skip
                refine lv_iload hx hb dX6_does_242 (lv_at hl 0 rfl) ?_
                refine lv_bipush (v := iZ (10)) hx hb dX6_does_244 (by decide) ?_
                refine z_idiv (z := ((((t % 100).toNat) : Int) / 10)) hx hb (by omega) (by omega) rfl dX6_does_246 ?_
                refine lv_aload_n hx hb dX6_does_247 rfl (lv_at hl 2 rfl) ?_
                refine g_geti (z := ((q_orn (M 173)) : Int)) hx hb hts hinX6 hown hG (o := 169) (hdm 169 (by decide)) rfl rfl 12 (by decide) f78 (fun _ h => h) rfl hn_M29 dX6_does_248 ?_
                refine z_icmp_ge (tgt := 276) hx hb (by omega) (by omega) dX6_does_251 (by decide) (fun c_251 => ?_) (fun c_251 => ?_)
                · skip
                  refine lv_iconst (v := iZ 0) hx hb dX6_does_276 rfl ?_
                  have hfr_0 : q_rf M M := q_rf.rf M
                  have hfr_M29 : q_rf M M29 := q_rf.lay hfr_0 hoa_M29 hob_M29
                  have hfr := hfr_M29
                  exact g_zret (post := fun z M1 => z = (if q_doz (M 173) h t = true then 1 else 0) ∧ (q_doz (M 173) h t = true → M1 173 = q_dop (M 173) h t) ∧ q_rf M M1) (z := 0) hx hb hr hG hlocks (Or.inl rfl) (⟨by
    by_cases h7 : 0 ≤ t % 100 / 10 ∧ t % 100 / 10 < (q_orn (M 173) : Int)
    · have h6 : q_atk (M 173) (t % 100 / 10) = q_orf (M 173) ((t % 100).toNat / 10) := by unfold q_atk; rw [if_pos h7, show (t % 100 / 10).toNat = (t % 100).toNat / 10 by omega]
      first | (rw [if_pos (show q_doz (M 173) h t = true by rw [e_12, q_doz_5]; exact decide_eq_true (by omega))]; done) | (rw [if_neg (show ¬ q_doz (M 173) h t = true by rw [e_12, q_doz_5]; exact fun h9 => by have h8 := of_decide_eq_true h9; omega)]; done)
    · have h6 : q_atk (M 173) (t % 100 / 10) = -9 := by unfold q_atk; rw [if_neg h7]
      first | (rw [if_pos (show q_doz (M 173) h t = true by rw [e_12, q_doz_5]; exact decide_eq_true (by omega))]; done) | (rw [if_neg (show ¬ q_doz (M 173) h t = true by rw [e_12, q_doz_5]; exact fun h9 => by have h8 := of_decide_eq_true h9; omega)]; done), fun _ => by rw [e_12, q_dop_5 _ _ _ (by omega)]; first | done | exact hpv_M29_173, hfr⟩) dX6_does_277
                · skip
                  refine lv_aload_n hx hb dX6_does_254 rfl (lv_at hl 2 rfl) ?_
                  refine g_get hx hb hts hinX6 hown hG (o := 169) (hdm 169 (by decide)) rfl rfl 11 (by decide) f32 (fun _ h => h) rfl dX6_does_255 ?_
                  refine lv_iload hx hb dX6_does_258 (lv_at hl 0 rfl) ?_
                  refine lv_bipush (v := iZ (10)) hx hb dX6_does_260 (by decide) ?_
                  refine z_idiv (z := ((((t % 100).toNat) : Int) / 10)) hx hb (by omega) (by omega) rfl dX6_does_262 ?_
                  have hofi := q_orf_in hI (k := (t % 100).toNat / 10) (by omega)
                  refine g_iald (z := (q_orf (M 173) ((t % 100).toNat / 10))) (j := (((t % 100).toNat / 10 : Nat))) hx hb hG (o := 177) (hdm 177 (by decide)) rfl (by omega) (by omega) (by omega) (hf_M29 _ (by omega)) dX6_does_263 ?_
                  refine lv_iload hx hb dX6_does_264 (lv_at hl 0 rfl) ?_
                  refine lv_bipush (v := iZ (10)) hx hb dX6_does_266 (by decide) ?_
                  refine z_irem (z := ((((t % 100).toNat) : Int) % 10)) hx hb (by omega) (by omega) rfl dX6_does_268 ?_
                  refine z_icmp_ne (tgt := 276) hx hb (by omega) (by omega) dX6_does_269 (by decide) (fun c_269 => ?_) (fun c_269 => ?_)
                  · skip
                    refine lv_iconst (v := iZ 0) hx hb dX6_does_276 rfl ?_
                    have hfr_0 : q_rf M M := q_rf.rf M
                    have hfr_M29 : q_rf M M29 := q_rf.lay hfr_0 hoa_M29 hob_M29
                    have hfr := hfr_M29
                    exact g_zret (post := fun z M1 => z = (if q_doz (M 173) h t = true then 1 else 0) ∧ (q_doz (M 173) h t = true → M1 173 = q_dop (M 173) h t) ∧ q_rf M M1) (z := 0) hx hb hr hG hlocks (Or.inl rfl) (⟨by
    by_cases h7 : 0 ≤ t % 100 / 10 ∧ t % 100 / 10 < (q_orn (M 173) : Int)
    · have h6 : q_atk (M 173) (t % 100 / 10) = q_orf (M 173) ((t % 100).toNat / 10) := by unfold q_atk; rw [if_pos h7, show (t % 100 / 10).toNat = (t % 100).toNat / 10 by omega]
      first | (rw [if_pos (show q_doz (M 173) h t = true by rw [e_12, q_doz_5]; exact decide_eq_true (by omega))]; done) | (rw [if_neg (show ¬ q_doz (M 173) h t = true by rw [e_12, q_doz_5]; exact fun h9 => by have h8 := of_decide_eq_true h9; omega)]; done)
    · have h6 : q_atk (M 173) (t % 100 / 10) = -9 := by unfold q_atk; rw [if_neg h7]
      first | (rw [if_pos (show q_doz (M 173) h t = true by rw [e_12, q_doz_5]; exact decide_eq_true (by omega))]; done) | (rw [if_neg (show ¬ q_doz (M 173) h t = true by rw [e_12, q_doz_5]; exact fun h9 => by have h8 := of_decide_eq_true h9; omega)]; done), fun _ => by rw [e_12, q_dop_5 _ _ _ (by omega)]; first | done | exact hpv_M29_173, hfr⟩) dX6_does_277
                  · skip
                    refine lv_iconst (v := iZ 1) hx hb dX6_does_272 rfl ?_
                    refine lv_goto (tgt := 277) hx hb dX6_does_273 (by decide) ?_
                    have hfr_0 : q_rf M M := q_rf.rf M
                    have hfr_M29 : q_rf M M29 := q_rf.lay hfr_0 hoa_M29 hob_M29
                    have hfr := hfr_M29
                    exact g_zret (post := fun z M1 => z = (if q_doz (M 173) h t = true then 1 else 0) ∧ (q_doz (M 173) h t = true → M1 173 = q_dop (M 173) h t) ∧ q_rf M M1) (z := 1) hx hb hr hG hlocks (Or.inr rfl) (⟨by
    by_cases h7 : 0 ≤ t % 100 / 10 ∧ t % 100 / 10 < (q_orn (M 173) : Int)
    · have h6 : q_atk (M 173) (t % 100 / 10) = q_orf (M 173) ((t % 100).toNat / 10) := by unfold q_atk; rw [if_pos h7, show (t % 100 / 10).toNat = (t % 100).toNat / 10 by omega]
      first | (rw [if_pos (show q_doz (M 173) h t = true by rw [e_12, q_doz_5]; exact decide_eq_true (by omega))]; done) | (rw [if_neg (show ¬ q_doz (M 173) h t = true by rw [e_12, q_doz_5]; exact fun h9 => by have h8 := of_decide_eq_true h9; omega)]; done)
    · have h6 : q_atk (M 173) (t % 100 / 10) = -9 := by unfold q_atk; rw [if_neg h7]
      first | (rw [if_pos (show q_doz (M 173) h t = true by rw [e_12, q_doz_5]; exact decide_eq_true (by omega))]; done) | (rw [if_neg (show ¬ q_doz (M 173) h t = true by rw [e_12, q_doz_5]; exact fun h9 => by have h8 := of_decide_eq_true h9; omega)]; done), fun _ => by rw [e_12, q_dop_5 _ _ _ (by omega)]; first | done | exact hpv_M29_173, hfr⟩) dX6_does_277
            · rcases (show h = 6 ∨ 6 < h by omega) with e_12 | e_12
              · skip
                refine lv_tableIn (off := 266) (tgt := 278) hx hb dX6_does_12 (by rw [hsw_12]; omega) (by rw [hsw_12]; omega) (by rw [hsw_12, e_12]; rfl) (by decide) ?_
                refine lv_aload_n hx hb dX6_does_278 rfl (lv_at hl 2 rfl) ?_
                refine g_get hx hb hts hinX6 hown hG (o := 169) (hdm 169 (by decide)) rfl rfl 6 (by decide) f19 (fun _ h => h) rfl dX6_does_279 ?_
                refine lv_iload hx hb dX6_does_282 (lv_at hl 0 rfl) ?_
                refine g_callS (As := [.ref (gad G 173), .int (iZ (((t % 100).toNat) : Int))]) (rest := []) ⟨hx, hb, hml, hown, hts⟩ (c_X6_isDog l G M hdm 173 (Or.inr (Or.inr rfl)) hI (((t % 100).toNat) : Int) (by omega)) (va_cwS 2 hts gX6_does_X6_isDog rfl rfl rfl (by decide +kernel) ⟨Nat.le_of_ble_eq_true rfl, Nat.le_of_ble_eq_true rfl⟩) hG rfl hl.1 rfl (Nat.le_of_ble_eq_true rfl) dX6_does_284 ⟨Nat.zero_le _, Nat.zero_le _⟩ (fun z30 M31 H locs hp_284 hG => ?_)
                obtain ⟨hz_284, hM_284⟩ := hp_284; replace hz_284 := hz_284.symm; subst hz_284; replace hM_284 := hM_284.symm; subst hM_284
                refine z_ifP_eq (tgt := 311) hx hb dX6_does_287 (by decide) (fun c_287 => ?_) (fun c_287 => ?_)
                · skip
                  refine lv_iconst (v := iZ 0) hx hb dX6_does_311 rfl ?_
                  have hfr_0 : q_rf M M := q_rf.rf M
                  have hfr := hfr_0
                  exact g_zret (post := fun z M1 => z = (if q_doz (M 173) h t = true then 1 else 0) ∧ (q_doz (M 173) h t = true → M1 173 = q_dop (M 173) h t) ∧ q_rf M M1) (z := 0) hx hb hr hG hlocks (Or.inl rfl) (⟨by first | (rw [if_pos (show q_doz (M 173) h t = true by rw [e_12, q_doz_6]; exact decide_eq_true (by omega))]; done) | (rw [if_neg (show ¬ q_doz (M 173) h t = true by rw [e_12, q_doz_6]; exact fun h9 => by have h8 := of_decide_eq_true h9; omega)]; done), fun _ => by rw [e_12, q_dop_5 _ _ _ (by omega)]; first | done | exact rfl, hfr⟩) dX6_does_312
                · skip
                  refine lv_iload_n hx hb dX6_does_290 rfl (lv_at hl 1 rfl) ?_
                  refine z_if_le (tgt := 311) hx hb (by omega) dX6_does_291 (by decide) (fun c_291 => ?_) (fun c_291 => ?_)
                  · skip
                    refine lv_iconst (v := iZ 0) hx hb dX6_does_311 rfl ?_
                    have hfr_0 : q_rf M M := q_rf.rf M
                    have hfr := hfr_0
                    exact g_zret (post := fun z M1 => z = (if q_doz (M 173) h t = true then 1 else 0) ∧ (q_doz (M 173) h t = true → M1 173 = q_dop (M 173) h t) ∧ q_rf M M1) (z := 0) hx hb hr hG hlocks (Or.inl rfl) (⟨by first | (rw [if_pos (show q_doz (M 173) h t = true by rw [e_12, q_doz_6]; exact decide_eq_true (by omega))]; done) | (rw [if_neg (show ¬ q_doz (M 173) h t = true by rw [e_12, q_doz_6]; exact fun h9 => by have h8 := of_decide_eq_true h9; omega)]; done), fun _ => by rw [e_12, q_dop_5 _ _ _ (by omega)]; first | done | exact rfl, hfr⟩) dX6_does_312
                  · skip
                    refine lv_aload_n hx hb dX6_does_294 rfl (lv_at hl 2 rfl) ?_
                    refine g_get hx hb hts hinX6 hown hG (o := 169) (hdm 169 (by decide)) rfl rfl 6 (by decide) f19 (fun _ h => h) rfl dX6_does_295 ?_
                    refine lv_iload hx hb dX6_does_298 (lv_at hl 0 rfl) ?_
                    refine g_callS (As := [.ref (gad G 173), .int (iZ (((t % 100).toNat) : Int))]) (rest := []) ⟨hx, hb, hml, hown, hts⟩ (c_X6_placeOf l G M hdm 173 (Or.inr (Or.inr rfl)) hI (((t % 100).toNat)) (by omega)) (va_cwS 2 hts gX6_does_X6_placeOf rfl rfl rfl (by decide +kernel) ⟨Nat.le_of_ble_eq_true rfl, Nat.le_of_ble_eq_true rfl⟩) hG rfl hl.1 rfl (Nat.le_of_ble_eq_true rfl) dX6_does_300 ⟨Nat.zero_le _, Nat.zero_le _⟩ (fun z32 M33 H locs hp_300 hG => ?_)
                    obtain ⟨hz_300, hM_300⟩ := hp_300; replace hz_300 := hz_300.symm; subst hz_300; replace hM_300 := hM_300.symm; subst hM_300
                    have hpi := q_pl_in (M 173) (t % 100).toNat
                    have hpl0 := ct_in (fun j => decide (q_hs (M 173) j = 1) && q_bt (M 173) j (t % 100).toNat) (q_nd (M 173)).toNat
                    have hplr : q_pl (M 173) (t % 100).toNat ≤ 13 := by unfold q_pl; split <;> omega
                    refine lv_iload_n hx hb dX6_does_303 rfl (lv_at hl 1 rfl) ?_
                    refine z_icmp_ne (tgt := 311) hx hb (by omega) (by omega) dX6_does_304 (by decide) (fun c_304 => ?_) (fun c_304 => ?_)
                    · skip
                      refine lv_iconst (v := iZ 0) hx hb dX6_does_311 rfl ?_
                      have hfr_0 : q_rf M M := q_rf.rf M
                      have hfr := hfr_0
                      exact g_zret (post := fun z M1 => z = (if q_doz (M 173) h t = true then 1 else 0) ∧ (q_doz (M 173) h t = true → M1 173 = q_dop (M 173) h t) ∧ q_rf M M1) (z := 0) hx hb hr hG hlocks (Or.inl rfl) (⟨by first | (rw [if_pos (show q_doz (M 173) h t = true by rw [e_12, q_doz_6]; exact decide_eq_true (by omega))]; done) | (rw [if_neg (show ¬ q_doz (M 173) h t = true by rw [e_12, q_doz_6]; exact fun h9 => by have h8 := of_decide_eq_true h9; omega)]; done), fun _ => by rw [e_12, q_dop_5 _ _ _ (by omega)]; first | done | exact rfl, hfr⟩) dX6_does_312
                    · skip
                      refine lv_iconst (v := iZ 1) hx hb dX6_does_307 rfl ?_
                      refine lv_goto (tgt := 312) hx hb dX6_does_308 (by decide) ?_
                      have hfr_0 : q_rf M M := q_rf.rf M
                      have hfr := hfr_0
                      exact g_zret (post := fun z M1 => z = (if q_doz (M 173) h t = true then 1 else 0) ∧ (q_doz (M 173) h t = true → M1 173 = q_dop (M 173) h t) ∧ q_rf M M1) (z := 1) hx hb hr hG hlocks (Or.inr rfl) (⟨by first | (rw [if_pos (show q_doz (M 173) h t = true by rw [e_12, q_doz_6]; exact decide_eq_true (by omega))]; done) | (rw [if_neg (show ¬ q_doz (M 173) h t = true by rw [e_12, q_doz_6]; exact fun h9 => by have h8 := of_decide_eq_true h9; omega)]; done), fun _ => by rw [e_12, q_dop_5 _ _ _ (by omega)]; first | done | exact rfl, hfr⟩) dX6_does_312
              · rcases (show h = 7 ∨ 7 < h by omega) with e_12 | e_12
                · skip
                  refine lv_tableIn (off := 301) (tgt := 313) hx hb dX6_does_12 (by rw [hsw_12]; omega) (by rw [hsw_12]; omega) (by rw [hsw_12, e_12]; rfl) (by decide) ?_
                  refine lv_aload_n hx hb dX6_does_313 rfl (lv_at hl 2 rfl) ?_
                  refine g_get hx hb hts hinX6 hown hG (o := 169) (hdm 169 (by decide)) rfl rfl 6 (by decide) f19 (fun _ h => h) rfl dX6_does_314 ?_
                  refine lv_iconst (v := iZ 1) hx hb dX6_does_317 rfl ?_
                  refine g_iald (z := ((M 173) 1)) (j := 1) hx hb hG (o := 173) (hdm 173 (by decide)) rfl (by omega) (by omega) (by omega) rfl dX6_does_318 ?_
                  refine lv_iload_n hx hb dX6_does_319 rfl (lv_at hl 4 rfl) ?_
                  refine z_icmp_lt (tgt := 327) hx hb (by omega) (by omega) dX6_does_320 (by decide) (fun c_320 => ?_) (fun c_320 => ?_)
                  · skip
                    refine lv_iconst (v := iZ 0) hx hb dX6_does_327 rfl ?_
                    have hfr_0 : q_rf M M := q_rf.rf M
                    have hfr := hfr_0
                    exact g_zret (post := fun z M1 => z = (if q_doz (M 173) h t = true then 1 else 0) ∧ (q_doz (M 173) h t = true → M1 173 = q_dop (M 173) h t) ∧ q_rf M M1) (z := 0) hx hb hr hG hlocks (Or.inl rfl) (⟨by first | (rw [if_pos (show q_doz (M 173) h t = true by rw [e_12, q_doz_7]; exact decide_eq_true (by omega))]; done) | (rw [if_neg (show ¬ q_doz (M 173) h t = true by rw [e_12, q_doz_7]; exact fun h9 => by have h8 := of_decide_eq_true h9; omega)]; done), fun _ => by rw [e_12, q_dop_5 _ _ _ (by omega)]; first | done | exact rfl, hfr⟩) dX6_does_328
                  · skip
                    refine lv_iconst (v := iZ 1) hx hb dX6_does_323 rfl ?_
                    refine lv_goto (tgt := 328) hx hb dX6_does_324 (by decide) ?_
                    have hfr_0 : q_rf M M := q_rf.rf M
                    have hfr := hfr_0
                    exact g_zret (post := fun z M1 => z = (if q_doz (M 173) h t = true then 1 else 0) ∧ (q_doz (M 173) h t = true → M1 173 = q_dop (M 173) h t) ∧ q_rf M M1) (z := 1) hx hb hr hG hlocks (Or.inr rfl) (⟨by first | (rw [if_pos (show q_doz (M 173) h t = true by rw [e_12, q_doz_7]; exact decide_eq_true (by omega))]; done) | (rw [if_neg (show ¬ q_doz (M 173) h t = true by rw [e_12, q_doz_7]; exact fun h9 => by have h8 := of_decide_eq_true h9; omega)]; done), fun _ => by rw [e_12, q_dop_5 _ _ _ (by omega)]; first | done | exact rfl, hfr⟩) dX6_does_328
                · rcases (show h = 8 ∨ 8 < h by omega) with e_12 | e_12
                  · skip
                    refine lv_tableIn (off := 317) (tgt := 329) hx hb dX6_does_12 (by rw [hsw_12]; omega) (by rw [hsw_12]; omega) (by rw [hsw_12, e_12]; rfl) (by decide) ?_
                    refine lv_iload_n hx hb dX6_does_329 rfl (lv_at hl 1 rfl) ?_
                    refine z_if_ne (tgt := 349) hx hb (by omega) dX6_does_330 (by decide) (fun c_330 => ?_) (fun c_330 => ?_)
                    · skip
                      refine lv_iconst (v := iZ 0) hx hb dX6_does_349 rfl ?_
                      have hfr_0 : q_rf M M := q_rf.rf M
                      have hfr := hfr_0
                      exact g_zret (post := fun z M1 => z = (if q_doz (M 173) h t = true then 1 else 0) ∧ (q_doz (M 173) h t = true → M1 173 = q_dop (M 173) h t) ∧ q_rf M M1) (z := 0) hx hb hr hG hlocks (Or.inl rfl) (⟨by first | (rw [if_pos (show q_doz (M 173) h t = true by rw [e_12, q_doz_8]; exact decide_eq_true (by omega))]; done) | (rw [if_neg (show ¬ q_doz (M 173) h t = true by rw [e_12, q_doz_8]; exact fun h9 => by have h8 := of_decide_eq_true h9; omega)]; done), fun _ => by rw [e_12, q_dop_5 _ _ _ (by omega)]; first | done | exact rfl, hfr⟩) dX6_does_350
                    · skip
                      refine lv_aload_n hx hb dX6_does_333 rfl (lv_at hl 2 rfl) ?_
                      refine g_get hx hb hts hinX6 hown hG (o := 169) (hdm 169 (by decide)) rfl rfl 6 (by decide) f19 (fun _ h => h) rfl dX6_does_334 ?_
                      refine g_callS (As := [.ref (gad G 173)]) (rest := []) ⟨hx, hb, hml, hown, hts⟩ (c_X6_waiting l G M hdm 173 (Or.inr (Or.inr rfl)) hI) (va_cwS 1 hts gX6_does_X6_waiting rfl rfl rfl (by decide +kernel) ⟨Nat.le_of_ble_eq_true rfl, Nat.le_of_ble_eq_true rfl⟩) hG rfl hl.1 rfl (Nat.le_of_ble_eq_true rfl) dX6_does_337 ⟨Nat.zero_le _, Nat.zero_le _⟩ (fun z34 M35 H locs hp_337 hG => ?_)
                      obtain ⟨hz_337, hM_337⟩ := hp_337; replace hz_337 := hz_337.symm; subst hz_337; replace hM_337 := hM_337.symm; subst hM_337
                      have hwt : 0 ≤ q_nwait (M 173) ∧ q_nwait (M 173) ≤ (q_nd (M 173)).toNat := ct_in _ _
                      refine lv_iload hx hb dX6_does_340 (lv_at hl 0 rfl) ?_
                      refine z_icmp_ne (tgt := 349) hx hb (by omega) (by omega) dX6_does_342 (by decide) (fun c_342 => ?_) (fun c_342 => ?_)
                      · skip
                        refine lv_iconst (v := iZ 0) hx hb dX6_does_349 rfl ?_
                        have hfr_0 : q_rf M M := q_rf.rf M
                        have hfr := hfr_0
                        exact g_zret (post := fun z M1 => z = (if q_doz (M 173) h t = true then 1 else 0) ∧ (q_doz (M 173) h t = true → M1 173 = q_dop (M 173) h t) ∧ q_rf M M1) (z := 0) hx hb hr hG hlocks (Or.inl rfl) (⟨by first | (rw [if_pos (show q_doz (M 173) h t = true by rw [e_12, q_doz_8]; exact decide_eq_true (by omega))]; done) | (rw [if_neg (show ¬ q_doz (M 173) h t = true by rw [e_12, q_doz_8]; exact fun h9 => by have h8 := of_decide_eq_true h9; omega)]; done), fun _ => by rw [e_12, q_dop_5 _ _ _ (by omega)]; first | done | exact rfl, hfr⟩) dX6_does_350
                      · skip
                        refine lv_iconst (v := iZ 1) hx hb dX6_does_345 rfl ?_
                        refine lv_goto (tgt := 350) hx hb dX6_does_346 (by decide) ?_
                        have hfr_0 : q_rf M M := q_rf.rf M
                        have hfr := hfr_0
                        exact g_zret (post := fun z M1 => z = (if q_doz (M 173) h t = true then 1 else 0) ∧ (q_doz (M 173) h t = true → M1 173 = q_dop (M 173) h t) ∧ q_rf M M1) (z := 1) hx hb hr hG hlocks (Or.inr rfl) (⟨by first | (rw [if_pos (show q_doz (M 173) h t = true by rw [e_12, q_doz_8]; exact decide_eq_true (by omega))]; done) | (rw [if_neg (show ¬ q_doz (M 173) h t = true by rw [e_12, q_doz_8]; exact fun h9 => by have h8 := of_decide_eq_true h9; omega)]; done), fun _ => by rw [e_12, q_dop_5 _ _ _ (by omega)]; first | done | exact rfl, hfr⟩) dX6_does_350
                  · have e_12 : h = 9 := by omega
                    refine lv_tableIn (off := 339) (tgt := 351) hx hb dX6_does_12 (by rw [hsw_12]; omega) (by rw [hsw_12]; omega) (by rw [hsw_12, e_12]; rfl) (by decide) ?_
                    refine lv_iload_n hx hb dX6_does_351 rfl (lv_at hl 4 rfl) ?_
                    refine lv_bipush (v := iZ (10)) hx hb dX6_does_352 (by decide) ?_
                    refine z_icmp_ge (tgt := 372) hx hb (by omega) (by decide) dX6_does_354 (by decide) (fun c_354 => ?_) (fun c_354 => ?_)
                    · skip
                      refine lv_iconst (v := iZ 0) hx hb dX6_does_372 rfl ?_
                      have hfr_0 : q_rf M M := q_rf.rf M
                      have hfr := hfr_0
                      exact g_zret (post := fun z M1 => z = (if q_doz (M 173) h t = true then 1 else 0) ∧ (q_doz (M 173) h t = true → M1 173 = q_dop (M 173) h t) ∧ q_rf M M1) (z := 0) hx hb hr hG hlocks (Or.inl rfl) (⟨by first | (rw [if_pos (show q_doz (M 173) h t = true by rw [e_12, q_doz_9]; exact decide_eq_true (by omega))]; done) | (rw [if_neg (show ¬ q_doz (M 173) h t = true by rw [e_12, q_doz_9]; exact fun h9 => by have h8 := of_decide_eq_true h9; omega)]; done), fun _ => by rw [e_12, q_dop_5 _ _ _ (by omega)]; first | done | exact rfl, hfr⟩) dX6_does_373
                    · skip
                      refine lv_aload_n hx hb dX6_does_357 rfl (lv_at hl 2 rfl) ?_
                      refine g_get hx hb hts hinX6 hown hG (o := 169) (hdm 169 (by decide)) rfl rfl 6 (by decide) f19 (fun _ h => h) rfl dX6_does_358 ?_
                      refine g_callS (As := [.ref (gad G 173)]) (rest := []) ⟨hx, hb, hml, hown, hts⟩ (c_X6_why l G M hdm 173 (Or.inr (Or.inr rfl)) hI) (va_cwS 1 hts gX6_does_X6_why rfl rfl rfl (by decide +kernel) ⟨Nat.le_of_ble_eq_true rfl, Nat.le_of_ble_eq_true rfl⟩) hG rfl hl.1 rfl (Nat.le_of_ble_eq_true rfl) dX6_does_361 ⟨Nat.zero_le _, Nat.zero_le _⟩ (fun z36 M37 H locs hp_361 hG => ?_)
                      obtain ⟨hz_361, hM_361⟩ := hp_361; replace hz_361 := hz_361.symm; subst hz_361; replace hM_361 := hM_361.symm; subst hM_361
                      refine lv_iload_n hx hb dX6_does_364 rfl (lv_at hl 4 rfl) ?_
                      refine z_icmp_ne (tgt := 372) hx hb (by omega) (by omega) dX6_does_365 (by decide) (fun c_365 => ?_) (fun c_365 => ?_)
                      · skip
                        refine lv_iconst (v := iZ 0) hx hb dX6_does_372 rfl ?_
                        have hfr_0 : q_rf M M := q_rf.rf M
                        have hfr := hfr_0
                        exact g_zret (post := fun z M1 => z = (if q_doz (M 173) h t = true then 1 else 0) ∧ (q_doz (M 173) h t = true → M1 173 = q_dop (M 173) h t) ∧ q_rf M M1) (z := 0) hx hb hr hG hlocks (Or.inl rfl) (⟨by first | (rw [if_pos (show q_doz (M 173) h t = true by rw [e_12, q_doz_9]; exact decide_eq_true (by omega))]; done) | (rw [if_neg (show ¬ q_doz (M 173) h t = true by rw [e_12, q_doz_9]; exact fun h9 => by have h8 := of_decide_eq_true h9; omega)]; done), fun _ => by rw [e_12, q_dop_5 _ _ _ (by omega)]; first | done | exact rfl, hfr⟩) dX6_does_373
                      · skip
                        refine lv_iconst (v := iZ 1) hx hb dX6_does_368 rfl ?_
                        refine lv_goto (tgt := 373) hx hb dX6_does_369 (by decide) ?_
                        have hfr_0 : q_rf M M := q_rf.rf M
                        have hfr := hfr_0
                        exact g_zret (post := fun z M1 => z = (if q_doz (M 173) h t = true then 1 else 0) ∧ (q_doz (M 173) h t = true → M1 173 = q_dop (M 173) h t) ∧ q_rf M M1) (z := 1) hx hb hr hG hlocks (Or.inr rfl) (⟨by first | (rw [if_pos (show q_doz (M 173) h t = true by rw [e_12, q_doz_9]; exact decide_eq_true (by omega))]; done) | (rw [if_neg (show ¬ q_doz (M 173) h t = true by rw [e_12, q_doz_9]; exact fun h9 => by have h8 := of_decide_eq_true h9; omega)]; done), fun _ => by rw [e_12, q_dop_5 _ _ _ (by omega)]; first | done | exact rfl, hfr⟩) dX6_does_373
set_option maxHeartbeats 4000000 in
set_option maxRecDepth 100000 in
theorem c_X6_bestOf (l : Launch) (G : gG) (M : Nat → Nat → Int) (hdm : ∀ k, k < 179 → gdm G k) (hI : q_inv (M 172)) (i : Nat) (hi : (i : Int) < q_nd (M 172)) : gMi l yX6_bestOf wsX6_bestOf ({ frames := 5, cells := 0, slots := 0, locals := 113 } : Room) G M [.ref (gad G 169), .int (iZ (i : Int))] (fun z M1 => z = q_bp (M 172) i ∧ ∀ a, a ≠ 173 → M1 a = M a) := by
  refine gMi_of (cc := cX6_bestOf) (maxL := 5) (ret := some .int) (by decide) rfl (Nat.le_of_ble_eq_true rfl) ?_
  intro p e s m below meth c ls hx hb hr hml hown hts hlocks hl hG
  have hown : s.vm.findClass RX6 = some m.cls := hown
  have hl : lv_has ls 5 [(0, .ref (gad G 169)), (1, .int (iZ (i : Int)))] := hl
  have hinX6 : ∀ w ∈ u_ws RX6 TX6 13, w ∈ wsX6_bestOf := by decide +kernel
  have f16 := hts (.fieldLink RX6 16 "DogTrialsModel" "now" "[I") (by decide +kernel)
  have f19 := hts (.fieldLink RX6 19 "DogTrialsModel" "trial" "[I") (by decide +kernel)
  have hnd := hI.1
  have hdo := hI.2.1 i hi
  unfold q_dogok at hdo
  refine lv_aload_n hx hb dX6_bestOf_0 rfl (lv_at hl 0 rfl) ?_
  refine g_get hx hb hts hinX6 hown hG (o := 169) (hdm 169 (by decide)) rfl rfl 5 (by decide) f16 (fun _ h => h) rfl dX6_bestOf_1 ?_
  refine lv_iconst (v := iZ 0) hx hb dX6_bestOf_4 rfl ?_
  refine lv_aload_n hx hb dX6_bestOf_5 rfl (lv_at hl 0 rfl) ?_
  refine g_get hx hb hts hinX6 hown hG (o := 169) (hdm 169 (by decide)) rfl rfl 6 (by decide) f19 (fun _ h => h) rfl dX6_bestOf_6 ?_
  refine lv_iconst (v := iZ 0) hx hb dX6_bestOf_9 rfl ?_
  refine g_vcallS (As := [.ref (gad G 172), .int (iZ 0), .ref (gad G 173), .int (iZ 0)]) (rest := []) ⟨hx, hb, hml, hown, hts⟩ (c_copyTo l G M hdm 172 146 0 173 (by decide) (fun f => rfl) (by omega) (by decide) (Or.inr (Or.inr rfl)) (by decide)) (va_cwS 4 hts gX6_bestOf_X6_copyPage rfl rfl rfl (by decide +kernel) ⟨Nat.le_of_ble_eq_true rfl, Nat.le_of_ble_eq_true rfl⟩) hG rfl hl.1 rfl (Nat.le_of_ble_eq_true rfl) dX6_bestOf_10 ⟨Nat.zero_le _, Nat.zero_le _⟩ (fun M2 H locs hp_10 hG => ?_)
  replace hp_10 : M2 = q_set M 173 (M 172) := by rw [hp_10]; congr 1; funext k9; rw [Nat.zero_add]
  have hpv_M2_173 : M2 173 = (M 172) := by rw [hp_10, q_set_at]
  have hpv_M2_172 : M2 172 = (M 172) := (by rw [hp_10]; exact q_set_off _ _ (by decide))
  refine lv_iload_n hx hb dX6_bestOf_13 rfl (lv_at hl 1 rfl) ?_
  refine g_callS (As := [.int (iZ (i : Int))]) (rest := []) ⟨hx, hb, hml, hown, hts⟩ (c_X6_dogAt l G M2 (i : Int)) (va_cwS 1 hts gX6_bestOf_X6_dogAt rfl rfl rfl (by decide +kernel) ⟨Nat.le_of_ble_eq_true rfl, Nat.le_of_ble_eq_true rfl⟩) hG rfl hl.1 rfl (Nat.le_of_ble_eq_true rfl) dX6_bestOf_14 ⟨Nat.zero_le _, Nat.zero_le _⟩ (fun z3 M4 H locs hp_14 hG => ?_)
  obtain ⟨hz_14, hM_14⟩ := hp_14; replace hz_14 := hz_14.symm; subst hz_14; replace hM_14 := hM_14.symm; subst hM_14
  rw [show (14 + 11 * (i : Int) : Int) = (11 * (i : Int) + 14) from by omega]
  refine lv_istore_n (lv' := [(2, .int (iZ (11 * (i : Int) + 14))), (0, .ref (gad G 169)), (1, .int (iZ (i : Int)))]) hx hb dX6_bestOf_17 rfl hl (by decide) rfl (fun ls hl => ?_)
  refine lv_aload_n hx hb dX6_bestOf_18 rfl (lv_at hl 1 rfl) ?_
  refine g_get hx hb hts hinX6 hown hG (o := 169) (hdm 169 (by decide)) rfl rfl 5 (by decide) f16 (fun _ h => h) rfl dX6_bestOf_19 ?_
  refine lv_iload_n hx hb dX6_bestOf_22 rfl (lv_at hl 2 rfl) ?_
  refine g_callS (As := [.ref (gad G 172), .int (iZ (i : Int))]) (rest := []) ⟨hx, hb, hml, hown, hts⟩ (c_X6_isToRun l G M2 hdm 172 (Or.inr (Or.inl rfl)) (by rw [hpv_M2_172]; exact hI) i (by first | omega | (rw [hpv_M2_172]; omega))) (va_cwS 2 hts gX6_bestOf_X6_isToRun rfl rfl rfl (by decide +kernel) ⟨Nat.le_of_ble_eq_true rfl, Nat.le_of_ble_eq_true rfl⟩) hG rfl hl.1 rfl (Nat.le_of_ble_eq_true rfl) dX6_bestOf_23 ⟨Nat.zero_le _, Nat.zero_le _⟩ (fun z5 M6 H locs hp_23 hG => ?_)
  rw [hpv_M2_172] at hp_23
  obtain ⟨hz_23, hM_23⟩ := hp_23; replace hz_23 := hz_23.symm; subst hz_23; replace hM_23 := hM_23.symm; subst hM_23
  refine z_ifP_eq (tgt := 101) hx hb dX6_bestOf_26 (by decide) (fun c_26 => ?_) (fun c_26 => ?_)
  · skip
    refine lv_aload_n hx hb dX6_bestOf_101 rfl (lv_at hl 1 rfl) ?_
    refine g_get hx hb hts hinX6 hown hG (o := 169) (hdm 169 (by decide)) rfl rfl 6 (by decide) f19 (fun _ h => h) rfl dX6_bestOf_102 ?_
    refine lv_iload_n hx hb dX6_bestOf_105 rfl (lv_at hl 2 rfl) ?_
    refine g_callS (As := [.ref (gad G 173), .int (iZ (i : Int))]) (rest := []) ⟨hx, hb, hml, hown, hts⟩ (c_X6_placeOf l G M2 hdm 173 (Or.inr (Or.inr rfl)) (by rw [hpv_M2_173]; exact hI) i (by first | omega | (rw [hpv_M2_173]; omega))) (va_cwS 2 hts gX6_bestOf_X6_placeOf rfl rfl rfl (by decide +kernel) ⟨Nat.le_of_ble_eq_true rfl, Nat.le_of_ble_eq_true rfl⟩) hG rfl hl.1 rfl (Nat.le_of_ble_eq_true rfl) dX6_bestOf_106 ⟨Nat.zero_le _, Nat.zero_le _⟩ (fun z7 M8 H locs hp_106 hG => ?_)
    rw [hpv_M2_173] at hp_106
    obtain ⟨hz_106, hM_106⟩ := hp_106; replace hz_106 := hz_106.symm; subst hz_106; replace hM_106 := hM_106.symm; subst hM_106
    exact g_iret (post := fun z M1 => z = q_bp (M 172) i ∧ ∀ a, a ≠ 173 → M1 a = M a) (z := (q_pl (M 172) i)) hx hb hr hG hlocks (⟨by unfold q_bp; first | (rw [if_pos (by assumption)]; exact hbp) | (rw [if_neg (by assumption)]), by first | exact hofr | (intro a ha; rw [hp_10]; exact q_set_off _ _ ha)⟩) dX6_bestOf_109
  · skip
    refine lv_aload_n hx hb dX6_bestOf_29 rfl (lv_at hl 1 rfl) ?_
    refine g_get hx hb hts hinX6 hown hG (o := 169) (hdm 169 (by decide)) rfl rfl 5 (by decide) f16 (fun _ h => h) rfl dX6_bestOf_30 ?_
    refine lv_iload_n hx hb dX6_bestOf_33 rfl (lv_at hl 0 rfl) ?_
    refine lv_iconst (v := iZ 2) hx hb dX6_bestOf_34 rfl ?_
    refine z_iadd (z := (11 * (i : Int) + 16)) hx hb (by omega) dX6_bestOf_35 ?_
    refine g_iald (z := (q_sa (M 172) i)) (j := (14 + 11 * i + 2)) hx hb hG (o := 172) (hdm 172 (by decide)) rfl (by omega) (by omega) (by omega) (by rw [hpv_M2_172] <;> rfl) dX6_bestOf_36 ?_
    refine lv_iconst (v := iZ 2) hx hb dX6_bestOf_37 rfl ?_
    refine z_icmp_ne (tgt := 52) hx hb (by omega) (by decide) dX6_bestOf_38 (by decide) (fun c_38 => ?_) (fun c_38 => ?_)
    · skip
      refine lv_iconst (v := iZ 0) hx hb dX6_bestOf_52 rfl ?_
      have hfv : 0 = q_fp (M 172) i := by unfold q_fp; first | (rw [if_pos (by omega)]; done) | (rw [if_neg (by omega)]; done)
      have hfr9 : 0 ≤ q_fp (M 172) i ∧ q_fp (M 172) i ≤ 6 := by omega
      rw [show 0 = (((q_fp (M 172) i).toNat : Nat) : Int) by omega]
      refine lv_istore_n (lv' := [(3, .int (iZ (((q_fp (M 172) i).toNat) : Int))), (2, .int (iZ (11 * (i : Int) + 14))), (0, .ref (gad G 169)), (1, .int (iZ (i : Int)))]) hx hb dX6_bestOf_53 rfl hl (by decide) rfl (fun ls hl => ?_)
      refine lv_iload_n hx hb dX6_bestOf_54 rfl (lv_at hl 0 rfl) ?_
      refine lv_istore (lv' := [(4, .int (iZ (((q_fp (M 172) i).toNat) : Int))), (3, .int (iZ (((q_fp (M 172) i).toNat) : Int))), (2, .int (iZ (11 * (i : Int) + 14))), (0, .ref (gad G 169)), (1, .int (iZ (i : Int)))]) hx hb dX6_bestOf_55 hl (by decide) rfl (fun ls hl => ?_)
      have L_57 : ∀ (n_57 : Nat) (k : Nat) (x_i : Int) (Mk : Nat → Nat → Int), (x_i = (k : Int)) → (k ≤ 6) → ((q_fp (M 172) i).toNat ≤ k) → ((∀ b : Nat, Mk 173 b = if 14 + 11 * i + 5 ≤ b ∧ b < 14 + 11 * i + 5 + k ∧ q_fp (M 172) i ≤ ((b - (14 + 11 * i + 5) : Nat) : Int) then 0 else M 172 b)) → ((∀ a, a ≠ 173 → Mk a = M2 a)) → 6 - k < n_57 → ∀ (H : Heap) (locs : List Loc) (ls : Array Slot), gH G Mk s H locs → lv_has ls 5 [(4, .int (iZ x_i)), (3, .int (iZ (((q_fp (M 172) i).toNat) : Int))), (2, .int (iZ (11 * (i : Int) + 14))), (0, .ref (gad G 169)), (1, .int (iZ (i : Int)))] → W p l e ({ frames := 5, cells := 0, slots := 0, locals := 113 } : Room) s m [.ref (gad G 169), .int (iZ (i : Int))].toArray below meth c H locs 0 0 (MQ below (va_Qi (fun r (u : Int × (Nat → Nat → Int)) => r = iZ u.1 ∧ (fun z M1 => z = q_bp (M 172) i ∧ ∀ a, a ≠ 173 → M1 a = M a) u.1 u.2) (fun u U => gB G u.2 U) (gA G)) [.ref (gad G 169), .int (iZ (i : Int))].toArray s 0 0 (gA G)) (F0 m 57 ls []) := by
        intro n_57
        induction n_57 with
        | zero => intro k x_i Mk he_x_i hk hkf hrw ho hm_57; exact absurd hm_57 (Nat.not_lt_zero _)
        | succ n_57 ih_57 =>
          intro k x_i Mk he_x_i hk hkf hrw ho hm_57 H locs ls hG hl
          subst he_x_i
          refine lv_iload hx hb dX6_bestOf_57 (lv_at hl 0 rfl) ?_
          refine lv_bipush (v := iZ (6)) hx hb dX6_bestOf_59 (by decide) ?_
          refine z_icmp_ge (tgt := 82) hx hb (by omega) (by decide) dX6_bestOf_61 (by decide) (fun c_61 => ?_) (fun c_61 => ?_)
          · skip
            refine lv_aload_n hx hb dX6_bestOf_82 rfl (lv_at hl 3 rfl) ?_
            refine g_get hx hb hts hinX6 hown hG (o := 169) (hdm 169 (by decide)) rfl rfl 6 (by decide) f19 (fun _ h => h) rfl dX6_bestOf_83 ?_
            refine lv_iload_n hx hb dX6_bestOf_86 rfl (lv_at hl 2 rfl) ?_
            refine lv_iconst (v := iZ 4) hx hb dX6_bestOf_87 rfl ?_
            refine z_iadd (z := (11 * (i : Int) + 18)) hx hb (by omega) dX6_bestOf_88 ?_
            refine lv_bipush (v := iZ (6)) hx hb dX6_bestOf_89 (by decide) ?_
            refine g_iast (j := (14 + 11 * i + 4)) hx hb hG (o := 173) (hdm 173 (by decide)) (fun f => rfl) (by omega) (by omega) (by omega) dX6_bestOf_91 (fun H locs hG => ?_)
            obtain ⟨M9, hM9⟩ : ∃ X, X = (q_wr Mk 173 (14 + 11 * i + 4) 6) := ⟨_, rfl⟩
            rw [← hM9] at hG
            refine lv_aload_n hx hb dX6_bestOf_92 rfl (lv_at hl 3 rfl) ?_
            refine g_get hx hb hts hinX6 hown hG (o := 169) (hdm 169 (by decide)) rfl rfl 6 (by decide) f19 (fun _ h => h) rfl dX6_bestOf_93 ?_
            refine lv_iload_n hx hb dX6_bestOf_96 rfl (lv_at hl 2 rfl) ?_
            refine lv_iconst (v := iZ 3) hx hb dX6_bestOf_97 rfl ?_
            refine z_iadd (z := (11 * (i : Int) + 17)) hx hb (by omega) dX6_bestOf_98 ?_
            refine lv_iconst (v := iZ 1) hx hb dX6_bestOf_99 rfl ?_
            refine g_iast (j := (14 + 11 * i + 3)) hx hb hG (o := 173) (hdm 173 (by decide)) (fun f => rfl) (by omega) (by omega) (by omega) dX6_bestOf_100 (fun H locs hG => ?_)
            obtain ⟨M10, hM10⟩ : ∃ X, X = (q_wr M9 173 (14 + 11 * i + 3) 1) := ⟨_, rfl⟩
            rw [← hM10] at hG
            refine lv_aload_n hx hb dX6_bestOf_101 rfl (lv_at hl 3 rfl) ?_
            refine g_get hx hb hts hinX6 hown hG (o := 169) (hdm 169 (by decide)) rfl rfl 6 (by decide) f19 (fun _ h => h) rfl dX6_bestOf_102 ?_
            refine lv_iload_n hx hb dX6_bestOf_105 rfl (lv_at hl 4 rfl) ?_
            have hpg9 : M10 173 = q_sup (M 172) i := by rw [hM10, hM9]; funext b; unfold q_sup; simp only [wr_ap, true_and, hrw]; (repeat' split) <;> first | rfl | (exfalso; omega)
            have hinv9 : q_inv (q_sup (M 172) i) := inv_sup hI
            have hns9 := q_sup_nd (M 172) i
            have hbp := q_bp_sup hI hi
            have hofr : ∀ a, a ≠ 173 → M10 a = M a := fun a ha => by rw [hM10, wr_off _ _ _ ha, hM9, wr_off _ _ _ ha, ho a ha, hp_10]; exact q_set_off _ _ ha
            refine g_callS (As := [.ref (gad G 173), .int (iZ (i : Int))]) (rest := []) ⟨hx, hb, hml, hown, hts⟩ (c_X6_placeOf l G M10 hdm 173 (Or.inr (Or.inr rfl)) (by rw [hpg9]; exact hinv9) i (by first | omega | (rw [hpg9]; omega))) (va_cwS 2 hts gX6_bestOf_X6_placeOf rfl rfl rfl (by decide +kernel) ⟨Nat.le_of_ble_eq_true rfl, Nat.le_of_ble_eq_true rfl⟩) hG rfl hl.1 rfl (Nat.le_of_ble_eq_true rfl) dX6_bestOf_106 ⟨Nat.zero_le _, Nat.zero_le _⟩ (fun z11 M12 H locs hp_106 hG => ?_)
            rw [hpg9] at hp_106
            obtain ⟨hz_106, hM_106⟩ := hp_106; replace hz_106 := hz_106.symm; subst hz_106; replace hM_106 := hM_106.symm; subst hM_106
            exact g_iret (post := fun z M1 => z = q_bp (M 172) i ∧ ∀ a, a ≠ 173 → M1 a = M a) (z := (q_pl (q_sup (M 172) i) i)) hx hb hr hG hlocks (⟨by unfold q_bp; first | (rw [if_pos (by assumption)]; exact hbp) | (rw [if_neg (by assumption)]), by first | exact hofr | (intro a ha; rw [hp_10]; exact q_set_off _ _ ha)⟩) dX6_bestOf_109
          · skip
            refine lv_aload_n hx hb dX6_bestOf_64 rfl (lv_at hl 3 rfl) ?_
            refine g_get hx hb hts hinX6 hown hG (o := 169) (hdm 169 (by decide)) rfl rfl 6 (by decide) f19 (fun _ h => h) rfl dX6_bestOf_65 ?_
            refine lv_iload_n hx hb dX6_bestOf_68 rfl (lv_at hl 2 rfl) ?_
            refine lv_iconst (v := iZ 5) hx hb dX6_bestOf_69 rfl ?_
            refine z_iadd (z := (11 * (i : Int) + 19)) hx hb (by omega) dX6_bestOf_70 ?_
            refine lv_iload hx hb dX6_bestOf_71 (lv_at hl 0 rfl) ?_
            refine z_iadd (z := (11 * (i : Int) + (k : Int) + 19)) hx hb (by omega) dX6_bestOf_73 ?_
            refine lv_iconst (v := iZ 0) hx hb dX6_bestOf_74 rfl ?_
            refine g_iast (j := (14 + 11 * i + 5 + k)) hx hb hG (o := 173) (hdm 173 (by decide)) (fun f => rfl) (by omega) (by omega) (by omega) dX6_bestOf_75 (fun H locs hG => ?_)
            obtain ⟨M13, hM13⟩ : ∃ X, X = (q_wr Mk 173 (14 + 11 * i + 5 + k) 0) := ⟨_, rfl⟩
            rw [← hM13] at hG
            refine z_iinc (z := ((k : Int) + 1)) (lv' := [(4, .int (iZ ((k : Int) + 1))), (3, .int (iZ (((q_fp (M 172) i).toNat) : Int))), (2, .int (iZ (11 * (i : Int) + 14))), (0, .ref (gad G 169)), (1, .int (iZ (i : Int)))]) hx hb dX6_bestOf_76 hl (k := 0) rfl (by omega) (by decide) rfl (fun ls hl => ?_)
            refine lv_goto (tgt := 57) hx hb dX6_bestOf_79 (by decide) ?_
            exact ih_57 (k + 1) ((k : Int) + 1) M13 (by omega) (by omega) (by omega) (fun b => by rw [hM13, wr_ap, hrw b]; (repeat' split) <;> first | rfl | (exfalso; omega)) (fun a ha => by rw [hM13, wr_off _ _ _ ha]; exact ho a ha) (by omega) _ _ _ hG (lv_sub hl [0, 1, 2, 3, 4] rfl)
      exact L_57 _ ((q_fp (M 172) i).toNat) (((q_fp (M 172) i).toNat) : Int) M2 rfl (by omega) (by omega) (fun b => by rw [if_neg (by omega), hpv_M2_173]) (fun _ _ => rfl) (Nat.lt_succ_self _) _ _ _ hG (lv_sub hl [0, 1, 2, 3, 4] rfl)
    · skip
      refine lv_aload_n hx hb dX6_bestOf_41 rfl (lv_at hl 1 rfl) ?_
      refine g_get hx hb hts hinX6 hown hG (o := 169) (hdm 169 (by decide)) rfl rfl 5 (by decide) f16 (fun _ h => h) rfl dX6_bestOf_42 ?_
      refine lv_iload_n hx hb dX6_bestOf_45 rfl (lv_at hl 0 rfl) ?_
      refine lv_iconst (v := iZ 4) hx hb dX6_bestOf_46 rfl ?_
      refine z_iadd (z := (11 * (i : Int) + 18)) hx hb (by omega) dX6_bestOf_47 ?_
      refine g_iald (z := (q_fr (M 172) i)) (j := (14 + 11 * i + 4)) hx hb hG (o := 172) (hdm 172 (by decide)) rfl (by omega) (by omega) (by omega) (by rw [hpv_M2_172] <;> rfl) dX6_bestOf_48 ?_
      refine lv_goto (tgt := 53) hx hb dX6_bestOf_49 (by decide) ?_
      have hfv : (q_fr (M 172) i) = q_fp (M 172) i := by unfold q_fp; first | (rw [if_pos (by omega)]; done) | (rw [if_neg (by omega)]; done)
      have hfr9 : 0 ≤ q_fp (M 172) i ∧ q_fp (M 172) i ≤ 6 := by omega
      rw [show (q_fr (M 172) i) = (((q_fp (M 172) i).toNat : Nat) : Int) by omega]
      refine lv_istore_n (lv' := [(3, .int (iZ (((q_fp (M 172) i).toNat) : Int))), (2, .int (iZ (11 * (i : Int) + 14))), (0, .ref (gad G 169)), (1, .int (iZ (i : Int)))]) hx hb dX6_bestOf_53 rfl hl (by decide) rfl (fun ls hl => ?_)
      refine lv_iload_n hx hb dX6_bestOf_54 rfl (lv_at hl 0 rfl) ?_
      refine lv_istore (lv' := [(4, .int (iZ (((q_fp (M 172) i).toNat) : Int))), (3, .int (iZ (((q_fp (M 172) i).toNat) : Int))), (2, .int (iZ (11 * (i : Int) + 14))), (0, .ref (gad G 169)), (1, .int (iZ (i : Int)))]) hx hb dX6_bestOf_55 hl (by decide) rfl (fun ls hl => ?_)
      have L_57 : ∀ (n_57 : Nat) (k : Nat) (x_i : Int) (Mk : Nat → Nat → Int), (x_i = (k : Int)) → (k ≤ 6) → ((q_fp (M 172) i).toNat ≤ k) → ((∀ b : Nat, Mk 173 b = if 14 + 11 * i + 5 ≤ b ∧ b < 14 + 11 * i + 5 + k ∧ q_fp (M 172) i ≤ ((b - (14 + 11 * i + 5) : Nat) : Int) then 0 else M 172 b)) → ((∀ a, a ≠ 173 → Mk a = M2 a)) → 6 - k < n_57 → ∀ (H : Heap) (locs : List Loc) (ls : Array Slot), gH G Mk s H locs → lv_has ls 5 [(4, .int (iZ x_i)), (3, .int (iZ (((q_fp (M 172) i).toNat) : Int))), (2, .int (iZ (11 * (i : Int) + 14))), (0, .ref (gad G 169)), (1, .int (iZ (i : Int)))] → W p l e ({ frames := 5, cells := 0, slots := 0, locals := 113 } : Room) s m [.ref (gad G 169), .int (iZ (i : Int))].toArray below meth c H locs 0 0 (MQ below (va_Qi (fun r (u : Int × (Nat → Nat → Int)) => r = iZ u.1 ∧ (fun z M1 => z = q_bp (M 172) i ∧ ∀ a, a ≠ 173 → M1 a = M a) u.1 u.2) (fun u U => gB G u.2 U) (gA G)) [.ref (gad G 169), .int (iZ (i : Int))].toArray s 0 0 (gA G)) (F0 m 57 ls []) := by
        intro n_57
        induction n_57 with
        | zero => intro k x_i Mk he_x_i hk hkf hrw ho hm_57; exact absurd hm_57 (Nat.not_lt_zero _)
        | succ n_57 ih_57 =>
          intro k x_i Mk he_x_i hk hkf hrw ho hm_57 H locs ls hG hl
          subst he_x_i
          refine lv_iload hx hb dX6_bestOf_57 (lv_at hl 0 rfl) ?_
          refine lv_bipush (v := iZ (6)) hx hb dX6_bestOf_59 (by decide) ?_
          refine z_icmp_ge (tgt := 82) hx hb (by omega) (by decide) dX6_bestOf_61 (by decide) (fun c_61 => ?_) (fun c_61 => ?_)
          · skip
            refine lv_aload_n hx hb dX6_bestOf_82 rfl (lv_at hl 3 rfl) ?_
            refine g_get hx hb hts hinX6 hown hG (o := 169) (hdm 169 (by decide)) rfl rfl 6 (by decide) f19 (fun _ h => h) rfl dX6_bestOf_83 ?_
            refine lv_iload_n hx hb dX6_bestOf_86 rfl (lv_at hl 2 rfl) ?_
            refine lv_iconst (v := iZ 4) hx hb dX6_bestOf_87 rfl ?_
            refine z_iadd (z := (11 * (i : Int) + 18)) hx hb (by omega) dX6_bestOf_88 ?_
            refine lv_bipush (v := iZ (6)) hx hb dX6_bestOf_89 (by decide) ?_
            refine g_iast (j := (14 + 11 * i + 4)) hx hb hG (o := 173) (hdm 173 (by decide)) (fun f => rfl) (by omega) (by omega) (by omega) dX6_bestOf_91 (fun H locs hG => ?_)
            obtain ⟨M14, hM14⟩ : ∃ X, X = (q_wr Mk 173 (14 + 11 * i + 4) 6) := ⟨_, rfl⟩
            rw [← hM14] at hG
            refine lv_aload_n hx hb dX6_bestOf_92 rfl (lv_at hl 3 rfl) ?_
            refine g_get hx hb hts hinX6 hown hG (o := 169) (hdm 169 (by decide)) rfl rfl 6 (by decide) f19 (fun _ h => h) rfl dX6_bestOf_93 ?_
            refine lv_iload_n hx hb dX6_bestOf_96 rfl (lv_at hl 2 rfl) ?_
            refine lv_iconst (v := iZ 3) hx hb dX6_bestOf_97 rfl ?_
            refine z_iadd (z := (11 * (i : Int) + 17)) hx hb (by omega) dX6_bestOf_98 ?_
            refine lv_iconst (v := iZ 1) hx hb dX6_bestOf_99 rfl ?_
            refine g_iast (j := (14 + 11 * i + 3)) hx hb hG (o := 173) (hdm 173 (by decide)) (fun f => rfl) (by omega) (by omega) (by omega) dX6_bestOf_100 (fun H locs hG => ?_)
            obtain ⟨M15, hM15⟩ : ∃ X, X = (q_wr M14 173 (14 + 11 * i + 3) 1) := ⟨_, rfl⟩
            rw [← hM15] at hG
            refine lv_aload_n hx hb dX6_bestOf_101 rfl (lv_at hl 3 rfl) ?_
            refine g_get hx hb hts hinX6 hown hG (o := 169) (hdm 169 (by decide)) rfl rfl 6 (by decide) f19 (fun _ h => h) rfl dX6_bestOf_102 ?_
            refine lv_iload_n hx hb dX6_bestOf_105 rfl (lv_at hl 4 rfl) ?_
            have hpg9 : M15 173 = q_sup (M 172) i := by rw [hM15, hM14]; funext b; unfold q_sup; simp only [wr_ap, true_and, hrw]; (repeat' split) <;> first | rfl | (exfalso; omega)
            have hinv9 : q_inv (q_sup (M 172) i) := inv_sup hI
            have hns9 := q_sup_nd (M 172) i
            have hbp := q_bp_sup hI hi
            have hofr : ∀ a, a ≠ 173 → M15 a = M a := fun a ha => by rw [hM15, wr_off _ _ _ ha, hM14, wr_off _ _ _ ha, ho a ha, hp_10]; exact q_set_off _ _ ha
            refine g_callS (As := [.ref (gad G 173), .int (iZ (i : Int))]) (rest := []) ⟨hx, hb, hml, hown, hts⟩ (c_X6_placeOf l G M15 hdm 173 (Or.inr (Or.inr rfl)) (by rw [hpg9]; exact hinv9) i (by first | omega | (rw [hpg9]; omega))) (va_cwS 2 hts gX6_bestOf_X6_placeOf rfl rfl rfl (by decide +kernel) ⟨Nat.le_of_ble_eq_true rfl, Nat.le_of_ble_eq_true rfl⟩) hG rfl hl.1 rfl (Nat.le_of_ble_eq_true rfl) dX6_bestOf_106 ⟨Nat.zero_le _, Nat.zero_le _⟩ (fun z16 M17 H locs hp_106 hG => ?_)
            rw [hpg9] at hp_106
            obtain ⟨hz_106, hM_106⟩ := hp_106; replace hz_106 := hz_106.symm; subst hz_106; replace hM_106 := hM_106.symm; subst hM_106
            exact g_iret (post := fun z M1 => z = q_bp (M 172) i ∧ ∀ a, a ≠ 173 → M1 a = M a) (z := (q_pl (q_sup (M 172) i) i)) hx hb hr hG hlocks (⟨by unfold q_bp; first | (rw [if_pos (by assumption)]; exact hbp) | (rw [if_neg (by assumption)]), by first | exact hofr | (intro a ha; rw [hp_10]; exact q_set_off _ _ ha)⟩) dX6_bestOf_109
          · skip
            refine lv_aload_n hx hb dX6_bestOf_64 rfl (lv_at hl 3 rfl) ?_
            refine g_get hx hb hts hinX6 hown hG (o := 169) (hdm 169 (by decide)) rfl rfl 6 (by decide) f19 (fun _ h => h) rfl dX6_bestOf_65 ?_
            refine lv_iload_n hx hb dX6_bestOf_68 rfl (lv_at hl 2 rfl) ?_
            refine lv_iconst (v := iZ 5) hx hb dX6_bestOf_69 rfl ?_
            refine z_iadd (z := (11 * (i : Int) + 19)) hx hb (by omega) dX6_bestOf_70 ?_
            refine lv_iload hx hb dX6_bestOf_71 (lv_at hl 0 rfl) ?_
            refine z_iadd (z := (11 * (i : Int) + (k : Int) + 19)) hx hb (by omega) dX6_bestOf_73 ?_
            refine lv_iconst (v := iZ 0) hx hb dX6_bestOf_74 rfl ?_
            refine g_iast (j := (14 + 11 * i + 5 + k)) hx hb hG (o := 173) (hdm 173 (by decide)) (fun f => rfl) (by omega) (by omega) (by omega) dX6_bestOf_75 (fun H locs hG => ?_)
            obtain ⟨M18, hM18⟩ : ∃ X, X = (q_wr Mk 173 (14 + 11 * i + 5 + k) 0) := ⟨_, rfl⟩
            rw [← hM18] at hG
            refine z_iinc (z := ((k : Int) + 1)) (lv' := [(4, .int (iZ ((k : Int) + 1))), (3, .int (iZ (((q_fp (M 172) i).toNat) : Int))), (2, .int (iZ (11 * (i : Int) + 14))), (0, .ref (gad G 169)), (1, .int (iZ (i : Int)))]) hx hb dX6_bestOf_76 hl (k := 0) rfl (by omega) (by decide) rfl (fun ls hl => ?_)
            refine lv_goto (tgt := 57) hx hb dX6_bestOf_79 (by decide) ?_
            exact ih_57 (k + 1) ((k : Int) + 1) M18 (by omega) (by omega) (by omega) (fun b => by rw [hM18, wr_ap, hrw b]; (repeat' split) <;> first | rfl | (exfalso; omega)) (fun a ha => by rw [hM18, wr_off _ _ _ ha]; exact ho a ha) (by omega) _ _ _ hG (lv_sub hl [0, 1, 2, 3, 4] rfl)
      exact L_57 _ ((q_fp (M 172) i).toNat) (((q_fp (M 172) i).toNat) : Int) M2 rfl (by omega) (by omega) (fun b => by rw [if_neg (by omega), hpv_M2_173]) (fun _ _ => rfl) (Nat.lt_succ_self _) _ _ _ hG (lv_sub hl [0, 1, 2, 3, 4] rfl)