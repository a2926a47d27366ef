set_option maxHeartbeats 4000000 in
set_option maxRecDepth 100000 in
theorem c_X6_in (l : Launch) (G : gG) (M : Nat → Nat → Int) (a b c0 : Int) (ha : -9223372036854775808 ≤ a ∧ a < 9223372036854775808) (hbb : -9223372036854775808 ≤ b ∧ b < 9223372036854775808) (hcc : -9223372036854775808 ≤ c0 ∧ c0 < 9223372036854775808) : gMi l yX6_in wsX6_in ({ frames := 0, cells := 0, slots := 0, locals := 0 } : Room) G M [.long (lZ a), .long (lZ b), .long (lZ c0)] (fun z M1 => z = (if b ≤ a ∧ a ≤ c0 then 1 else 0) ∧ M1 = M) := by
  refine gMi_of (cc := cX6_in) (maxL := 6) (ret := some .boolean) (by decide) rfl (Nat.le_of_ble_eq_true rfl) ?_
  intro p e s m below meth c ls hx hb hr hml hown hts hlocks hl hG
  have hown : s.vm.findClass RX6 = some m.cls := hown
  have hl : lv_has ls 6 [(0, .long (lZ a)), (2, .long (lZ b)), (4, .long (lZ c0))] := hl
  refine lv_lload_n hx hb dX6_in_0 rfl (lv_at hl 0 rfl) ?_
  refine lv_lload_n hx hb dX6_in_1 rfl (lv_at hl 1 rfl) ?_
  refine W.lcmp hx hb dX6_in_2 ?_
  refine z_ifL_lt (tgt := 17) hx hb (by omega) (by omega) dX6_in_3 (by decide) (fun c_3 => ?_) (fun c_3 => ?_)
  · skip
    refine lv_iconst (v := iZ 0) hx hb dX6_in_17 rfl ?_
    exact g_zret (post := fun z M1 => z = (if b ≤ a ∧ a ≤ c0 then 1 else 0) ∧ M1 = M) (z := 0) hx hb hr hG hlocks (Or.inl rfl) (⟨by first | (rw [if_pos (by omega)]) | (rw [if_neg (by omega)]), rfl⟩) dX6_in_18
  · skip
    refine lv_lload_n hx hb dX6_in_6 rfl (lv_at hl 0 rfl) ?_
    refine lv_lload hx hb dX6_in_7 (lv_at hl 2 rfl) ?_
    refine W.lcmp hx hb dX6_in_9 ?_
    refine z_ifL_gt (tgt := 17) hx hb (by omega) (by omega) dX6_in_10 (by decide) (fun c_10 => ?_) (fun c_10 => ?_)
    · skip
      refine lv_iconst (v := iZ 0) hx hb dX6_in_17 rfl ?_
      exact g_zret (post := fun z M1 => z = (if b ≤ a ∧ a ≤ c0 then 1 else 0) ∧ M1 = M) (z := 0) hx hb hr hG hlocks (Or.inl rfl) (⟨by first | (rw [if_pos (by omega)]) | (rw [if_neg (by omega)]), rfl⟩) dX6_in_18
    · skip
      refine lv_iconst (v := iZ 1) hx hb dX6_in_13 rfl ?_
      refine lv_goto (tgt := 18) hx hb dX6_in_14 (by decide) ?_
      exact g_zret (post := fun z M1 => z = (if b ≤ a ∧ a ≤ c0 then 1 else 0) ∧ M1 = M) (z := 1) hx hb hr hG hlocks (Or.inr rfl) (⟨by first | (rw [if_pos (by omega)]) | (rw [if_neg (by omega)]), rfl⟩) dX6_in_18
set_option maxHeartbeats 4000000 in
set_option maxRecDepth 100000 in
theorem c_X6_dogAt (l : Launch) (G : gG) (M : Nat → Nat → Int) (i : Int) : gMi l yX6_dogAt wsX6_dogAt ({ frames := 0, cells := 0, slots := 0, locals := 0 } : Room) G M [.int (iZ i)] (fun z M1 => z = 14 + 11 * i ∧ M1 = M) := by
  refine gMi_of (cc := cX6_dogAt) (maxL := 1) (ret := some .int) (by decide) rfl (Nat.le_of_ble_eq_true rfl) ?_
  intro p e s m below meth c ls hx hb hr hml hown hts hlocks hl hG
  have hown : s.vm.findClass RX6 = some m.cls := hown
  have hl : lv_has ls 1 [(0, .int (iZ i))] := hl
  refine lv_bipush (v := iZ (14)) hx hb dX6_dogAt_0 (by decide) ?_
  refine lv_bipush (v := iZ (11)) hx hb dX6_dogAt_2 (by decide) ?_
  refine lv_iload_n hx hb dX6_dogAt_4 rfl (lv_at hl 0 rfl) ?_
  refine z_imul (z := (11 * i)) hx hb (by omega) dX6_dogAt_5 ?_
  refine z_iadd (z := (11 * i + 14)) hx hb (by omega) dX6_dogAt_6 ?_
  exact g_iret (post := fun z M1 => z = 14 + 11 * i ∧ M1 = M) (z := (11 * i + 14)) hx hb hr hG hlocks (⟨by first | rfl | omega, rfl⟩) dX6_dogAt_7
set_option maxHeartbeats 4000000 in
set_option maxRecDepth 100000 in
theorem c_X6_worth (l : Launch) (G : gG) (M : Nat → Nat → Int) (i : Nat) (hi : i < 6) : gMi l yX6_worth wsX6_worth ({ frames := 0, cells := 0, slots := 0, locals := 0 } : Room) G M [.int (iZ (i : Int))] (fun z M1 => z = q_wth i ∧ M1 = M) := by
  refine gMi_of (cc := cX6_worth) (maxL := 1) (ret := some .int) (by decide) rfl (Nat.le_of_ble_eq_true rfl) ?_
  intro p e s m below meth c ls hx hb hr hml hown hts hlocks hl hG
  have hown : s.vm.findClass RX6 = some m.cls := hown
  have hl : lv_has ls 1 [(0, .int (iZ (i : Int)))] := hl
  refine lv_iload_n hx hb dX6_worth_0 rfl (lv_at hl 0 rfl) ?_
  have hsw_1 : (iZ (i : Int)).toInt = (i : Int) := iZ_int (by omega)
  by_cases c_1 : (i : Int) < 0 ∨ 3 < (i : Int)
  · refine lv_tableOut (tgt := 38) hx hb dX6_worth_1 (by rw [hsw_1]; exact c_1) (by decide) ?_
    refine lv_bipush (v := iZ (10)) hx hb dX6_worth_38 (by decide) ?_
    exact g_iret (post := fun z M1 => z = q_wth i ∧ M1 = M) (z := 10) hx hb hr hG hlocks (⟨by first | (have e : i = 0 := (by omega); subst e; rfl) | (have e : i = 1 := (by omega); subst e; rfl) | (have e : i = 2 := (by omega); subst e; rfl) | (have e : i = 3 := (by omega); subst e; rfl) | (have e : i = 4 ∨ i = 5 := (by omega); rcases e with e | e <;> (subst e; rfl)), rfl⟩) dX6_worth_40
  · rcases (show (i : Int) = 0 ∨ 0 < (i : Int) by omega) with e_1 | e_1
    · skip
      refine lv_tableIn (off := 31) (tgt := 32) hx hb dX6_worth_1 (by rw [hsw_1]; omega) (by rw [hsw_1]; omega) (by rw [hsw_1, e_1]; rfl) (by decide) ?_
      refine lv_bipush (v := iZ (20)) hx hb dX6_worth_32 (by decide) ?_
      exact g_iret (post := fun z M1 => z = q_wth i ∧ M1 = M) (z := 20) hx hb hr hG hlocks (⟨by first | (have e : i = 0 := (by omega); subst e; rfl) | (have e : i = 1 := (by omega); subst e; rfl) | (have e : i = 2 := (by omega); subst e; rfl) | (have e : i = 3 := (by omega); subst e; rfl) | (have e : i = 4 ∨ i = 5 := (by omega); rcases e with e | e <;> (subst e; rfl)), rfl⟩) dX6_worth_34
    · rcases (show (i : Int) = 1 ∨ 1 < (i : Int) by omega) with e_1 | e_1
      · skip
        refine lv_tableIn (off := 37) (tgt := 38) hx hb dX6_worth_1 (by rw [hsw_1]; omega) (by rw [hsw_1]; omega) (by rw [hsw_1, e_1]; rfl) (by decide) ?_
        refine lv_bipush (v := iZ (10)) hx hb dX6_worth_38 (by decide) ?_
        exact g_iret (post := fun z M1 => z = q_wth i ∧ M1 = M) (z := 10) hx hb hr hG hlocks (⟨by first | (have e : i = 0 := (by omega); subst e; rfl) | (have e : i = 1 := (by omega); subst e; rfl) | (have e : i = 2 := (by omega); subst e; rfl) | (have e : i = 3 := (by omega); subst e; rfl) | (have e : i = 4 ∨ i = 5 := (by omega); rcases e with e | e <;> (subst e; rfl)), rfl⟩) dX6_worth_40
      · rcases (show (i : Int) = 2 ∨ 2 < (i : Int) by omega) with e_1 | e_1
        · skip
          refine lv_tableIn (off := 31) (tgt := 32) hx hb dX6_worth_1 (by rw [hsw_1]; omega) (by rw [hsw_1]; omega) (by rw [hsw_1, e_1]; rfl) (by decide) ?_
          refine lv_bipush (v := iZ (20)) hx hb dX6_worth_32 (by decide) ?_
          exact g_iret (post := fun z M1 => z = q_wth i ∧ M1 = M) (z := 20) hx hb hr hG hlocks (⟨by first | (have e : i = 0 := (by omega); subst e; rfl) | (have e : i = 1 := (by omega); subst e; rfl) | (have e : i = 2 := (by omega); subst e; rfl) | (have e : i = 3 := (by omega); subst e; rfl) | (have e : i = 4 ∨ i = 5 := (by omega); rcases e with e | e <;> (subst e; rfl)), rfl⟩) dX6_worth_34
        · have e_1 : (i : Int) = 3 := by omega
          refine lv_tableIn (off := 34) (tgt := 35) hx hb dX6_worth_1 (by rw [hsw_1]; omega) (by rw [hsw_1]; omega) (by rw [hsw_1, e_1]; rfl) (by decide) ?_
          refine lv_bipush (v := iZ (30)) hx hb dX6_worth_35 (by decide) ?_
          exact g_iret (post := fun z M1 => z = q_wth i ∧ M1 = M) (z := 30) hx hb hr hG hlocks (⟨by first | (have e : i = 0 := (by omega); subst e; rfl) | (have e : i = 1 := (by omega); subst e; rfl) | (have e : i = 2 := (by omega); subst e; rfl) | (have e : i = 3 := (by omega); subst e; rfl) | (have e : i = 4 ∨ i = 5 := (by omega); rcases e with e | e <;> (subst e; rfl)), rfl⟩) dX6_worth_37
set_option maxHeartbeats 4000000 in
set_option maxRecDepth 100000 in
theorem c_X6_isPhase (l : Launch) (G : gG) (M : Nat → Nat → Int) (a : Int) (ha : -2147483648 ≤ a ∧ a < 2147483648) : gMi l yX6_isPhase wsX6_isPhase ({ frames := 1, cells := 0, slots := 0, locals := 25 } : Room) G M [.int (iZ a)] (fun z M1 => z = (if 0 ≤ a ∧ a ≤ 5 then 1 else 0) ∧ M1 = M) := by
  refine gMi_of (cc := cX6_isPhase) (maxL := 1) (ret := some .boolean) (by decide) rfl (Nat.le_of_ble_eq_true rfl) ?_
  intro p e s m below meth c ls hx hb hr hml hown hts hlocks hl hG
  have hown : s.vm.findClass RX6 = some m.cls := hown
  have hl : lv_has ls 1 [(0, .int (iZ a))] := hl
  refine lv_iload_n hx hb dX6_isPhase_0 rfl (lv_at hl 0 rfl) ?_
  refine z_i2l hx hb (by omega) dX6_isPhase_1 ?_
  refine lv_lconst (v := lZ 0) hx hb dX6_isPhase_2 rfl ?_
  refine lv_ldc2 (v := lZ 5) hx hb hown (by rw [show lZ 5 = (5 : Int64) from by decide]; exact hts (.constantLong RX6 55 5) (by decide +kernel)) dX6_isPhase_3 ?_
  refine g_callS (As := [.long (lZ a), .long (lZ 0), .long (lZ 5)]) (rest := []) ⟨hx, hb, hml, hown, hts⟩ (c_X6_in l G M a 0 5 (by omega) (by omega) (by omega)) (va_cwS 3 hts gX6_isPhase_X6_in rfl rfl rfl (by decide +kernel) ⟨Nat.le_of_ble_eq_true rfl, Nat.le_of_ble_eq_true rfl⟩) hG rfl hl.1 rfl (Nat.le_of_ble_eq_true rfl) dX6_isPhase_6 ⟨Nat.zero_le _, Nat.zero_le _⟩ (fun z1 M2 H locs hp_6 hG => ?_)
  obtain ⟨hz_6, hM_6⟩ := hp_6; replace hz_6 := hz_6.symm; subst hz_6; replace hM_6 := hM_6.symm; subst hM_6
  exact g_zret (post := fun z M1 => z = (if 0 ≤ a ∧ a ≤ 5 then 1 else 0) ∧ M1 = M) (z := (if (0 ≤ a ∧ a ≤ 5) then 1 else 0)) hx hb hr hG hlocks (by first | omega | (split <;> simp)) (⟨by first | rfl | omega, rfl⟩) dX6_isPhase_9
set_option maxHeartbeats 4000000 in
set_option maxRecDepth 100000 in
theorem c_X6_isSunset (l : Launch) (G : gG) (M : Nat → Nat → Int) (a : Int) (ha : -2147483648 ≤ a ∧ a < 2147483648) : gMi l yX6_isSunset wsX6_isSunset ({ frames := 1, cells := 0, slots := 0, locals := 25 } : Room) G M [.int (iZ a)] (fun z M1 => z = (if 60 ≤ a ∧ a ≤ 600 then 1 else 0) ∧ M1 = M) := by
  refine gMi_of (cc := cX6_isSunset) (maxL := 1) (ret := some .boolean) (by decide) rfl (Nat.le_of_ble_eq_true rfl) ?_
  intro p e s m below meth c ls hx hb hr hml hown hts hlocks hl hG
  have hown : s.vm.findClass RX6 = some m.cls := hown
  have hl : lv_has ls 1 [(0, .int (iZ a))] := hl
  refine lv_iload_n hx hb dX6_isSunset_0 rfl (lv_at hl 0 rfl) ?_
  refine z_i2l hx hb (by omega) dX6_isSunset_1 ?_
  refine lv_ldc2 (v := lZ 60) hx hb hown (by rw [show lZ 60 = (60 : Int64) from by decide]; exact hts (.constantLong RX6 202 60) (by decide +kernel)) dX6_isSunset_2 ?_
  refine lv_ldc2 (v := lZ 600) hx hb hown (by rw [show lZ 600 = (600 : Int64) from by decide]; exact hts (.constantLong RX6 204 600) (by decide +kernel)) dX6_isSunset_5 ?_
  refine g_callS (As := [.long (lZ a), .long (lZ 60), .long (lZ 600)]) (rest := []) ⟨hx, hb, hml, hown, hts⟩ (c_X6_in l G M a 60 600 (by omega) (by omega) (by omega)) (va_cwS 3 hts gX6_isSunset_X6_in rfl rfl rfl (by decide +kernel) ⟨Nat.le_of_ble_eq_true rfl, Nat.le_of_ble_eq_true rfl⟩) hG rfl hl.1 rfl (Nat.le_of_ble_eq_true rfl) dX6_isSunset_8 ⟨Nat.zero_le _, Nat.zero_le _⟩ (fun z1 M2 H locs hp_8 hG => ?_)
  obtain ⟨hz_8, hM_8⟩ := hp_8; replace hz_8 := hz_8.symm; subst hz_8; replace hM_8 := hM_8.symm; subst hM_8
  exact g_zret (post := fun z M1 => z = (if 60 ≤ a ∧ a ≤ 600 then 1 else 0) ∧ M1 = M) (z := (if (60 ≤ a ∧ a ≤ 600) then 1 else 0)) hx hb hr hG hlocks (by first | omega | (split <;> simp)) (⟨by first | rfl | omega, rfl⟩) dX6_isSunset_11
set_option maxHeartbeats 4000000 in
set_option maxRecDepth 100000 in
theorem c_X6_stateOf (l : Launch) (G : gG) (M : Nat → Nat → Int) (hdm : ∀ k, k < 179 → gdm G k) (q : Nat) (hP : isP q) (hI : q_inv (M q)) (i : Nat) (hi : (i : Int) < q_nd (M q)) : gMi l yX6_stateOf wsX6_stateOf ({ frames := 1, cells := 0, slots := 0, locals := 20 } : Room) G M [.ref (gad G q), .int (iZ (i : Int))] (fun z M1 => z = q_sa (M q) i ∧ M1 = M) := by
  refine gMi_of (cc := cX6_stateOf) (maxL := 2) (ret := some .int) (by decide) rfl (Nat.le_of_ble_eq_true rfl) ?_
  intro p e s m below meth c ls hx hb hr hml hown hts hlocks hl hG
  have hown : s.vm.findClass RX6 = some m.cls := hown
  have hl : lv_has ls 2 [(0, .ref (gad G q)), (1, .int (iZ (i : Int)))] := hl
  have hdp_q : gdm G q := hdm _ (by rcases hP with h | h | h <;> omega)
  have hnd := hI.1
  have hdo := hI.2.1 i hi
  unfold q_dogok at hdo
  refine lv_aload_n hx hb dX6_stateOf_0 rfl (lv_at hl 0 rfl) ?_
  refine lv_iload_n hx hb dX6_stateOf_1 rfl (lv_at hl 1 rfl) ?_
  refine g_callS (As := [.int (iZ (i : Int))]) (rest := [.ref (gad G q)]) ⟨hx, hb, hml, hown, hts⟩ (c_X6_dogAt l G M (i : Int)) (va_cwS 1 hts gX6_stateOf_X6_dogAt rfl rfl rfl (by decide +kernel) ⟨Nat.le_of_ble_eq_true rfl, Nat.le_of_ble_eq_true rfl⟩) hG rfl hl.1 rfl (Nat.le_of_ble_eq_true rfl) dX6_stateOf_2 ⟨Nat.zero_le _, Nat.zero_le _⟩ (fun z1 M2 H locs hp_2 hG => ?_)
  obtain ⟨hz_2, hM_2⟩ := hp_2; replace hz_2 := hz_2.symm; subst hz_2; replace hM_2 := hM_2.symm; subst hM_2
  rw [show (14 + 11 * (i : Int) : Int) = (11 * (i : Int) + 14) from by omega]
  refine lv_iconst (v := iZ 2) hx hb dX6_stateOf_5 rfl ?_
  refine z_iadd (z := (11 * (i : Int) + 16)) hx hb (by omega) dX6_stateOf_6 ?_
  refine g_iald (z := (q_sa (M q) i)) (j := (14 + 11 * i + 2)) hx hb hG (o := q) hdp_q (gE_P hP G _) (by omega) (by omega) (by omega) rfl dX6_stateOf_7 ?_
  exact g_iret (post := fun z M1 => z = q_sa (M q) i ∧ M1 = M) (z := (q_sa (M q) i)) hx hb hr hG hlocks (⟨by first | rfl | omega, rfl⟩) dX6_stateOf_8
set_option maxHeartbeats 4000000 in
set_option maxRecDepth 100000 in
theorem c_X6_hasRun (l : Launch) (G : gG) (M : Nat → Nat → Int) (hdm : ∀ k, k < 179 → gdm G k) (q : Nat) (hP : isP q) (hI : q_inv (M q)) (i : Nat) (hi : (i : Int) < q_nd (M q)) : gMi l yX6_hasRun wsX6_hasRun ({ frames := 1, cells := 0, slots := 0, locals := 20 } : Room) G M [.ref (gad G q), .int (iZ (i : Int))] (fun z M1 => z = (if q_hs (M q) i = 1 then 1 else 0) ∧ M1 = M) := by
  refine gMi_of (cc := cX6_hasRun) (maxL := 2) (ret := some .boolean) (by decide) rfl (Nat.le_of_ble_eq_true rfl) ?_
  intro p e s m below meth c ls hx hb hr hml hown hts hlocks hl hG
  have hown : s.vm.findClass RX6 = some m.cls := hown
  have hl : lv_has ls 2 [(0, .ref (gad G q)), (1, .int (iZ (i : Int)))] := hl
  have hdp_q : gdm G q := hdm _ (by rcases hP with h | h | h <;> omega)
  have hnd := hI.1
  have hdo := hI.2.1 i hi
  unfold q_dogok at hdo
  refine lv_aload_n hx hb dX6_hasRun_0 rfl (lv_at hl 0 rfl) ?_
  refine lv_iload_n hx hb dX6_hasRun_1 rfl (lv_at hl 1 rfl) ?_
  refine g_callS (As := [.int (iZ (i : Int))]) (rest := [.ref (gad G q)]) ⟨hx, hb, hml, hown, hts⟩ (c_X6_dogAt l G M (i : Int)) (va_cwS 1 hts gX6_hasRun_X6_dogAt rfl rfl rfl (by decide +kernel) ⟨Nat.le_of_ble_eq_true rfl, Nat.le_of_ble_eq_true rfl⟩) hG rfl hl.1 rfl (Nat.le_of_ble_eq_true rfl) dX6_hasRun_2 ⟨Nat.zero_le _, Nat.zero_le _⟩ (fun z1 M2 H locs hp_2 hG => ?_)
  obtain ⟨hz_2, hM_2⟩ := hp_2; replace hz_2 := hz_2.symm; subst hz_2; replace hM_2 := hM_2.symm; subst hM_2
  rw [show (14 + 11 * (i : Int) : Int) = (11 * (i : Int) + 14) from by omega]
  refine lv_iconst (v := iZ 3) hx hb dX6_hasRun_5 rfl ?_
  refine z_iadd (z := (11 * (i : Int) + 17)) hx hb (by omega) dX6_hasRun_6 ?_
  refine g_iald (z := (q_hs (M q) i)) (j := (14 + 11 * i + 3)) hx hb hG (o := q) hdp_q (gE_P hP G _) (by omega) (by omega) (by omega) rfl dX6_hasRun_7 ?_
  refine lv_iconst (v := iZ 1) hx hb dX6_hasRun_8 rfl ?_
  refine z_icmp_ne (tgt := 16) hx hb (by omega) (by decide) dX6_hasRun_9 (by decide) (fun c_9 => ?_) (fun c_9 => ?_)
  · skip
    refine lv_iconst (v := iZ 0) hx hb dX6_hasRun_16 rfl ?_
    exact g_zret (post := fun z M1 => z = (if q_hs (M q) i = 1 then 1 else 0) ∧ M1 = M) (z := 0) hx hb hr hG hlocks (Or.inl rfl) (⟨by first | (rw [if_pos (by omega)]) | (rw [if_neg (by omega)]), rfl⟩) dX6_hasRun_17
  · skip
    refine lv_iconst (v := iZ 1) hx hb dX6_hasRun_12 rfl ?_
    refine lv_goto (tgt := 17) hx hb dX6_hasRun_13 (by decide) ?_
    exact g_zret (post := fun z M1 => z = (if q_hs (M q) i = 1 then 1 else 0) ∧ M1 = M) (z := 1) hx hb hr hG hlocks (Or.inr rfl) (⟨by first | (rw [if_pos (by omega)]) | (rw [if_neg (by omega)]), rfl⟩) dX6_hasRun_17
set_option maxHeartbeats 4000000 in
set_option maxRecDepth 100000 in
theorem c_X6_isToRun (l : Launch) (G : gG) (M : Nat → Nat → Int) (hdm : ∀ k, k < 179 → gdm G k) (q : Nat) (hP : isP q) (hI : q_inv (M q)) (i : Nat) (hi : (i : Int) < q_nd (M q)) : gMi l yX6_isToRun wsX6_isToRun ({ frames := 2, cells := 0, slots := 0, locals := 41 } : Room) G M [.ref (gad G q), .int (iZ (i : Int))] (fun z M1 => z = (if q_torun (M q) i = true then 1 else 0) ∧ M1 = M) := by
  refine gMi_of (cc := cX6_isToRun) (maxL := 2) (ret := some .boolean) (by decide) rfl (Nat.le_of_ble_eq_true rfl) ?_
  intro p e s m below meth c ls hx hb hr hml hown hts hlocks hl hG
  have hown : s.vm.findClass RX6 = some m.cls := hown
  have hl : lv_has ls 2 [(0, .ref (gad G q)), (1, .int (iZ (i : Int)))] := hl
  have hnd := hI.1
  have hdo := hI.2.1 i hi
  unfold q_dogok at hdo
  refine lv_aload_n hx hb dX6_isToRun_0 rfl (lv_at hl 0 rfl) ?_
  refine lv_iload_n hx hb dX6_isToRun_1 rfl (lv_at hl 1 rfl) ?_
  refine g_callS (As := [.ref (gad G q), .int (iZ (i : Int))]) (rest := []) ⟨hx, hb, hml, hown, hts⟩ (c_X6_stateOf l G M hdm q hP hI i (by omega)) (va_cwS 2 hts gX6_isToRun_X6_stateOf rfl rfl rfl (by decide +kernel) ⟨Nat.le_of_ble_eq_true rfl, Nat.le_of_ble_eq_true rfl⟩) hG rfl hl.1 rfl (Nat.le_of_ble_eq_true rfl) dX6_isToRun_2 ⟨Nat.zero_le _, Nat.zero_le _⟩ (fun z1 M2 H locs hp_2 hG => ?_)
  obtain ⟨hz_2, hM_2⟩ := hp_2; replace hz_2 := hz_2.symm; subst hz_2; replace hM_2 := hM_2.symm; subst hM_2
  refine z_if_eq (tgt := 17) hx hb (by omega) dX6_isToRun_5 (by decide) (fun c_5 => ?_) (fun c_5 => ?_)
  · skip
    refine lv_iconst (v := iZ 1) hx hb dX6_isToRun_17 rfl ?_
    refine lv_goto (tgt := 22) hx hb dX6_isToRun_18 (by decide) ?_
    exact g_zret (post := fun z M1 => z = (if q_torun (M q) i = true then 1 else 0) ∧ M1 = M) (z := 1) hx hb hr hG hlocks (Or.inr rfl) (⟨by unfold q_torun; first | (rw [if_pos (decide_eq_true (by omega))]) | (rw [if_neg (fun h => by have h9 := of_decide_eq_true h; omega)]), rfl⟩) dX6_isToRun_22
  · skip
    refine lv_aload_n hx hb dX6_isToRun_8 rfl (lv_at hl 0 rfl) ?_
    refine lv_iload_n hx hb dX6_isToRun_9 rfl (lv_at hl 1 rfl) ?_
    refine g_callS (As := [.ref (gad G q), .int (iZ (i : Int))]) (rest := []) ⟨hx, hb, hml, hown, hts⟩ (c_X6_stateOf l G M hdm q hP hI i (by omega)) (va_cwS 2 hts gX6_isToRun_X6_stateOf rfl rfl rfl (by decide +kernel) ⟨Nat.le_of_ble_eq_true rfl, Nat.le_of_ble_eq_true rfl⟩) hG rfl hl.1 rfl (Nat.le_of_ble_eq_true rfl) dX6_isToRun_10 ⟨Nat.zero_le _, Nat.zero_le _⟩ (fun z3 M4 H locs hp_10 hG => ?_)
    obtain ⟨hz_10, hM_10⟩ := hp_10; replace hz_10 := hz_10.symm; subst hz_10; replace hM_10 := hM_10.symm; subst hM_10
    refine lv_iconst (v := iZ 2) hx hb dX6_isToRun_13 rfl ?_
    refine z_icmp_ne (tgt := 21) hx hb (by omega) (by decide) dX6_isToRun_14 (by decide) (fun c_14 => ?_) (fun c_14 => ?_)
    · skip
      refine lv_iconst (v := iZ 0) hx hb dX6_isToRun_21 rfl ?_
      exact g_zret (post := fun z M1 => z = (if q_torun (M q) i = true then 1 else 0) ∧ M1 = M) (z := 0) hx hb hr hG hlocks (Or.inl rfl) (⟨by unfold q_torun; first | (rw [if_pos (decide_eq_true (by omega))]) | (rw [if_neg (fun h => by have h9 := of_decide_eq_true h; omega)]), rfl⟩) dX6_isToRun_22
    · skip
      refine lv_iconst (v := iZ 1) hx hb dX6_isToRun_17 rfl ?_
      refine lv_goto (tgt := 22) hx hb dX6_isToRun_18 (by decide) ?_
      exact g_zret (post := fun z M1 => z = (if q_torun (M q) i = true then 1 else 0) ∧ M1 = M) (z := 1) hx hb hr hG hlocks (Or.inr rfl) (⟨by unfold q_torun; first | (rw [if_pos (decide_eq_true (by omega))]) | (rw [if_neg (fun h => by have h9 := of_decide_eq_true h; omega)]), rfl⟩) dX6_isToRun_22
set_option maxHeartbeats 4000000 in
set_option maxRecDepth 100000 in
theorem c_X6_isDog (l : Launch) (G : gG) (M : Nat → Nat → Int) (hdm : ∀ k, k < 179 → gdm G k) (q : Nat) (hP : isP q) (hI : q_inv (M q)) (a : Int) (ha : -2147483648 ≤ a ∧ a < 2147483648) : gMi l yX6_isDog wsX6_isDog ({ frames := 1, cells := 0, slots := 0, locals := 25 } : Room) G M [.ref (gad G q), .int (iZ a)] (fun z M1 => z = (if 0 ≤ a ∧ a ≤ q_nd (M q) - 1 then 1 else 0) ∧ M1 = M) := by
  refine gMi_of (cc := cX6_isDog) (maxL := 2) (ret := some .boolean) (by decide) rfl (Nat.le_of_ble_eq_true rfl) ?_
  intro p e s m below meth c ls hx hb hr hml hown hts hlocks hl hG
  have hown : s.vm.findClass RX6 = some m.cls := hown
  have hl : lv_has ls 2 [(0, .ref (gad G q)), (1, .int (iZ a))] := hl
  have hdp_q : gdm G q := hdm _ (by rcases hP with h | h | h <;> omega)
  have hnd := hI.1
  refine lv_iload_n hx hb dX6_isDog_0 rfl (lv_at hl 1 rfl) ?_
  refine z_i2l hx hb (by omega) dX6_isDog_1 ?_
  refine lv_lconst (v := lZ 0) hx hb dX6_isDog_2 rfl ?_
  refine lv_aload_n hx hb dX6_isDog_3 rfl (lv_at hl 0 rfl) ?_
  refine lv_bipush (v := iZ (7)) hx hb dX6_isDog_4 (by decide) ?_
  refine g_iald (z := (q_nd (M q))) (j := 7) hx hb hG (o := q) hdp_q (gE_P hP G _) (by omega) (by omega) (by omega) rfl dX6_isDog_6 ?_
  refine lv_iconst (v := iZ 1) hx hb dX6_isDog_7 rfl ?_
  refine z_isub (z := ((q_nd (M q)) - 1)) hx hb (by omega) dX6_isDog_8 ?_
  refine z_i2l hx hb (by omega) dX6_isDog_9 ?_
  refine g_callS (As := [.long (lZ a), .long (lZ 0), .long (lZ ((q_nd (M q)) - 1))]) (rest := []) ⟨hx, hb, hml, hown, hts⟩ (c_X6_in l G M a 0 ((q_nd (M q)) - 1) (by omega) (by omega) (by omega)) (va_cwS 3 hts gX6_isDog_X6_in rfl rfl rfl (by decide +kernel) ⟨Nat.le_of_ble_eq_true rfl, Nat.le_of_ble_eq_true rfl⟩) hG rfl hl.1 rfl (Nat.le_of_ble_eq_true rfl) dX6_isDog_10 ⟨Nat.zero_le _, Nat.zero_le _⟩ (fun z1 M2 H locs hp_10 hG => ?_)
  obtain ⟨hz_10, hM_10⟩ := hp_10; replace hz_10 := hz_10.symm; subst hz_10; replace hM_10 := hM_10.symm; subst hM_10
  exact g_zret (post := fun z M1 => z = (if 0 ≤ a ∧ a ≤ q_nd (M q) - 1 then 1 else 0) ∧ M1 = M) (z := (if (0 ≤ a ∧ a ≤ ((q_nd (M q)) - 1)) then 1 else 0)) hx hb hr hG hlocks (by first | omega | (split <;> simp)) (⟨by first | rfl | omega, rfl⟩) dX6_isDog_13
set_option maxHeartbeats 4000000 in
set_option maxRecDepth 100000 in
theorem c_X6_lostIn (l : Launch) (G : gG) (M : Nat → Nat → Int) (hdm : ∀ k, k < 179 → gdm G k) (q : Nat) (hP : isP q) (hI : q_inv (M q)) (i : Nat) (hi : (i : Int) < q_nd (M q)) (p0 : Nat) (hp : p0 < 6) : gMi l yX6_lostIn wsX6_lostIn ({ frames := 1, cells := 0, slots := 0, locals := 20 } : Room) G M [.ref (gad G q), .int (iZ (i : Int)), .int (iZ (p0 : Int))] (fun z M1 => z = q_lo (M q) i p0 ∧ M1 = M) := by
  refine gMi_of (cc := cX6_lostIn) (maxL := 3) (ret := some .int) (by decide) rfl (Nat.le_of_ble_eq_true rfl) ?_
  intro p e s m below meth c ls hx hb hr hml hown hts hlocks hl hG
  have hown : s.vm.findClass RX6 = some m.cls := hown
  have hl : lv_has ls 3 [(0, .ref (gad G q)), (1, .int (iZ (i : Int))), (2, .int (iZ (p0 : Int)))] := hl
  have hdp_q : gdm G q := hdm _ (by rcases hP with h | h | h <;> omega)
  have hnd := hI.1
  have hdo := hI.2.1 i hi
  unfold q_dogok at hdo
  refine lv_iload_n hx hb dX6_lostIn_0 rfl (lv_at hl 2 rfl) ?_
  refine lv_aload_n hx hb dX6_lostIn_1 rfl (lv_at hl 0 rfl) ?_
  refine lv_iload_n hx hb dX6_lostIn_2 rfl (lv_at hl 1 rfl) ?_
  refine g_callS (As := [.int (iZ (i : Int))]) (rest := [.ref (gad G q), .int (iZ (p0 : Int))]) ⟨hx, hb, hml, hown, hts⟩ (c_X6_dogAt l G M (i : Int)) (va_cwS 1 hts gX6_lostIn_X6_dogAt rfl rfl rfl (by decide +kernel) ⟨Nat.le_of_ble_eq_true rfl, Nat.le_of_ble_eq_true rfl⟩) hG rfl hl.1 rfl (Nat.le_of_ble_eq_true rfl) dX6_lostIn_3 ⟨Nat.zero_le _, Nat.zero_le _⟩ (fun z1 M2 H locs hp_3 hG => ?_)
  obtain ⟨hz_3, hM_3⟩ := hp_3; replace hz_3 := hz_3.symm; subst hz_3; replace hM_3 := hM_3.symm; subst hM_3
  rw [show (14 + 11 * (i : Int) : Int) = (11 * (i : Int) + 14) from by omega]
  refine lv_iconst (v := iZ 4) hx hb dX6_lostIn_6 rfl ?_
  refine z_iadd (z := (11 * (i : Int) + 18)) hx hb (by omega) dX6_lostIn_7 ?_
  refine g_iald (z := (q_fr (M q) i)) (j := (14 + 11 * i + 4)) hx hb hG (o := q) hdp_q (gE_P hP G _) (by omega) (by omega) (by omega) rfl dX6_lostIn_8 ?_
  refine z_icmp_lt (tgt := 19) hx hb (by omega) (by omega) dX6_lostIn_9 (by decide) (fun c_9 => ?_) (fun c_9 => ?_)
  · skip
    refine lv_aload_n hx hb dX6_lostIn_19 rfl (lv_at hl 0 rfl) ?_
    refine lv_iload_n hx hb dX6_lostIn_20 rfl (lv_at hl 1 rfl) ?_
    refine g_callS (As := [.int (iZ (i : Int))]) (rest := [.ref (gad G q)]) ⟨hx, hb, hml, hown, hts⟩ (c_X6_dogAt l G M (i : Int)) (va_cwS 1 hts gX6_lostIn_X6_dogAt rfl rfl rfl (by decide +kernel) ⟨Nat.le_of_ble_eq_true rfl, Nat.le_of_ble_eq_true rfl⟩) hG rfl hl.1 rfl (Nat.le_of_ble_eq_true rfl) dX6_lostIn_21 ⟨Nat.zero_le _, Nat.zero_le _⟩ (fun z3 M4 H locs hp_21 hG => ?_)
    obtain ⟨hz_21, hM_21⟩ := hp_21; replace hz_21 := hz_21.symm; subst hz_21; replace hM_21 := hM_21.symm; subst hM_21
    rw [show (14 + 11 * (i : Int) : Int) = (11 * (i : Int) + 14) from by omega]
    refine lv_iconst (v := iZ 5) hx hb dX6_lostIn_24 rfl ?_
    refine z_iadd (z := (11 * (i : Int) + 19)) hx hb (by omega) dX6_lostIn_25 ?_
    refine lv_iload_n hx hb dX6_lostIn_26 rfl (lv_at hl 2 rfl) ?_
    refine z_iadd (z := (11 * (i : Int) + (p0 : Int) + 19)) hx hb (by omega) dX6_lostIn_27 ?_
    refine g_iald (z := (q_ls (M q) i p0)) (j := (14 + 11 * i + 5 + p0)) hx hb hG (o := q) hdp_q (gE_P hP G _) (by omega) (by omega) (by omega) rfl dX6_lostIn_28 ?_
    exact g_iret (post := fun z M1 => z = q_lo (M q) i p0 ∧ M1 = M) (z := (q_ls (M q) i p0)) hx hb hr hG hlocks (⟨by unfold q_lo; first | (rw [if_pos (by omega)]) | (rw [if_neg (by omega)]), rfl⟩) dX6_lostIn_29
  · skip
    refine lv_iload_n hx hb dX6_lostIn_12 rfl (lv_at hl 2 rfl) ?_
    refine g_callS (As := [.int (iZ (p0 : Int))]) (rest := []) ⟨hx, hb, hml, hown, hts⟩ (c_X6_worth l G M p0 (by omega)) (va_cwS 1 hts gX6_lostIn_X6_worth rfl rfl rfl (by decide +kernel) ⟨Nat.le_of_ble_eq_true rfl, Nat.le_of_ble_eq_true rfl⟩) hG rfl hl.1 rfl (Nat.le_of_ble_eq_true rfl) dX6_lostIn_13 ⟨Nat.zero_le _, Nat.zero_le _⟩ (fun z5 M6 H locs hp_13 hG => ?_)
    obtain ⟨hz_13, hM_13⟩ := hp_13; replace hz_13 := hz_13.symm; subst hz_13; replace hM_13 := hM_13.symm; subst hM_13
    refine lv_goto (tgt := 29) hx hb dX6_lostIn_16 (by decide) ?_
    exact g_iret (post := fun z M1 => z = q_lo (M q) i p0 ∧ M1 = M) (z := (q_wth p0)) hx hb hr hG hlocks (⟨by unfold q_lo; first | (rw [if_pos (by omega)]) | (rw [if_neg (by omega)]), rfl⟩) dX6_lostIn_29
set_option maxHeartbeats 4000000 in
set_option maxRecDepth 100000 in
theorem c_X6_score (l : Launch) (G : gG) (M : Nat → Nat → Int) (hdm : ∀ k, k < 179 → gdm G k) (q : Nat) (hP : isP q) (hI : q_inv (M q)) (i : Nat) (hi : (i : Int) < q_nd (M q)) : gMi l yX6_score wsX6_score ({ frames := 2, cells := 0, slots := 0, locals := 42 } : Room) G M [.ref (gad G q), .int (iZ (i : Int))] (fun z M1 => z = q_sc (M q) i ∧ M1 = M) := by
  refine gMi_of (cc := cX6_score) (maxL := 4) (ret := some .int) (by decide) rfl (Nat.le_of_ble_eq_true rfl) ?_
  intro p e s m below meth c ls hx hb hr hml hown hts hlocks hl hG
  have hown : s.vm.findClass RX6 = some m.cls := hown
  have hl : lv_has ls 4 [(0, .ref (gad G q)), (1, .int (iZ (i : Int)))] := hl
  have hnd := hI.1
  have hdo := hI.2.1 i hi
  unfold q_dogok at hdo
  refine lv_aload_n hx hb dX6_score_0 rfl (lv_at hl 0 rfl) ?_
  refine lv_iload_n hx hb dX6_score_1 rfl (lv_at hl 1 rfl) ?_
  refine g_callS (As := [.ref (gad G q), .int (iZ (i : Int))]) (rest := []) ⟨hx, hb, hml, hown, hts⟩ (c_X6_hasRun l G M hdm q hP hI i (by omega)) (va_cwS 2 hts gX6_score_X6_hasRun rfl rfl rfl (by decide +kernel) ⟨Nat.le_of_ble_eq_true rfl, Nat.le_of_ble_eq_true rfl⟩) hG rfl hl.1 rfl (Nat.le_of_ble_eq_true rfl) dX6_score_2 ⟨Nat.zero_le _, Nat.zero_le _⟩ (fun z1 M2 H locs hp_2 hG => ?_)
  obtain ⟨hz_2, hM_2⟩ := hp_2; replace hz_2 := hz_2.symm; subst hz_2; replace hM_2 := hM_2.symm; subst hM_2
  refine z_ifP_eq (tgt := 13) hx hb dX6_score_5 (by decide) (fun c_5 => ?_) (fun c_5 => ?_)
  · skip
    refine lv_iconst (v := iZ 0) hx hb dX6_score_13 rfl ?_
    refine lv_istore_n (lv' := [(2, .int (iZ 0)), (0, .ref (gad G q)), (1, .int (iZ (i : Int)))]) hx hb dX6_score_14 rfl hl (by decide) rfl (fun ls hl => ?_)
    refine lv_iconst (v := iZ 0) hx hb dX6_score_15 rfl ?_
    refine lv_istore_n (lv' := [(3, .int (iZ 0)), (2, .int (iZ 0)), (0, .ref (gad G q)), (1, .int (iZ (i : Int)))]) hx hb dX6_score_16 rfl hl (by decide) rfl (fun ls hl => ?_)
    have L_17 : ∀ (n_17 : Nat) (k : Nat) (x_i : Int) (x_c : Int), (x_i = (k : Int)) → (k ≤ 6) → ((q_hs (M q) i = 1 → x_c = 100 - q_sm (q_lo (M q) i) k)) → ((¬ q_hs (M q) i = 1 → x_c = 0 ∧ k = 0)) → 6 - k < n_17 → ∀ (H : Heap) (locs : List Loc) (ls : Array Slot), gH G M s H locs → lv_has ls 4 [(3, .int (iZ x_i)), (2, .int (iZ x_c)), (0, .ref (gad G q)), (1, .int (iZ (i : Int)))] → W p l e ({ frames := 2, cells := 0, slots := 0, locals := 42 } : Room) s m [.ref (gad G q), .int (iZ (i : Int))].toArray below meth c H locs 0 0 (MQ below (va_Qi (fun r (u : Int × (Nat → Nat → Int)) => r = iZ u.1 ∧ (fun z M1 => z = q_sc (M q) i ∧ M1 = M) u.1 u.2) (fun u U => gB G u.2 U) (gA G)) [.ref (gad G q), .int (iZ (i : Int))].toArray s 0 0 (gA G)) (F0 m 17 ls []) := by
      intro n_17
      induction n_17 with
      | zero => intro k x_i x_c he_x_i hk h1 h0 hm_17; exact absurd hm_17 (Nat.not_lt_zero _)
      | succ n_17 ih_17 =>
        intro k x_i x_c he_x_i hk h1 h0 hm_17 H locs ls hG hl
        subst he_x_i
        have hlk : k < 6 → 0 ≤ q_lo (M q) i k ∧ q_lo (M q) i k ≤ 30 := fun h => by have h1 := lo_in (hI.2.1 i hi) h; have h2 := wth_in k; omega
        have hsm := lo6 (hI.2.1 i hi) hk
        have hs6 : q_sm q_wth k ≤ 100 ∧ (k < 6 → q_sm q_wth k ≤ 90) := by have h2 := wth6; by_cases h : k < 6; (have h1 := q_smw k h; omega); (have h3 : k = 6 := (by omega); subst h3; omega)
        refine lv_iload_n hx hb dX6_score_17 rfl (lv_at hl 0 rfl) ?_
        refine lv_bipush (v := iZ (6)) hx hb dX6_score_18 (by decide) ?_
        refine z_icmp_ge (tgt := 42) hx hb (by omega) (by decide) dX6_score_20 (by decide) (fun c_20 => ?_) (fun c_20 => ?_)
        · skip
          refine lv_iload_n hx hb dX6_score_42 rfl (lv_at hl 1 rfl) ?_
          exact g_iret (post := fun z M1 => z = q_sc (M q) i ∧ M1 = M) (z := x_c) hx hb hr hG hlocks (⟨by unfold q_sc; by_cases h9 : q_hs (M q) i = 1; (have h8 := h1 h9; rw [if_pos h9, h8, show k = 6 by omega]); (rw [if_neg h9, (h0 h9).1]), rfl⟩) dX6_score_43
        · skip
          refine lv_iload_n hx hb dX6_score_23 rfl (lv_at hl 1 rfl) ?_
          refine z_if_le (tgt := 42) hx hb (by omega) dX6_score_24 (by decide) (fun c_24 => ?_) (fun c_24 => ?_)
          · skip
            refine lv_iload_n hx hb dX6_score_42 rfl (lv_at hl 1 rfl) ?_
            exact g_iret (post := fun z M1 => z = q_sc (M q) i ∧ M1 = M) (z := x_c) hx hb hr hG hlocks (⟨by unfold q_sc; by_cases h9 : q_hs (M q) i = 1; (have h8 := h1 h9; rw [if_pos h9, h8, show k = 6 by omega]); (rw [if_neg h9, (h0 h9).1]), rfl⟩) dX6_score_43
          · skip
            refine lv_iload_n hx hb dX6_score_27 rfl (lv_at hl 1 rfl) ?_
            refine lv_aload_n hx hb dX6_score_28 rfl (lv_at hl 2 rfl) ?_
            refine lv_iload_n hx hb dX6_score_29 rfl (lv_at hl 3 rfl) ?_
            refine lv_iload_n hx hb dX6_score_30 rfl (lv_at hl 0 rfl) ?_
            refine g_callS (As := [.ref (gad G q), .int (iZ (i : Int)), .int (iZ (k : Int))]) (rest := [.int (iZ x_c)]) ⟨hx, hb, hml, hown, hts⟩ (c_X6_lostIn l G M hdm q hP hI i (by omega) k (by omega)) (va_cwS 3 hts gX6_score_X6_lostIn rfl rfl rfl (by decide +kernel) ⟨Nat.le_of_ble_eq_true rfl, Nat.le_of_ble_eq_true rfl⟩) hG rfl hl.1 rfl (Nat.le_of_ble_eq_true rfl) dX6_score_31 ⟨Nat.zero_le _, Nat.zero_le _⟩ (fun z3 M4 H locs hp_31 hG => ?_)
            obtain ⟨hz_31, hM_31⟩ := hp_31; replace hz_31 := hz_31.symm; subst hz_31; replace hM_31 := hM_31.symm; subst hM_31
            refine z_isub (z := (x_c - (q_lo (M q) i k))) hx hb (by omega) dX6_score_34 ?_
            refine lv_istore_n (lv' := [(2, .int (iZ (x_c - (q_lo (M q) i k)))), (3, .int (iZ (k : Int))), (0, .ref (gad G q)), (1, .int (iZ (i : Int)))]) hx hb dX6_score_35 rfl hl (by decide) rfl (fun ls hl => ?_)
            refine z_iinc (z := ((k : Int) + 1)) (lv' := [(3, .int (iZ ((k : Int) + 1))), (2, .int (iZ (x_c - (q_lo (M q) i k)))), (0, .ref (gad G q)), (1, .int (iZ (i : Int)))]) hx hb dX6_score_36 hl (k := 1) rfl (by omega) (by decide) rfl (fun ls hl => ?_)
            refine lv_goto (tgt := 17) hx hb dX6_score_39 (by decide) ?_
            exact ih_17 (k + 1) ((k : Int) + 1) (x_c - (q_lo (M q) i k))  (by omega) (by omega) (fun h => by rw [q_sm]; have := h1 h; omega) (fun h => by have := h0 h; omega) (by omega) _ _ _ hG (lv_sub hl [0, 1, 2, 3] rfl)
    exact L_17 _ 0 0 0  rfl (by omega) (fun h => by first | rfl | omega) (fun h => by first | exact ⟨rfl, rfl⟩ | omega) (Nat.lt_succ_self _) _ _ _ hG (lv_sub hl [0, 1, 2, 3] rfl)
  · skip
    refine lv_bipush (v := iZ (100)) hx hb dX6_score_8 (by decide) ?_
    refine lv_goto (tgt := 14) hx hb dX6_score_10 (by decide) ?_
    refine lv_istore_n (lv' := [(2, .int (iZ 100)), (0, .ref (gad G q)), (1, .int (iZ (i : Int)))]) hx hb dX6_score_14 rfl hl (by decide) rfl (fun ls hl => ?_)
    refine lv_iconst (v := iZ 0) hx hb dX6_score_15 rfl ?_
    refine lv_istore_n (lv' := [(3, .int (iZ 0)), (2, .int (iZ 100)), (0, .ref (gad G q)), (1, .int (iZ (i : Int)))]) hx hb dX6_score_16 rfl hl (by decide) rfl (fun ls hl => ?_)
    have L_17 : ∀ (n_17 : Nat) (k : Nat) (x_i : Int) (x_c : Int), (x_i = (k : Int)) → (k ≤ 6) → ((q_hs (M q) i = 1 → x_c = 100 - q_sm (q_lo (M q) i) k)) → ((¬ q_hs (M q) i = 1 → x_c = 0 ∧ k = 0)) → 6 - k < n_17 → ∀ (H : Heap) (locs : List Loc) (ls : Array Slot), gH G M s H locs → lv_has ls 4 [(3, .int (iZ x_i)), (2, .int (iZ x_c)), (0, .ref (gad G q)), (1, .int (iZ (i : Int)))] → W p l e ({ frames := 2, cells := 0, slots := 0, locals := 42 } : Room) s m [.ref (gad G q), .int (iZ (i : Int))].toArray below meth c H locs 0 0 (MQ below (va_Qi (fun r (u : Int × (Nat → Nat → Int)) => r = iZ u.1 ∧ (fun z M1 => z = q_sc (M q) i ∧ M1 = M) u.1 u.2) (fun u U => gB G u.2 U) (gA G)) [.ref (gad G q), .int (iZ (i : Int))].toArray s 0 0 (gA G)) (F0 m 17 ls []) := by
      intro n_17
      induction n_17 with
      | zero => intro k x_i x_c he_x_i hk h1 h0 hm_17; exact absurd hm_17 (Nat.not_lt_zero _)
      | succ n_17 ih_17 =>
        intro k x_i x_c he_x_i hk h1 h0 hm_17 H locs ls hG hl
        subst he_x_i
        have hlk : k < 6 → 0 ≤ q_lo (M q) i k ∧ q_lo (M q) i k ≤ 30 := fun h => by have h1 := lo_in (hI.2.1 i hi) h; have h2 := wth_in k; omega
        have hsm := lo6 (hI.2.1 i hi) hk
        have hs6 : q_sm q_wth k ≤ 100 ∧ (k < 6 → q_sm q_wth k ≤ 90) := by have h2 := wth6; by_cases h : k < 6; (have h1 := q_smw k h; omega); (have h3 : k = 6 := (by omega); subst h3; omega)
        refine lv_iload_n hx hb dX6_score_17 rfl (lv_at hl 0 rfl) ?_
        refine lv_bipush (v := iZ (6)) hx hb dX6_score_18 (by decide) ?_
        refine z_icmp_ge (tgt := 42) hx hb (by omega) (by decide) dX6_score_20 (by decide) (fun c_20 => ?_) (fun c_20 => ?_)
        · skip
          refine lv_iload_n hx hb dX6_score_42 rfl (lv_at hl 1 rfl) ?_
          exact g_iret (post := fun z M1 => z = q_sc (M q) i ∧ M1 = M) (z := x_c) hx hb hr hG hlocks (⟨by unfold q_sc; by_cases h9 : q_hs (M q) i = 1; (have h8 := h1 h9; rw [if_pos h9, h8, show k = 6 by omega]); (rw [if_neg h9, (h0 h9).1]), rfl⟩) dX6_score_43
        · skip
          refine lv_iload_n hx hb dX6_score_23 rfl (lv_at hl 1 rfl) ?_
          refine z_if_le (tgt := 42) hx hb (by omega) dX6_score_24 (by decide) (fun c_24 => ?_) (fun c_24 => ?_)
          · skip
            refine lv_iload_n hx hb dX6_score_42 rfl (lv_at hl 1 rfl) ?_
            exact g_iret (post := fun z M1 => z = q_sc (M q) i ∧ M1 = M) (z := x_c) hx hb hr hG hlocks (⟨by unfold q_sc; by_cases h9 : q_hs (M q) i = 1; (have h8 := h1 h9; rw [if_pos h9, h8, show k = 6 by omega]); (rw [if_neg h9, (h0 h9).1]), rfl⟩) dX6_score_43
          · skip
            refine lv_iload_n hx hb dX6_score_27 rfl (lv_at hl 1 rfl) ?_
            refine lv_aload_n hx hb dX6_score_28 rfl (lv_at hl 2 rfl) ?_
            refine lv_iload_n hx hb dX6_score_29 rfl (lv_at hl 3 rfl) ?_
            refine lv_iload_n hx hb dX6_score_30 rfl (lv_at hl 0 rfl) ?_
            refine g_callS (As := [.ref (gad G q), .int (iZ (i : Int)), .int (iZ (k : Int))]) (rest := [.int (iZ x_c)]) ⟨hx, hb, hml, hown, hts⟩ (c_X6_lostIn l G M hdm q hP hI i (by omega) k (by omega)) (va_cwS 3 hts gX6_score_X6_lostIn rfl rfl rfl (by decide +kernel) ⟨Nat.le_of_ble_eq_true rfl, Nat.le_of_ble_eq_true rfl⟩) hG rfl hl.1 rfl (Nat.le_of_ble_eq_true rfl) dX6_score_31 ⟨Nat.zero_le _, Nat.zero_le _⟩ (fun z5 M6 H locs hp_31 hG => ?_)
            obtain ⟨hz_31, hM_31⟩ := hp_31; replace hz_31 := hz_31.symm; subst hz_31; replace hM_31 := hM_31.symm; subst hM_31
            refine z_isub (z := (x_c - (q_lo (M q) i k))) hx hb (by omega) dX6_score_34 ?_
            refine lv_istore_n (lv' := [(2, .int (iZ (x_c - (q_lo (M q) i k)))), (3, .int (iZ (k : Int))), (0, .ref (gad G q)), (1, .int (iZ (i : Int)))]) hx hb dX6_score_35 rfl hl (by decide) rfl (fun ls hl => ?_)
            refine z_iinc (z := ((k : Int) + 1)) (lv' := [(3, .int (iZ ((k : Int) + 1))), (2, .int (iZ (x_c - (q_lo (M q) i k)))), (0, .ref (gad G q)), (1, .int (iZ (i : Int)))]) hx hb dX6_score_36 hl (k := 1) rfl (by omega) (by decide) rfl (fun ls hl => ?_)
            refine lv_goto (tgt := 17) hx hb dX6_score_39 (by decide) ?_
            exact ih_17 (k + 1) ((k : Int) + 1) (x_c - (q_lo (M q) i k))  (by omega) (by omega) (fun h => by rw [q_sm]; have := h1 h; omega) (fun h => by have := h0 h; omega) (by omega) _ _ _ hG (lv_sub hl [0, 1, 2, 3] rfl)
    exact L_17 _ 0 0 100  rfl (by omega) (fun h => by first | rfl | omega) (fun h => by first | exact ⟨rfl, rfl⟩ | omega) (Nat.lt_succ_self _) _ _ _ hG (lv_sub hl [0, 1, 2, 3] rfl)
set_option maxHeartbeats 4000000 in
set_option maxRecDepth 100000 in
theorem c_X6_isBetter (l : Launch) (G : gG) (M : Nat → Nat → Int) (hdm : ∀ k, k < 179 → gdm G k) (q : Nat) (hP : isP q) (hI : q_inv (M q)) (a b : Nat) (ha : (a : Int) < q_nd (M q)) (hbb : (b : Int) < q_nd (M q)) : gMi l yX6_isBetter wsX6_isBetter ({ frames := 3, cells := 0, slots := 0, locals := 65 } : Room) G M [.ref (gad G q), .int (iZ (a : Int)), .int (iZ (b : Int))] (fun z M1 => z = (if q_bt (M q) a b = true then 1 else 0) ∧ M1 = M) := by
  refine gMi_of (cc := cX6_isBetter) (maxL := 6) (ret := some .boolean) (by decide) rfl (Nat.le_of_ble_eq_true rfl) ?_
  intro p e s m below meth c ls hx hb hr hml hown hts hlocks hl hG
  have hown : s.vm.findClass RX6 = some m.cls := hown
  have hl : lv_has ls 6 [(0, .ref (gad G q)), (1, .int (iZ (a : Int))), (2, .int (iZ (b : Int)))] := hl
  have hdp_q : gdm G q := hdm _ (by rcases hP with h | h | h <;> omega)
  have hnd := hI.1
  have hsa := sc_in (hI.2.1 a ha)
  have hsb := sc_in (hI.2.1 b hbb)
  refine lv_aload_n hx hb dX6_isBetter_0 rfl (lv_at hl 0 rfl) ?_
  refine lv_iload_n hx hb dX6_isBetter_1 rfl (lv_at hl 1 rfl) ?_
  refine g_callS (As := [.ref (gad G q), .int (iZ (a : Int))]) (rest := []) ⟨hx, hb, hml, hown, hts⟩ (c_X6_score l G M hdm q hP hI a (by omega)) (va_cwS 2 hts gX6_isBetter_X6_score rfl rfl rfl (by decide +kernel) ⟨Nat.le_of_ble_eq_true rfl, Nat.le_of_ble_eq_true rfl⟩) hG rfl hl.1 rfl (Nat.le_of_ble_eq_true rfl) dX6_isBetter_2 ⟨Nat.zero_le _, Nat.zero_le _⟩ (fun z1 M2 H locs hp_2 hG => ?_)
  obtain ⟨hz_2, hM_2⟩ := hp_2; replace hz_2 := hz_2.symm; subst hz_2; replace hM_2 := hM_2.symm; subst hM_2
  refine lv_aload_n hx hb dX6_isBetter_5 rfl (lv_at hl 0 rfl) ?_
  refine lv_iload_n hx hb dX6_isBetter_6 rfl (lv_at hl 2 rfl) ?_
  refine g_callS (As := [.ref (gad G q), .int (iZ (b : Int))]) (rest := [.int (iZ (q_sc (M q) a))]) ⟨hx, hb, hml, hown, hts⟩ (c_X6_score l G M hdm q hP hI b (by omega)) (va_cwS 2 hts gX6_isBetter_X6_score rfl rfl rfl (by decide +kernel) ⟨Nat.le_of_ble_eq_true rfl, Nat.le_of_ble_eq_true rfl⟩) hG rfl hl.1 rfl (Nat.le_of_ble_eq_true rfl) dX6_isBetter_7 ⟨Nat.zero_le _, Nat.zero_le _⟩ (fun z3 M4 H locs hp_7 hG => ?_)
  obtain ⟨hz_7, hM_7⟩ := hp_7; replace hz_7 := hz_7.symm; subst hz_7; replace hM_7 := hM_7.symm; subst hM_7
  refine z_isub (z := ((q_sc (M q) a) - (q_sc (M q) b))) hx hb (by omega) dX6_isBetter_10 ?_
  refine lv_istore_n (lv' := [(3, .int (iZ ((q_sc (M q) a) - (q_sc (M q) b)))), (0, .ref (gad G q)), (1, .int (iZ (a : Int))), (2, .int (iZ (b : Int)))]) hx hb dX6_isBetter_11 rfl hl (by decide) rfl (fun ls hl => ?_)
  refine lv_iconst (v := iZ 0) hx hb dX6_isBetter_12 rfl ?_
  refine lv_istore (lv' := [(4, .int (iZ 0)), (3, .int (iZ ((q_sc (M q) a) - (q_sc (M q) b)))), (0, .ref (gad G q)), (1, .int (iZ (a : Int))), (2, .int (iZ (b : Int)))]) hx hb dX6_isBetter_13 hl (by decide) rfl (fun ls hl => ?_)
  have L_15 : ∀ (n_15 : Nat) (k : Nat) (x_i : Int) (x_m : Int), (x_i = (k : Int)) → (k ≤ 6) → ((k = 0 → x_m = q_sc (M q) a - q_sc (M q) b)) → ((¬ k = 0 → x_m = 0 ∧ q_sc (M q) a = q_sc (M q) b)) → (q_ti (M q) a b 6 = q_ti (M q) a b (6 - k)) → 6 - k < n_15 → ∀ (H : Heap) (locs : List Loc) (ls : Array Slot), gH G M s H locs → lv_has ls 6 [(4, .int (iZ x_i)), (3, .int (iZ x_m)), (0, .ref (gad G q)), (1, .int (iZ (a : Int))), (2, .int (iZ (b : Int)))] → W p l e ({ frames := 3, cells := 0, slots := 0, locals := 65 } : Room) s m [.ref (gad G q), .int (iZ (a : Int)), .int (iZ (b : Int))].toArray below meth c H locs 0 0 (MQ below (va_Qi (fun r (u : Int × (Nat → Nat → Int)) => r = iZ u.1 ∧ (fun z M1 => z = (if q_bt (M q) a b = true then 1 else 0) ∧ M1 = M) u.1 u.2) (fun u U => gB G u.2 U) (gA G)) [.ref (gad G q), .int (iZ (a : Int)), .int (iZ (b : Int))].toArray s 0 0 (gA G)) (F0 m 15 ls []) := by
    intro n_15
    induction n_15 with
    | zero => intro k x_i x_m he_x_i hk hx0 hx1 hq hm_15; exact absurd hm_15 (Nat.not_lt_zero _)
    | succ n_15 ih_15 =>
      intro k x_i x_m he_x_i hk hx0 hx1 hq hm_15 H locs ls hG hl
      subst he_x_i
      have hrk := q_rkn_eq hI (k := k)
      have hla : k < 6 → 0 ≤ q_lo (M q) a (q_rkn (M q) k) ∧ q_lo (M q) a (q_rkn (M q) k) ≤ 30 := fun h => by have h1 := lo_in (hI.2.1 a ha) (hrk h).2; have h2 := wth_in (q_rkn (M q) k); omega
      have hlb : k < 6 → 0 ≤ q_lo (M q) b (q_rkn (M q) k) ∧ q_lo (M q) b (q_rkn (M q) k) ≤ 30 := fun h => by have h1 := lo_in (hI.2.1 b hbb) (hrk h).2; have h2 := wth_in (q_rkn (M q) k); omega
      refine lv_iload hx hb dX6_isBetter_15 (lv_at hl 0 rfl) ?_
      refine lv_bipush (v := iZ (6)) hx hb dX6_isBetter_17 (by decide) ?_
      refine z_icmp_ge (tgt := 71) hx hb (by omega) (by decide) dX6_isBetter_19 (by decide) (fun c_19 => ?_) (fun c_19 => ?_)
      · skip
        refine lv_iload_n hx hb dX6_isBetter_71 rfl (lv_at hl 1 rfl) ?_
        refine z_if_le (tgt := 79) hx hb (by omega) dX6_isBetter_72 (by decide) (fun c_72 => ?_) (fun c_72 => ?_)
        · skip
          refine lv_iconst (v := iZ 0) hx hb dX6_isBetter_79 rfl ?_
          exact g_zret (post := fun z M1 => z = (if q_bt (M q) a b = true then 1 else 0) ∧ M1 = M) (z := 0) hx hb hr hG hlocks (Or.inl rfl) (⟨by by_cases h9 : q_sc (M q) a = q_sc (M q) b; (rw [q_bt_eq h9, hq, show 6 - k = 0 by omega]; first | rfl | (exfalso; omega)); first | (exfalso; omega) | (rw [q_bt_ne h9]; first | (rw [if_pos (decide_eq_true (by omega))]; done) | (rw [if_neg (fun h => by have h9 := of_decide_eq_true h; omega)]; done)), rfl⟩) dX6_isBetter_80
        · skip
          refine lv_iconst (v := iZ 1) hx hb dX6_isBetter_75 rfl ?_
          refine lv_goto (tgt := 80) hx hb dX6_isBetter_76 (by decide) ?_
          exact g_zret (post := fun z M1 => z = (if q_bt (M q) a b = true then 1 else 0) ∧ M1 = M) (z := 1) hx hb hr hG hlocks (Or.inr rfl) (⟨by by_cases h9 : q_sc (M q) a = q_sc (M q) b; (rw [q_bt_eq h9, hq, show 6 - k = 0 by omega]; first | rfl | (exfalso; omega)); first | (exfalso; omega) | (rw [q_bt_ne h9]; first | (rw [if_pos (decide_eq_true (by omega))]; done) | (rw [if_neg (fun h => by have h9 := of_decide_eq_true h; omega)]; done)), rfl⟩) dX6_isBetter_80
      · skip
        refine lv_iload_n hx hb dX6_isBetter_22 rfl (lv_at hl 1 rfl) ?_
        refine z_if_ne (tgt := 71) hx hb (by omega) dX6_isBetter_23 (by decide) (fun c_23 => ?_) (fun c_23 => ?_)
        · skip
          refine lv_iload_n hx hb dX6_isBetter_71 rfl (lv_at hl 1 rfl) ?_
          refine z_if_le (tgt := 79) hx hb (by omega) dX6_isBetter_72 (by decide) (fun c_72 => ?_) (fun c_72 => ?_)
          · skip
            refine lv_iconst (v := iZ 0) hx hb dX6_isBetter_79 rfl ?_
            exact g_zret (post := fun z M1 => z = (if q_bt (M q) a b = true then 1 else 0) ∧ M1 = M) (z := 0) hx hb hr hG hlocks (Or.inl rfl) (⟨by by_cases h9 : q_sc (M q) a = q_sc (M q) b; (rw [q_bt_eq h9, hq, show 6 - k = 0 by omega]; first | rfl | (exfalso; omega)); first | (exfalso; omega) | (rw [q_bt_ne h9]; first | (rw [if_pos (decide_eq_true (by omega))]; done) | (rw [if_neg (fun h => by have h9 := of_decide_eq_true h; omega)]; done)), rfl⟩) dX6_isBetter_80
          · skip
            refine lv_iconst (v := iZ 1) hx hb dX6_isBetter_75 rfl ?_
            refine lv_goto (tgt := 80) hx hb dX6_isBetter_76 (by decide) ?_
            exact g_zret (post := fun z M1 => z = (if q_bt (M q) a b = true then 1 else 0) ∧ M1 = M) (z := 1) hx hb hr hG hlocks (Or.inr rfl) (⟨by by_cases h9 : q_sc (M q) a = q_sc (M q) b; (rw [q_bt_eq h9, hq, show 6 - k = 0 by omega]; first | rfl | (exfalso; omega)); first | (exfalso; omega) | (rw [q_bt_ne h9]; first | (rw [if_pos (decide_eq_true (by omega))]; done) | (rw [if_neg (fun h => by have h9 := of_decide_eq_true h; omega)]; done)), rfl⟩) dX6_isBetter_80
        · skip
          have hk6 : k < 6 := by omega
          have hrk6 := hrk hk6
          have hla6 := hla hk6
          have hlb6 := hlb hk6
          refine lv_aload_n hx hb dX6_isBetter_26 rfl (lv_at hl 2 rfl) ?_
          refine lv_bipush (v := iZ (8)) hx hb dX6_isBetter_27 (by decide) ?_
          refine lv_iload hx hb dX6_isBetter_29 (lv_at hl 0 rfl) ?_
          refine z_iadd (z := ((k : Int) + 8)) hx hb (by omega) dX6_isBetter_31 ?_
          refine g_iald (z := ((q_rkn (M q) k) : Int)) (j := (8 + k)) hx hb hG (o := q) hdp_q (gE_P hP G _) (by omega) (by omega) (by omega) (hrk (by omega)).1 dX6_isBetter_32 ?_
          refine lv_istore (lv' := [(5, .int (iZ ((q_rkn (M q) k) : Int))), (4, .int (iZ (k : Int))), (3, .int (iZ x_m)), (0, .ref (gad G q)), (1, .int (iZ (a : Int))), (2, .int (iZ (b : Int)))]) hx hb dX6_isBetter_33 hl (by decide) rfl (fun ls hl => ?_)
          refine lv_aload_n hx hb dX6_isBetter_35 rfl (lv_at hl 3 rfl) ?_
          refine lv_iload_n hx hb dX6_isBetter_36 rfl (lv_at hl 5 rfl) ?_
          refine lv_iload hx hb dX6_isBetter_37 (lv_at hl 0 rfl) ?_
          refine g_callS (As := [.ref (gad G q), .int (iZ (b : Int)), .int (iZ ((q_rkn (M q) k) : Int))]) (rest := []) ⟨hx, hb, hml, hown, hts⟩ (c_X6_lostIn l G M hdm q hP hI b (by omega) ((q_rkn (M q) k)) (by omega)) (va_cwS 3 hts gX6_isBetter_X6_lostIn rfl rfl rfl (by decide +kernel) ⟨Nat.le_of_ble_eq_true rfl, Nat.le_of_ble_eq_true rfl⟩) hG rfl hl.1 rfl (Nat.le_of_ble_eq_true rfl) dX6_isBetter_39 ⟨Nat.zero_le _, Nat.zero_le _⟩ (fun z5 M6 H locs hp_39 hG => ?_)
          obtain ⟨hz_39, hM_39⟩ := hp_39; replace hz_39 := hz_39.symm; subst hz_39; replace hM_39 := hM_39.symm; subst hM_39
          refine lv_aload_n hx hb dX6_isBetter_42 rfl (lv_at hl 3 rfl) ?_
          refine lv_iload_n hx hb dX6_isBetter_43 rfl (lv_at hl 4 rfl) ?_
          refine lv_iload hx hb dX6_isBetter_44 (lv_at hl 0 rfl) ?_
          refine g_callS (As := [.ref (gad G q), .int (iZ (a : Int)), .int (iZ ((q_rkn (M q) k) : Int))]) (rest := [.int (iZ (q_lo (M q) b ((q_rkn (M q) k))))]) ⟨hx, hb, hml, hown, hts⟩ (c_X6_lostIn l G M hdm q hP hI a (by omega) ((q_rkn (M q) k)) (by omega)) (va_cwS 3 hts gX6_isBetter_X6_lostIn rfl rfl rfl (by decide +kernel) ⟨Nat.le_of_ble_eq_true rfl, Nat.le_of_ble_eq_true rfl⟩) hG rfl hl.1 rfl (Nat.le_of_ble_eq_true rfl) dX6_isBetter_46 ⟨Nat.zero_le _, Nat.zero_le _⟩ (fun z7 M8 H locs hp_46 hG => ?_)
          obtain ⟨hz_46, hM_46⟩ := hp_46; replace hz_46 := hz_46.symm; subst hz_46; replace hM_46 := hM_46.symm; subst hM_46
          refine z_isub (z := ((q_lo (M q) b ((q_rkn (M q) k))) - (q_lo (M q) a ((q_rkn (M q) k))))) hx hb (by omega) dX6_isBetter_49 ?_
          refine lv_istore_n (lv' := [(3, .int (iZ ((q_lo (M q) b ((q_rkn (M q) k))) - (q_lo (M q) a ((q_rkn (M q) k)))))), (5, .int (iZ ((q_rkn (M q) k) : Int))), (4, .int (iZ (k : Int))), (0, .ref (gad G q)), (1, .int (iZ (a : Int))), (2, .int (iZ (b : Int)))]) hx hb dX6_isBetter_50 rfl hl (by decide) rfl (fun ls hl => ?_)
          refine lv_iload_n hx hb dX6_isBetter_51 rfl (lv_at hl 0 rfl) ?_
          refine z_if_eq (tgt := 65) hx hb (by omega) dX6_isBetter_52 (by decide) (fun c_52 => ?_) (fun c_52 => ?_)
          · skip
            refine z_iinc (z := ((k : Int) + 1)) (lv' := [(4, .int (iZ ((k : Int) + 1))), (3, .int (iZ ((q_lo (M q) b ((q_rkn (M q) k))) - (q_lo (M q) a ((q_rkn (M q) k)))))), (5, .int (iZ ((q_rkn (M q) k) : Int))), (0, .ref (gad G q)), (1, .int (iZ (a : Int))), (2, .int (iZ (b : Int)))]) hx hb dX6_isBetter_65 hl (k := 2) rfl (by omega) (by decide) rfl (fun ls hl => ?_)
            refine lv_goto (tgt := 15) hx hb dX6_isBetter_68 (by decide) ?_
            exact ih_15 (k + 1) ((k : Int) + 1) ((q_lo (M q) b ((q_rkn (M q) k))) - (q_lo (M q) a ((q_rkn (M q) k))))  (by omega) (by omega) (fun h => by omega) (fun h => by constructor <;> omega) (by rw [hq, q_ti_step (M q) a b (by omega), if_pos (show q_lo (M q) a (q_rkn (M q) k) = q_lo (M q) b (q_rkn (M q) k) by omega)]) (by omega) _ _ _ hG (lv_sub hl [0, 1, 3, 4, 5] rfl)
          · skip
            refine lv_iload_n hx hb dX6_isBetter_55 rfl (lv_at hl 0 rfl) ?_
            refine z_if_le (tgt := 63) hx hb (by omega) dX6_isBetter_56 (by decide) (fun c_56 => ?_) (fun c_56 => ?_)
            · skip
              refine lv_iconst (v := iZ 0) hx hb dX6_isBetter_63 rfl ?_
              exact g_zret (post := fun z M1 => z = (if q_bt (M q) a b = true then 1 else 0) ∧ M1 = M) (z := 0) hx hb hr hG hlocks (Or.inl rfl) (⟨by rw [q_bt_eq (by omega), hq, q_ti_step (M q) a b (by omega), if_neg (show ¬ (q_lo (M q) a (q_rkn (M q) k) = q_lo (M q) b (q_rkn (M q) k)) by omega)]; first | (rw [if_pos (decide_eq_true (by omega))]) | (rw [if_neg (fun h => by have h9 := of_decide_eq_true h; omega)]), rfl⟩) dX6_isBetter_64
            · skip
              refine lv_iconst (v := iZ 1) hx hb dX6_isBetter_59 rfl ?_
              refine lv_goto (tgt := 64) hx hb dX6_isBetter_60 (by decide) ?_
              exact g_zret (post := fun z M1 => z = (if q_bt (M q) a b = true then 1 else 0) ∧ M1 = M) (z := 1) hx hb hr hG hlocks (Or.inr rfl) (⟨by rw [q_bt_eq (by omega), hq, q_ti_step (M q) a b (by omega), if_neg (show ¬ (q_lo (M q) a (q_rkn (M q) k) = q_lo (M q) b (q_rkn (M q) k)) by omega)]; first | (rw [if_pos (decide_eq_true (by omega))]) | (rw [if_neg (fun h => by have h9 := of_decide_eq_true h; omega)]), rfl⟩) dX6_isBetter_64
  exact L_15 _ 0 0 ((q_sc (M q) a) - (q_sc (M q) b))  rfl (by omega) (fun h => by omega) (fun h => absurd rfl h) rfl (Nat.lt_succ_self _) _ _ _ hG (lv_sub hl [0, 1, 2, 3, 4] rfl)
set_option maxHeartbeats 4000000 in
set_option maxRecDepth 100000 in
theorem c_X6_placeOf (l : Launch) (G : gG) (M : Nat → Nat → Int) (hdm : ∀ k, k < 179 → gdm G k) (q : Nat) (hP : isP q) (hI : q_inv (M q)) (i : Nat) (hi : (i : Int) < q_nd (M q)) : gMi l yX6_placeOf wsX6_placeOf ({ frames := 4, cells := 0, slots := 0, locals := 90 } : Room) G M [.ref (gad G q), .int (iZ (i : Int))] (fun z M1 => z = q_pl (M q) i ∧ M1 = M) := by
  refine gMi_of (cc := cX6_placeOf) (maxL := 4) (ret := some .int) (by decide) rfl (Nat.le_of_ble_eq_true rfl) ?_
  intro p e s m below meth c ls hx hb hr hml hown hts hlocks hl hG
  have hown : s.vm.findClass RX6 = some m.cls := hown
  have hl : lv_has ls 4 [(0, .ref (gad G q)), (1, .int (iZ (i : Int)))] := hl
  have hdp_q : gdm G q := hdm _ (by rcases hP with h | h | h <;> omega)
  have hnd := hI.1
  have hdo := hI.2.1 i hi
  unfold q_dogok at hdo
  refine lv_iconst (v := iZ 1) hx hb dX6_placeOf_0 rfl ?_
  refine lv_istore_n (lv' := [(2, .int (iZ 1)), (0, .ref (gad G q)), (1, .int (iZ (i : Int)))]) hx hb dX6_placeOf_1 rfl hl (by decide) rfl (fun ls hl => ?_)
  refine lv_iconst (v := iZ 0) hx hb dX6_placeOf_2 rfl ?_
  refine lv_istore_n (lv' := [(3, .int (iZ 0)), (2, .int (iZ 1)), (0, .ref (gad G q)), (1, .int (iZ (i : Int)))]) hx hb dX6_placeOf_3 rfl hl (by decide) rfl (fun ls hl => ?_)
  have L_4 : ∀ (n_4 : Nat) (k : Nat) (x_i : Int) (x_c : Int), (x_i = (k : Int)) → (x_c = ((q_ct (fun j => decide (q_hs (M q) j = 1) && q_bt (M q) j i) k) + 1)) → ((k : Int) ≤ q_nd (M q)) → 12 - k < n_4 → ∀ (H : Heap) (locs : List Loc) (ls : Array Slot), gH G M s H locs → lv_has ls 4 [(3, .int (iZ x_i)), (2, .int (iZ x_c)), (0, .ref (gad G q)), (1, .int (iZ (i : Int)))] → W p l e ({ frames := 4, cells := 0, slots := 0, locals := 90 } : Room) s m [.ref (gad G q), .int (iZ (i : Int))].toArray below meth c H locs 0 0 (MQ below (va_Qi (fun r (u : Int × (Nat → Nat → Int)) => r = iZ u.1 ∧ (fun z M1 => z = q_pl (M q) i ∧ M1 = M) u.1 u.2) (fun u U => gB G u.2 U) (gA G)) [.ref (gad G q), .int (iZ (i : Int))].toArray s 0 0 (gA G)) (F0 m 4 ls []) := by
    intro n_4
    induction n_4 with
    | zero => intro k x_i x_c he_x_i he_x_c hk hm_4; exact absurd hm_4 (Nat.not_lt_zero _)
    | succ n_4 ih_4 =>
      intro k x_i x_c he_x_i he_x_c hk hm_4 H locs ls hG hl
      subst he_x_i
      subst he_x_c
      have hck := ct_in (fun j => decide (q_hs (M q) j = 1) && q_bt (M q) j i) k
      have hdk : (k : Int) < q_nd (M q) → q_dogok (M q) k := hI.2.1 k
      have hdok := dok hI k
      refine lv_iload_n hx hb dX6_placeOf_4 rfl (lv_at hl 0 rfl) ?_
      refine lv_aload_n hx hb dX6_placeOf_5 rfl (lv_at hl 2 rfl) ?_
      refine lv_bipush (v := iZ (7)) hx hb dX6_placeOf_6 (by decide) ?_
      refine g_iald (z := (q_nd (M q))) (j := 7) hx hb hG (o := q) hdp_q (gE_P hP G _) (by omega) (by omega) (by omega) rfl dX6_placeOf_8 ?_
      refine z_icmp_ge (tgt := 43) hx hb (by omega) (by omega) dX6_placeOf_9 (by decide) (fun c_9 => ?_) (fun c_9 => ?_)
      · skip
        refine lv_aload_n hx hb dX6_placeOf_43 rfl (lv_at hl 2 rfl) ?_
        refine lv_iload_n hx hb dX6_placeOf_44 rfl (lv_at hl 3 rfl) ?_
        refine g_callS (As := [.ref (gad G q), .int (iZ (i : Int))]) (rest := []) ⟨hx, hb, hml, hown, hts⟩ (c_X6_hasRun l G M hdm q hP hI i (by omega)) (va_cwS 2 hts gX6_placeOf_X6_hasRun rfl rfl rfl (by decide +kernel) ⟨Nat.le_of_ble_eq_true rfl, Nat.le_of_ble_eq_true rfl⟩) hG rfl hl.1 rfl (Nat.le_of_ble_eq_true rfl) dX6_placeOf_45 ⟨Nat.zero_le _, Nat.zero_le _⟩ (fun z1 M2 H locs hp_45 hG => ?_)
        obtain ⟨hz_45, hM_45⟩ := hp_45; replace hz_45 := hz_45.symm; subst hz_45; replace hM_45 := hM_45.symm; subst hM_45
        refine z_ifP_eq (tgt := 55) hx hb dX6_placeOf_48 (by decide) (fun c_48 => ?_) (fun c_48 => ?_)
        · skip
          refine lv_bipush (v := iZ (-9)) hx hb dX6_placeOf_55 (by decide) ?_
          exact g_iret (post := fun z M1 => z = q_pl (M q) i ∧ M1 = M) (z := (-9)) hx hb hr hG hlocks (⟨by unfold q_pl; first | (rw [if_neg (by first | assumption | omega)]; done) | (rw [if_pos (by first | assumption | omega), show (q_nd (M q)).toNat = k by omega] <;> omega), rfl⟩) dX6_placeOf_57
        · skip
          refine lv_iload_n hx hb dX6_placeOf_51 rfl (lv_at hl 1 rfl) ?_
          refine lv_goto (tgt := 57) hx hb dX6_placeOf_52 (by decide) ?_
          exact g_iret (post := fun z M1 => z = q_pl (M q) i ∧ M1 = M) (z := ((q_ct (fun j => decide (q_hs (M q) j = 1) && q_bt (M q) j i) k) + 1)) hx hb hr hG hlocks (⟨by unfold q_pl; first | (rw [if_neg (by first | assumption | omega)]; done) | (rw [if_pos (by first | assumption | omega), show (q_nd (M q)).toNat = k by omega] <;> omega), rfl⟩) dX6_placeOf_57
      · skip
        have hdo2 := hdk (by omega)
        unfold q_dogok at hdo2
        refine lv_iload_n hx hb dX6_placeOf_12 rfl (lv_at hl 1 rfl) ?_
        refine lv_aload_n hx hb dX6_placeOf_13 rfl (lv_at hl 2 rfl) ?_
        refine lv_iload_n hx hb dX6_placeOf_14 rfl (lv_at hl 0 rfl) ?_
        refine g_callS (As := [.ref (gad G q), .int (iZ (k : Int))]) (rest := [.int (iZ ((q_ct (fun j => decide (q_hs (M q) j = 1) && q_bt (M q) j i) k) + 1))]) ⟨hx, hb, hml, hown, hts⟩ (c_X6_hasRun l G M hdm q hP hI k (by omega)) (va_cwS 2 hts gX6_placeOf_X6_hasRun rfl rfl rfl (by decide +kernel) ⟨Nat.le_of_ble_eq_true rfl, Nat.le_of_ble_eq_true rfl⟩) hG rfl hl.1 rfl (Nat.le_of_ble_eq_true rfl) dX6_placeOf_15 ⟨Nat.zero_le _, Nat.zero_le _⟩ (fun z3 M4 H locs hp_15 hG => ?_)
        obtain ⟨hz_15, hM_15⟩ := hp_15; replace hz_15 := hz_15.symm; subst hz_15; replace hM_15 := hM_15.symm; subst hM_15
        refine z_ifP_eq (tgt := 34) hx hb dX6_placeOf_18 (by decide) (fun c_18 => ?_) (fun c_18 => ?_)
        · skip
          refine lv_iconst (v := iZ 0) hx hb dX6_placeOf_34 rfl ?_
          refine z_iadd (z := ((q_ct (fun j => decide (q_hs (M q) j = 1) && q_bt (M q) j i) k) + 1)) hx hb (by omega) dX6_placeOf_35 ?_
          refine lv_istore_n (lv' := [(2, .int (iZ ((q_ct (fun j => decide (q_hs (M q) j = 1) && q_bt (M q) j i) k) + 1))), (3, .int (iZ (k : Int))), (0, .ref (gad G q)), (1, .int (iZ (i : Int)))]) hx hb dX6_placeOf_36 rfl hl (by decide) rfl (fun ls hl => ?_)
          refine z_iinc (z := ((k : Int) + 1)) (lv' := [(3, .int (iZ ((k : Int) + 1))), (2, .int (iZ ((q_ct (fun j => decide (q_hs (M q) j = 1) && q_bt (M q) j i) k) + 1))), (0, .ref (gad G q)), (1, .int (iZ (i : Int)))]) hx hb dX6_placeOf_37 hl (k := 1) rfl (by omega) (by decide) rfl (fun ls hl => ?_)
          refine lv_goto (tgt := 4) hx hb dX6_placeOf_40 (by decide) ?_
          exact ih_4 (k + 1) ((k : Int) + 1) ((q_ct (fun j => decide (q_hs (M q) j = 1) && q_bt (M q) j i) k) + 1)  (by omega) (by rw [q_ct]; first | (rw [if_pos (by first | assumption | exact decide_eq_true (by omega) | (simp_all; done))] <;> omega) | (rw [if_neg (by first | assumption | (intro h9; have h8 := of_decide_eq_true h9; omega) | (simp_all; done))] <;> omega)) (by omega) (by omega) _ _ _ hG (lv_sub hl [0, 1, 2, 3] rfl)
        · skip
          refine lv_aload_n hx hb dX6_placeOf_21 rfl (lv_at hl 2 rfl) ?_
          refine lv_iload_n hx hb dX6_placeOf_22 rfl (lv_at hl 0 rfl) ?_
          refine lv_iload_n hx hb dX6_placeOf_23 rfl (lv_at hl 3 rfl) ?_
          refine g_callS (As := [.ref (gad G q), .int (iZ (k : Int)), .int (iZ (i : Int))]) (rest := [.int (iZ ((q_ct (fun j => decide (q_hs (M q) j = 1) && q_bt (M q) j i) k) + 1))]) ⟨hx, hb, hml, hown, hts⟩ (c_X6_isBetter l G M hdm q hP hI k i (by omega) (by omega)) (va_cwS 3 hts gX6_placeOf_X6_isBetter rfl rfl rfl (by decide +kernel) ⟨Nat.le_of_ble_eq_true rfl, Nat.le_of_ble_eq_true rfl⟩) hG rfl hl.1 rfl (Nat.le_of_ble_eq_true rfl) dX6_placeOf_24 ⟨Nat.zero_le _, Nat.zero_le _⟩ (fun z5 M6 H locs hp_24 hG => ?_)
          obtain ⟨hz_24, hM_24⟩ := hp_24; replace hz_24 := hz_24.symm; subst hz_24; replace hM_24 := hM_24.symm; subst hM_24
          refine z_ifP_eq (tgt := 34) hx hb dX6_placeOf_27 (by decide) (fun c_27 => ?_) (fun c_27 => ?_)
          · skip
            refine lv_iconst (v := iZ 0) hx hb dX6_placeOf_34 rfl ?_
            refine z_iadd (z := ((q_ct (fun j => decide (q_hs (M q) j = 1) && q_bt (M q) j i) k) + 1)) hx hb (by omega) dX6_placeOf_35 ?_
            refine lv_istore_n (lv' := [(2, .int (iZ ((q_ct (fun j => decide (q_hs (M q) j = 1) && q_bt (M q) j i) k) + 1))), (3, .int (iZ (k : Int))), (0, .ref (gad G q)), (1, .int (iZ (i : Int)))]) hx hb dX6_placeOf_36 rfl hl (by decide) rfl (fun ls hl => ?_)
            refine z_iinc (z := ((k : Int) + 1)) (lv' := [(3, .int (iZ ((k : Int) + 1))), (2, .int (iZ ((q_ct (fun j => decide (q_hs (M q) j = 1) && q_bt (M q) j i) k) + 1))), (0, .ref (gad G q)), (1, .int (iZ (i : Int)))]) hx hb dX6_placeOf_37 hl (k := 1) rfl (by omega) (by decide) rfl (fun ls hl => ?_)
            refine lv_goto (tgt := 4) hx hb dX6_placeOf_40 (by decide) ?_
            exact ih_4 (k + 1) ((k : Int) + 1) ((q_ct (fun j => decide (q_hs (M q) j = 1) && q_bt (M q) j i) k) + 1)  (by omega) (by rw [q_ct]; first | (rw [if_pos (by first | assumption | exact decide_eq_true (by omega) | (simp_all; done))] <;> omega) | (rw [if_neg (by first | assumption | (intro h9; have h8 := of_decide_eq_true h9; omega) | (simp_all; done))] <;> omega)) (by omega) (by omega) _ _ _ hG (lv_sub hl [0, 1, 2, 3] rfl)
          · skip
            refine lv_iconst (v := iZ 1) hx hb dX6_placeOf_30 rfl ?_
            refine lv_goto (tgt := 35) hx hb dX6_placeOf_31 (by decide) ?_
            refine z_iadd (z := ((q_ct (fun j => decide (q_hs (M q) j = 1) && q_bt (M q) j i) k) + 2)) hx hb (by omega) dX6_placeOf_35 ?_
            refine lv_istore_n (lv' := [(2, .int (iZ ((q_ct (fun j => decide (q_hs (M q) j = 1) && q_bt (M q) j i) k) + 2))), (3, .int (iZ (k : Int))), (0, .ref (gad G q)), (1, .int (iZ (i : Int)))]) hx hb dX6_placeOf_36 rfl hl (by decide) rfl (fun ls hl => ?_)
            refine z_iinc (z := ((k : Int) + 1)) (lv' := [(3, .int (iZ ((k : Int) + 1))), (2, .int (iZ ((q_ct (fun j => decide (q_hs (M q) j = 1) && q_bt (M q) j i) k) + 2))), (0, .ref (gad G q)), (1, .int (iZ (i : Int)))]) hx hb dX6_placeOf_37 hl (k := 1) rfl (by omega) (by decide) rfl (fun ls hl => ?_)
            refine lv_goto (tgt := 4) hx hb dX6_placeOf_40 (by decide) ?_
            exact ih_4 (k + 1) ((k : Int) + 1) ((q_ct (fun j => decide (q_hs (M q) j = 1) && q_bt (M q) j i) k) + 2)  (by omega) (by rw [q_ct]; first | (rw [if_pos (by first | assumption | exact decide_eq_true (by omega) | (simp_all; done))] <;> omega) | (rw [if_neg (by first | assumption | (intro h9; have h8 := of_decide_eq_true h9; omega) | (simp_all; done))] <;> omega)) (by omega) (by omega) _ _ _ hG (lv_sub hl [0, 1, 2, 3] rfl)
  exact L_4 _ 0 0 1  rfl rfl (by omega) (Nat.lt_succ_self _) _ _ _ hG (lv_sub hl [0, 1, 2, 3] rfl)
set_option maxHeartbeats 4000000 in
set_option maxRecDepth 100000 in
theorem c_X6_waiting (l : Launch) (G : gG) (M : Nat → Nat → Int) (hdm : ∀ k, k < 179 → gdm G k) (q : Nat) (hP : isP q) (hI : q_inv (M q)) : gMi l yX6_waiting wsX6_waiting ({ frames := 3, cells := 0, slots := 0, locals := 62 } : Room) G M [.ref (gad G q)] (fun z M1 => z = q_nwait (M q) ∧ M1 = M) := by
  refine gMi_of (cc := cX6_waiting) (maxL := 3) (ret := some .int) (by decide) rfl (Nat.le_of_ble_eq_true rfl) ?_
  intro p e s m below meth c ls hx hb hr hml hown hts hlocks hl hG
  have hown : s.vm.findClass RX6 = some m.cls := hown
  have hl : lv_has ls 3 [(0, .ref (gad G q))] := hl
  have hdp_q : gdm G q := hdm _ (by rcases hP with h | h | h <;> omega)
  have hnd := hI.1
  refine lv_iconst (v := iZ 0) hx hb dX6_waiting_0 rfl ?_
  refine lv_istore_n (lv' := [(1, .int (iZ 0)), (0, .ref (gad G q))]) hx hb dX6_waiting_1 rfl hl (by decide) rfl (fun ls hl => ?_)
  refine lv_iconst (v := iZ 0) hx hb dX6_waiting_2 rfl ?_
  refine lv_istore_n (lv' := [(2, .int (iZ 0)), (1, .int (iZ 0)), (0, .ref (gad G q))]) hx hb dX6_waiting_3 rfl hl (by decide) rfl (fun ls hl => ?_)
  have L_4 : ∀ (n_4 : Nat) (k : Nat) (x_i : Int) (x_c : Int), (x_i = (k : Int)) → (x_c = (q_ct (q_torun (M q)) k)) → ((k : Int) ≤ q_nd (M q)) → 12 - k < n_4 → ∀ (H : Heap) (locs : List Loc) (ls : Array Slot), gH G M s H locs → lv_has ls 3 [(2, .int (iZ x_i)), (1, .int (iZ x_c)), (0, .ref (gad G q))] → W p l e ({ frames := 3, cells := 0, slots := 0, locals := 62 } : Room) s m [.ref (gad G q)].toArray below meth c H locs 0 0 (MQ below (va_Qi (fun r (u : Int × (Nat → Nat → Int)) => r = iZ u.1 ∧ (fun z M1 => z = q_nwait (M q) ∧ M1 = M) u.1 u.2) (fun u U => gB G u.2 U) (gA G)) [.ref (gad G q)].toArray s 0 0 (gA G)) (F0 m 4 ls []) := by
    intro n_4
    induction n_4 with
    | zero => intro k x_i x_c he_x_i he_x_c hk hm_4; exact absurd hm_4 (Nat.not_lt_zero _)
    | succ n_4 ih_4 =>
      intro k x_i x_c he_x_i he_x_c hk hm_4 H locs ls hG hl
      subst he_x_i
      subst he_x_c
      have hck := ct_in (q_torun (M q)) k
      have hdk : (k : Int) < q_nd (M q) → q_dogok (M q) k := hI.2.1 k
      have hdok := dok hI k
      refine lv_iload_n hx hb dX6_waiting_4 rfl (lv_at hl 0 rfl) ?_
      refine lv_aload_n hx hb dX6_waiting_5 rfl (lv_at hl 2 rfl) ?_
      refine lv_bipush (v := iZ (7)) hx hb dX6_waiting_6 (by decide) ?_
      refine g_iald (z := (q_nd (M q))) (j := 7) hx hb hG (o := q) hdp_q (gE_P hP G _) (by omega) (by omega) (by omega) rfl dX6_waiting_8 ?_
      refine z_icmp_ge (tgt := 34) hx hb (by omega) (by omega) dX6_waiting_9 (by decide) (fun c_9 => ?_) (fun c_9 => ?_)
      · skip
        refine lv_iload_n hx hb dX6_waiting_34 rfl (lv_at hl 1 rfl) ?_
        exact g_iret (post := fun z M1 => z = q_nwait (M q) ∧ M1 = M) (z := (q_ct (q_torun (M q)) k)) hx hb hr hG hlocks (⟨by unfold q_nwait; congr 1; omega, rfl⟩) dX6_waiting_35
      · skip
        refine lv_iload_n hx hb dX6_waiting_12 rfl (lv_at hl 1 rfl) ?_
        refine lv_aload_n hx hb dX6_waiting_13 rfl (lv_at hl 2 rfl) ?_
        refine lv_iload_n hx hb dX6_waiting_14 rfl (lv_at hl 0 rfl) ?_
        refine g_callS (As := [.ref (gad G q), .int (iZ (k : Int))]) (rest := [.int (iZ (q_ct (q_torun (M q)) k))]) ⟨hx, hb, hml, hown, hts⟩ (c_X6_isToRun l G M hdm q hP hI k (by omega)) (va_cwS 2 hts gX6_waiting_X6_isToRun rfl rfl rfl (by decide +kernel) ⟨Nat.le_of_ble_eq_true rfl, Nat.le_of_ble_eq_true rfl⟩) hG rfl hl.1 rfl (Nat.le_of_ble_eq_true rfl) dX6_waiting_15 ⟨Nat.zero_le _, Nat.zero_le _⟩ (fun z1 M2 H locs hp_15 hG => ?_)
        obtain ⟨hz_15, hM_15⟩ := hp_15; replace hz_15 := hz_15.symm; subst hz_15; replace hM_15 := hM_15.symm; subst hM_15
        refine z_ifP_eq (tgt := 25) hx hb dX6_waiting_18 (by decide) (fun c_18 => ?_) (fun c_18 => ?_)
        · skip
          refine lv_iconst (v := iZ 0) hx hb dX6_waiting_25 rfl ?_
          refine z_iadd (z := (q_ct (q_torun (M q)) k)) hx hb (by omega) dX6_waiting_26 ?_
          refine lv_istore_n (lv' := [(1, .int (iZ (q_ct (q_torun (M q)) k))), (2, .int (iZ (k : Int))), (0, .ref (gad G q))]) hx hb dX6_waiting_27 rfl hl (by decide) rfl (fun ls hl => ?_)
          refine z_iinc (z := ((k : Int) + 1)) (lv' := [(2, .int (iZ ((k : Int) + 1))), (1, .int (iZ (q_ct (q_torun (M q)) k))), (0, .ref (gad G q))]) hx hb dX6_waiting_28 hl (k := 1) rfl (by omega) (by decide) rfl (fun ls hl => ?_)
          refine lv_goto (tgt := 4) hx hb dX6_waiting_31 (by decide) ?_
          exact ih_4 (k + 1) ((k : Int) + 1) (q_ct (q_torun (M q)) k)  (by omega) (by rw [q_ct]; first | (rw [if_pos (by first | assumption | exact decide_eq_true (by omega) | (simp_all; done))] <;> omega) | (rw [if_neg (by first | assumption | (intro h9; have h8 := of_decide_eq_true h9; omega) | (simp_all; done))] <;> omega)) (by omega) (by omega) _ _ _ hG (lv_sub hl [0, 1, 2] rfl)
        · skip
          refine lv_iconst (v := iZ 1) hx hb dX6_waiting_21 rfl ?_
          refine lv_goto (tgt := 26) hx hb dX6_waiting_22 (by decide) ?_
          refine z_iadd (z := ((q_ct (q_torun (M q)) k) + 1)) hx hb (by omega) dX6_waiting_26 ?_
          refine lv_istore_n (lv' := [(1, .int (iZ ((q_ct (q_torun (M q)) k) + 1))), (2, .int (iZ (k : Int))), (0, .ref (gad G q))]) hx hb dX6_waiting_27 rfl hl (by decide) rfl (fun ls hl => ?_)
          refine z_iinc (z := ((k : Int) + 1)) (lv' := [(2, .int (iZ ((k : Int) + 1))), (1, .int (iZ ((q_ct (q_torun (M q)) k) + 1))), (0, .ref (gad G q))]) hx hb dX6_waiting_28 hl (k := 1) rfl (by omega) (by decide) rfl (fun ls hl => ?_)
          refine lv_goto (tgt := 4) hx hb dX6_waiting_31 (by decide) ?_
          exact ih_4 (k + 1) ((k : Int) + 1) ((q_ct (q_torun (M q)) k) + 1)  (by omega) (by rw [q_ct]; first | (rw [if_pos (by first | assumption | exact decide_eq_true (by omega) | (simp_all; done))] <;> omega) | (rw [if_neg (by first | assumption | (intro h9; have h8 := of_decide_eq_true h9; omega) | (simp_all; done))] <;> omega)) (by omega) (by omega) _ _ _ hG (lv_sub hl [0, 1, 2] rfl)
  exact L_4 _ 0 0 0  rfl rfl (by omega) (Nat.lt_succ_self _) _ _ _ hG (lv_sub hl [0, 1, 2] rfl)
set_option maxHeartbeats 4000000 in
set_option maxRecDepth 100000 in
theorem c_X6_runners (l : Launch) (G : gG) (M : Nat → Nat → Int) (hdm : ∀ k, k < 179 → gdm G k) (q : Nat) (hP : isP q) (hI : q_inv (M q)) : gMi l yX6_runners wsX6_runners ({ frames := 2, cells := 0, slots := 0, locals := 41 } : Room) G M [.ref (gad G q)] (fun z M1 => z = q_nrun (M q) ∧ M1 = M) := by
  refine gMi_of (cc := cX6_runners) (maxL := 3) (ret := some .int) (by decide) rfl (Nat.le_of_ble_eq_true rfl) ?_
  intro p e s m below meth c ls hx hb hr hml hown hts hlocks hl hG
  have hown : s.vm.findClass RX6 = some m.cls := hown
  have hl : lv_has ls 3 [(0, .ref (gad G q))] := hl
  have hdp_q : gdm G q := hdm _ (by rcases hP with h | h | h <;> omega)
  have hnd := hI.1
  refine lv_iconst (v := iZ 0) hx hb dX6_runners_0 rfl ?_
  refine lv_istore_n (lv' := [(1, .int (iZ 0)), (0, .ref (gad G q))]) hx hb dX6_runners_1 rfl hl (by decide) rfl (fun ls hl => ?_)
  refine lv_iconst (v := iZ 0) hx hb dX6_runners_2 rfl ?_
  refine lv_istore_n (lv' := [(2, .int (iZ 0)), (1, .int (iZ 0)), (0, .ref (gad G q))]) hx hb dX6_runners_3 rfl hl (by decide) rfl (fun ls hl => ?_)
  have L_4 : ∀ (n_4 : Nat) (k : Nat) (x_i : Int) (x_c : Int), (x_i = (k : Int)) → (x_c = (q_ct (fun i => decide (q_hs (M q) i = 1)) k)) → ((k : Int) ≤ q_nd (M q)) → 12 - k < n_4 → ∀ (H : Heap) (locs : List Loc) (ls : Array Slot), gH G M s H locs → lv_has ls 3 [(2, .int (iZ x_i)), (1, .int (iZ x_c)), (0, .ref (gad G q))] → W p l e ({ frames := 2, cells := 0, slots := 0, locals := 41 } : Room) s m [.ref (gad G q)].toArray below meth c H locs 0 0 (MQ below (va_Qi (fun r (u : Int × (Nat → Nat → Int)) => r = iZ u.1 ∧ (fun z M1 => z = q_nrun (M q) ∧ M1 = M) u.1 u.2) (fun u U => gB G u.2 U) (gA G)) [.ref (gad G q)].toArray s 0 0 (gA G)) (F0 m 4 ls []) := by
    intro n_4
    induction n_4 with
    | zero => intro k x_i x_c he_x_i he_x_c hk hm_4; exact absurd hm_4 (Nat.not_lt_zero _)
    | succ n_4 ih_4 =>
      intro k x_i x_c he_x_i he_x_c hk hm_4 H locs ls hG hl
      subst he_x_i
      subst he_x_c
      have hck := ct_in (fun i => decide (q_hs (M q) i = 1)) k
      have hdk : (k : Int) < q_nd (M q) → q_dogok (M q) k := hI.2.1 k
      have hdok := dok hI k
      refine lv_iload_n hx hb dX6_runners_4 rfl (lv_at hl 0 rfl) ?_
      refine lv_aload_n hx hb dX6_runners_5 rfl (lv_at hl 2 rfl) ?_
      refine lv_bipush (v := iZ (7)) hx hb dX6_runners_6 (by decide) ?_
      refine g_iald (z := (q_nd (M q))) (j := 7) hx hb hG (o := q) hdp_q (gE_P hP G _) (by omega) (by omega) (by omega) rfl dX6_runners_8 ?_
      refine z_icmp_ge (tgt := 34) hx hb (by omega) (by omega) dX6_runners_9 (by decide) (fun c_9 => ?_) (fun c_9 => ?_)
      · skip
        refine lv_iload_n hx hb dX6_runners_34 rfl (lv_at hl 1 rfl) ?_
        exact g_iret (post := fun z M1 => z = q_nrun (M q) ∧ M1 = M) (z := (q_ct (fun i => decide (q_hs (M q) i = 1)) k)) hx hb hr hG hlocks (⟨by unfold q_nrun; congr 1; omega, rfl⟩) dX6_runners_35
      · skip
        refine lv_iload_n hx hb dX6_runners_12 rfl (lv_at hl 1 rfl) ?_
        refine lv_aload_n hx hb dX6_runners_13 rfl (lv_at hl 2 rfl) ?_
        refine lv_iload_n hx hb dX6_runners_14 rfl (lv_at hl 0 rfl) ?_
        refine g_callS (As := [.ref (gad G q), .int (iZ (k : Int))]) (rest := [.int (iZ (q_ct (fun i => decide (q_hs (M q) i = 1)) k))]) ⟨hx, hb, hml, hown, hts⟩ (c_X6_hasRun l G M hdm q hP hI k (by omega)) (va_cwS 2 hts gX6_runners_X6_hasRun rfl rfl rfl (by decide +kernel) ⟨Nat.le_of_ble_eq_true rfl, Nat.le_of_ble_eq_true rfl⟩) hG rfl hl.1 rfl (Nat.le_of_ble_eq_true rfl) dX6_runners_15 ⟨Nat.zero_le _, Nat.zero_le _⟩ (fun z1 M2 H locs hp_15 hG => ?_)
        obtain ⟨hz_15, hM_15⟩ := hp_15; replace hz_15 := hz_15.symm; subst hz_15; replace hM_15 := hM_15.symm; subst hM_15
        refine z_ifP_eq (tgt := 25) hx hb dX6_runners_18 (by decide) (fun c_18 => ?_) (fun c_18 => ?_)
        · skip
          refine lv_iconst (v := iZ 0) hx hb dX6_runners_25 rfl ?_
          refine z_iadd (z := (q_ct (fun i => decide (q_hs (M q) i = 1)) k)) hx hb (by omega) dX6_runners_26 ?_
          refine lv_istore_n (lv' := [(1, .int (iZ (q_ct (fun i => decide (q_hs (M q) i = 1)) k))), (2, .int (iZ (k : Int))), (0, .ref (gad G q))]) hx hb dX6_runners_27 rfl hl (by decide) rfl (fun ls hl => ?_)
          refine z_iinc (z := ((k : Int) + 1)) (lv' := [(2, .int (iZ ((k : Int) + 1))), (1, .int (iZ (q_ct (fun i => decide (q_hs (M q) i = 1)) k))), (0, .ref (gad G q))]) hx hb dX6_runners_28 hl (k := 1) rfl (by omega) (by decide) rfl (fun ls hl => ?_)
          refine lv_goto (tgt := 4) hx hb dX6_runners_31 (by decide) ?_
          exact ih_4 (k + 1) ((k : Int) + 1) (q_ct (fun i => decide (q_hs (M q) i = 1)) k)  (by omega) (by rw [q_ct]; first | (rw [if_pos (by first | assumption | exact decide_eq_true (by omega) | (simp_all; done))] <;> omega) | (rw [if_neg (by first | assumption | (intro h9; have h8 := of_decide_eq_true h9; omega) | (simp_all; done))] <;> omega)) (by omega) (by omega) _ _ _ hG (lv_sub hl [0, 1, 2] rfl)
        · skip
          refine lv_iconst (v := iZ 1) hx hb dX6_runners_21 rfl ?_
          refine lv_goto (tgt := 26) hx hb dX6_runners_22 (by decide) ?_
          refine z_iadd (z := ((q_ct (fun i => decide (q_hs (M q) i = 1)) k) + 1)) hx hb (by omega) dX6_runners_26 ?_
          refine lv_istore_n (lv' := [(1, .int (iZ ((q_ct (fun i => decide (q_hs (M q) i = 1)) k) + 1))), (2, .int (iZ (k : Int))), (0, .ref (gad G q))]) hx hb dX6_runners_27 rfl hl (by decide) rfl (fun ls hl => ?_)
          refine z_iinc (z := ((k : Int) + 1)) (lv' := [(2, .int (iZ ((k : Int) + 1))), (1, .int (iZ ((q_ct (fun i => decide (q_hs (M q) i = 1)) k) + 1))), (0, .ref (gad G q))]) hx hb dX6_runners_28 hl (k := 1) rfl (by omega) (by decide) rfl (fun ls hl => ?_)
          refine lv_goto (tgt := 4) hx hb dX6_runners_31 (by decide) ?_
          exact ih_4 (k + 1) ((k : Int) + 1) ((q_ct (fun i => decide (q_hs (M q) i = 1)) k) + 1)  (by omega) (by rw [q_ct]; first | (rw [if_pos (by first | assumption | exact decide_eq_true (by omega) | (simp_all; done))] <;> omega) | (rw [if_neg (by first | assumption | (intro h9; have h8 := of_decide_eq_true h9; omega) | (simp_all; done))] <;> omega)) (by omega) (by omega) _ _ _ hG (lv_sub hl [0, 1, 2] rfl)
  exact L_4 _ 0 0 0  rfl rfl (by omega) (Nat.lt_succ_self _) _ _ _ hG (lv_sub hl [0, 1, 2] rfl)
set_option maxHeartbeats 4000000 in
set_option maxRecDepth 100000 in
theorem c_X6_why (l : Launch) (G : gG) (M : Nat → Nat → Int) (hdm : ∀ k, k < 179 → gdm G k) (q : Nat) (hP : isP q) (hI : q_inv (M q)) : gMi l yX6_why wsX6_why ({ frames := 4, cells := 0, slots := 0, locals := 84 } : Room) G M [.ref (gad G q)] (fun z M1 => z = q_ob (M q) ∧ M1 = M) := by
  refine gMi_of (cc := cX6_why) (maxL := 1) (ret := some .int) (by decide) rfl (Nat.le_of_ble_eq_true rfl) ?_
  intro p e s m below meth c ls hx hb hr hml hown hts hlocks hl hG
  have hown : s.vm.findClass RX6 = some m.cls := hown
  have hl : lv_has ls 1 [(0, .ref (gad G q))] := hl
  have hdp_q : gdm G q := hdm _ (by rcases hP with h | h | h <;> omega)
  have hnd := hI.1
  have hms := hI.2.2.2.1
  have hs6 := hI.2.2.2.2.1
  have hwt : 0 ≤ q_nwait (M q) ∧ q_nwait (M q) ≤ (q_nd (M q)).toNat := ct_in _ _
  refine lv_aload_n hx hb dX6_why_0 rfl (lv_at hl 0 rfl) ?_
  refine g_callS (As := [.ref (gad G q)]) (rest := []) ⟨hx, hb, hml, hown, hts⟩ (c_X6_waiting l G M hdm q hP hI) (va_cwS 1 hts gX6_why_X6_waiting rfl rfl rfl (by decide +kernel) ⟨Nat.le_of_ble_eq_true rfl, Nat.le_of_ble_eq_true rfl⟩) hG rfl hl.1 rfl (Nat.le_of_ble_eq_true rfl) dX6_why_1 ⟨Nat.zero_le _, Nat.zero_le _⟩ (fun z1 M2 H locs hp_1 hG => ?_)
  obtain ⟨hz_1, hM_1⟩ := hp_1; replace hz_1 := hz_1.symm; subst hz_1; replace hM_1 := hM_1.symm; subst hM_1
  refine z_if_ne (tgt := 11) hx hb (by omega) dX6_why_4 (by decide) (fun c_4 => ?_) (fun c_4 => ?_)
  · skip
    refine lv_aload_n hx hb dX6_why_11 rfl (lv_at hl 0 rfl) ?_
    refine lv_iconst (v := iZ 1) hx hb dX6_why_12 rfl ?_
    refine g_iald (z := ((M q) 1)) (j := 1) hx hb hG (o := q) hdp_q (gE_P hP G _) (by omega) (by omega) (by omega) rfl dX6_why_13 ?_
    refine lv_aload_n hx hb dX6_why_14 rfl (lv_at hl 0 rfl) ?_
    refine lv_iconst (v := iZ 2) hx hb dX6_why_15 rfl ?_
    refine g_iald (z := ((M q) 2)) (j := 2) hx hb hG (o := q) hdp_q (gE_P hP G _) (by omega) (by omega) (by omega) rfl dX6_why_16 ?_
    refine z_icmp_ne (tgt := 24) hx hb (by omega) (by omega) dX6_why_17 (by decide) (fun c_17 => ?_) (fun c_17 => ?_)
    · skip
      refine lv_iconst (v := iZ 0) hx hb dX6_why_24 rfl ?_
      exact g_iret (post := fun z M1 => z = q_ob (M q) ∧ M1 = M) (z := 0) hx hb hr hG hlocks (⟨by unfold q_ob; first | (rw [if_pos (by omega)]) | (rw [if_neg (by omega), if_pos (by omega)]) | (rw [if_neg (by omega), if_neg (by omega)]), rfl⟩) dX6_why_25
    · skip
      refine lv_iconst (v := iZ 2) hx hb dX6_why_20 rfl ?_
      refine lv_goto (tgt := 25) hx hb dX6_why_21 (by decide) ?_
      exact g_iret (post := fun z M1 => z = q_ob (M q) ∧ M1 = M) (z := 2) hx hb hr hG hlocks (⟨by unfold q_ob; first | (rw [if_pos (by omega)]) | (rw [if_neg (by omega), if_pos (by omega)]) | (rw [if_neg (by omega), if_neg (by omega)]), rfl⟩) dX6_why_25
  · skip
    refine lv_iconst (v := iZ 1) hx hb dX6_why_7 rfl ?_
    refine lv_goto (tgt := 25) hx hb dX6_why_8 (by decide) ?_
    exact g_iret (post := fun z M1 => z = q_ob (M q) ∧ M1 = M) (z := 1) hx hb hr hG hlocks (⟨by unfold q_ob; first | (rw [if_pos (by omega)]) | (rw [if_neg (by omega), if_pos (by omega)]) | (rw [if_neg (by omega), if_neg (by omega)]), rfl⟩) dX6_why_25
set_option maxHeartbeats 4000000 in
set_option maxRecDepth 100000 in
theorem c_X6_isDrawn (l : Launch) (G : gG) (M : Nat → Nat → Int) (hdm : ∀ k, k < 179 → gdm G k) (q : Nat) (hP : isP q) (hI : q_inv (M q)) (d bt : Int) (hd : -2147483648 ≤ d ∧ d < 2147483648) (hbt : -2147483648 ≤ bt ∧ bt < 2147483648) : gMi l yX6_isDrawn wsX6_isDrawn ({ frames := 1, cells := 0, slots := 0, locals := 20 } : Room) G M [.ref (gad G q), .int (iZ d), .int (iZ bt)] (fun z M1 => z = (if q_dn (M q) d bt (q_nd (M q)).toNat = true then 1 else 0) ∧ M1 = M) := by
  refine gMi_of (cc := cX6_isDrawn) (maxL := 5) (ret := some .boolean) (by decide) rfl (Nat.le_of_ble_eq_true rfl) ?_
  intro p e s m below meth c ls hx hb hr hml hown hts hlocks hl hG
  have hown : s.vm.findClass RX6 = some m.cls := hown
  have hl : lv_has ls 5 [(0, .ref (gad G q)), (1, .int (iZ d)), (2, .int (iZ bt))] := hl
  have hdp_q : gdm G q := hdm _ (by rcases hP with h | h | h <;> omega)
  have hnd := hI.1
  refine lv_iconst (v := iZ 0) hx hb dX6_isDrawn_0 rfl ?_
  refine lv_istore_n (lv' := [(3, .int (iZ 0)), (0, .ref (gad G q)), (1, .int (iZ d)), (2, .int (iZ bt))]) hx hb dX6_isDrawn_1 rfl hl (by decide) rfl (fun ls hl => ?_)
  refine lv_iconst (v := iZ 0) hx hb dX6_isDrawn_2 rfl ?_
  refine lv_istore (lv' := [(4, .int (iZ 0)), (3, .int (iZ 0)), (0, .ref (gad G q)), (1, .int (iZ d)), (2, .int (iZ bt))]) hx hb dX6_isDrawn_3 hl (by decide) rfl (fun ls hl => ?_)
  have L_5 : ∀ (n_5 : Nat) (k : Nat) (x_i : Int) (x_b : Int), (x_i = (k : Int)) → (x_b = (if q_dn (M q) d bt k = true then 1 else 0)) → ((k : Int) ≤ q_nd (M q)) → 12 - k < n_5 → ∀ (H : Heap) (locs : List Loc) (ls : Array Slot), gH G M s H locs → lv_has ls 5 [(4, .int (iZ x_i)), (3, .int (iZ x_b)), (0, .ref (gad G q)), (1, .int (iZ d)), (2, .int (iZ bt))] → W p l e ({ frames := 1, cells := 0, slots := 0, locals := 20 } : Room) s m [.ref (gad G q), .int (iZ d), .int (iZ bt)].toArray below meth c H locs 0 0 (MQ below (va_Qi (fun r (u : Int × (Nat → Nat → Int)) => r = iZ u.1 ∧ (fun z M1 => z = (if q_dn (M q) d bt (q_nd (M q)).toNat = true then 1 else 0) ∧ M1 = M) u.1 u.2) (fun u U => gB G u.2 U) (gA G)) [.ref (gad G q), .int (iZ d), .int (iZ bt)].toArray s 0 0 (gA G)) (F0 m 5 ls []) := by
    intro n_5
    induction n_5 with
    | zero => intro k x_i x_b he_x_i he_x_b hk hm_5; exact absurd hm_5 (Nat.not_lt_zero _)
    | succ n_5 ih_5 =>
      intro k x_i x_b he_x_i he_x_b hk hm_5 H locs ls hG hl
      subst he_x_i
      subst he_x_b
      have hdok := dok hI k
      refine lv_iload hx hb dX6_isDrawn_5 (lv_at hl 0 rfl) ?_
      refine lv_aload_n hx hb dX6_isDrawn_7 rfl (lv_at hl 2 rfl) ?_
      refine lv_bipush (v := iZ (7)) hx hb dX6_isDrawn_8 (by decide) ?_
      refine g_iald (z := (q_nd (M q))) (j := 7) hx hb hG (o := q) hdp_q (gE_P hP G _) (by omega) (by omega) (by omega) rfl dX6_isDrawn_10 ?_
      refine z_icmp_ge (tgt := 47) hx hb (by omega) (by omega) dX6_isDrawn_11 (by decide) (fun c_11 => ?_) (fun c_11 => ?_)
      · skip
        refine lv_iload_n hx hb dX6_isDrawn_47 rfl (lv_at hl 1 rfl) ?_
        exact g_zret (post := fun z M1 => z = (if q_dn (M q) d bt (q_nd (M q)).toNat = true then 1 else 0) ∧ M1 = M) (z := (if q_dn (M q) d bt k = true then 1 else 0)) hx hb hr hG hlocks (by split <;> simp) (⟨by rw [show (q_nd (M q)).toNat = k by omega], rfl⟩) dX6_isDrawn_48
      · skip
        refine lv_iload_n hx hb dX6_isDrawn_14 rfl (lv_at hl 1 rfl) ?_
        refine lv_iload hx hb dX6_isDrawn_15 (lv_at hl 0 rfl) ?_
        refine lv_iload_n hx hb dX6_isDrawn_17 rfl (lv_at hl 4 rfl) ?_
        refine z_icmp_eq (tgt := 38) hx hb (by omega) (by omega) dX6_isDrawn_18 (by decide) (fun c_18 => ?_) (fun c_18 => ?_)
        · skip
          refine lv_iconst (v := iZ 0) hx hb dX6_isDrawn_38 rfl ?_
          refine z_ior0 hx hb dX6_isDrawn_39 ?_
          refine lv_istore_n (lv' := [(3, .int (iZ (if q_dn (M q) d bt k = true then 1 else 0))), (4, .int (iZ (k : Int))), (0, .ref (gad G q)), (1, .int (iZ d)), (2, .int (iZ bt))]) hx hb dX6_isDrawn_40 rfl hl (by decide) rfl (fun ls hl => ?_)
          refine z_iinc (z := ((k : Int) + 1)) (lv' := [(4, .int (iZ ((k : Int) + 1))), (3, .int (iZ (if q_dn (M q) d bt k = true then 1 else 0))), (0, .ref (gad G q)), (1, .int (iZ d)), (2, .int (iZ bt))]) hx hb dX6_isDrawn_41 hl (k := 1) rfl (by omega) (by decide) rfl (fun ls hl => ?_)
          refine lv_goto (tgt := 5) hx hb dX6_isDrawn_44 (by decide) ?_
          exact ih_5 (k + 1) ((k : Int) + 1) (if q_dn (M q) d bt k = true then 1 else 0)  (by omega) (by rw [q_dn]; first | (rw [show (decide ((k : Int) ≠ bt) && decide (q_dr (M q) k = d)) = true by simp; omega]; simp; done) | (rw [show (decide ((k : Int) ≠ bt) && decide (q_dr (M q) k = d)) = false by simp; omega, Bool.or_false]; done)) (by omega) (by omega) _ _ _ hG (lv_sub hl [0, 1, 2, 3, 4] rfl)
        · skip
          refine lv_aload_n hx hb dX6_isDrawn_21 rfl (lv_at hl 2 rfl) ?_
          refine lv_iload hx hb dX6_isDrawn_22 (lv_at hl 0 rfl) ?_
          refine g_callS (As := [.int (iZ (k : Int))]) (rest := [.ref (gad G q), .int (iZ (if q_dn (M q) d bt k = true then 1 else 0))]) ⟨hx, hb, hml, hown, hts⟩ (c_X6_dogAt l G M (k : Int)) (va_cwS 1 hts gX6_isDrawn_X6_dogAt rfl rfl rfl (by decide +kernel) ⟨Nat.le_of_ble_eq_true rfl, Nat.le_of_ble_eq_true rfl⟩) hG rfl hl.1 rfl (Nat.le_of_ble_eq_true rfl) dX6_isDrawn_24 ⟨Nat.zero_le _, Nat.zero_le _⟩ (fun z1 M2 H locs hp_24 hG => ?_)
          obtain ⟨hz_24, hM_24⟩ := hp_24; replace hz_24 := hz_24.symm; subst hz_24; replace hM_24 := hM_24.symm; subst hM_24
          rw [show (14 + 11 * (k : Int) : Int) = (11 * (k : Int) + 14) from by omega]
          refine lv_iconst (v := iZ 1) hx hb dX6_isDrawn_27 rfl ?_
          refine z_iadd (z := (11 * (k : Int) + 15)) hx hb (by omega) dX6_isDrawn_28 ?_
          refine g_iald (z := (q_dr (M q) k)) (j := (14 + 11 * k + 1)) hx hb hG (o := q) hdp_q (gE_P hP G _) (by omega) (by omega) (by omega) rfl dX6_isDrawn_29 ?_
          refine lv_iload_n hx hb dX6_isDrawn_30 rfl (lv_at hl 3 rfl) ?_
          refine z_icmp_ne (tgt := 38) hx hb (by omega) (by omega) dX6_isDrawn_31 (by decide) (fun c_31 => ?_) (fun c_31 => ?_)
          · skip
            refine lv_iconst (v := iZ 0) hx hb dX6_isDrawn_38 rfl ?_
            refine z_ior0 hx hb dX6_isDrawn_39 ?_
            refine lv_istore_n (lv' := [(3, .int (iZ (if q_dn (M q) d bt k = true then 1 else 0))), (4, .int (iZ (k : Int))), (0, .ref (gad G q)), (1, .int (iZ d)), (2, .int (iZ bt))]) hx hb dX6_isDrawn_40 rfl hl (by decide) rfl (fun ls hl => ?_)
            refine z_iinc (z := ((k : Int) + 1)) (lv' := [(4, .int (iZ ((k : Int) + 1))), (3, .int (iZ (if q_dn (M q) d bt k = true then 1 else 0))), (0, .ref (gad G q)), (1, .int (iZ d)), (2, .int (iZ bt))]) hx hb dX6_isDrawn_41 hl (k := 1) rfl (by omega) (by decide) rfl (fun ls hl => ?_)
            refine lv_goto (tgt := 5) hx hb dX6_isDrawn_44 (by decide) ?_
            exact ih_5 (k + 1) ((k : Int) + 1) (if q_dn (M q) d bt k = true then 1 else 0)  (by omega) (by rw [q_dn]; first | (rw [show (decide ((k : Int) ≠ bt) && decide (q_dr (M q) k = d)) = true by simp; omega]; simp; done) | (rw [show (decide ((k : Int) ≠ bt) && decide (q_dr (M q) k = d)) = false by simp; omega, Bool.or_false]; done)) (by omega) (by omega) _ _ _ hG (lv_sub hl [0, 1, 2, 3, 4] rfl)
          · skip
            refine lv_iconst (v := iZ 1) hx hb dX6_isDrawn_34 rfl ?_
            refine lv_goto (tgt := 39) hx hb dX6_isDrawn_35 (by decide) ?_
            refine z_ior1 hx hb (by first | omega | (split <;> omega)) dX6_isDrawn_39 ?_
            refine lv_istore_n (lv' := [(3, .int (iZ 1)), (4, .int (iZ (k : Int))), (0, .ref (gad G q)), (1, .int (iZ d)), (2, .int (iZ bt))]) hx hb dX6_isDrawn_40 rfl hl (by decide) rfl (fun ls hl => ?_)
            refine z_iinc (z := ((k : Int) + 1)) (lv' := [(4, .int (iZ ((k : Int) + 1))), (3, .int (iZ 1)), (0, .ref (gad G q)), (1, .int (iZ d)), (2, .int (iZ bt))]) hx hb dX6_isDrawn_41 hl (k := 1) rfl (by omega) (by decide) rfl (fun ls hl => ?_)
            refine lv_goto (tgt := 5) hx hb dX6_isDrawn_44 (by decide) ?_
            exact ih_5 (k + 1) ((k : Int) + 1) 1  (by omega) (by rw [q_dn]; first | (rw [show (decide ((k : Int) ≠ bt) && decide (q_dr (M q) k = d)) = true by simp; omega]; simp; done) | (rw [show (decide ((k : Int) ≠ bt) && decide (q_dr (M q) k = d)) = false by simp; omega, Bool.or_false]; done)) (by omega) (by omega) _ _ _ hG (lv_sub hl [0, 1, 2, 3, 4] rfl)
  exact L_5 _ 0 0 0  rfl rfl (by omega) (Nat.lt_succ_self _) _ _ _ hG (lv_sub hl [0, 1, 2, 3, 4] rfl)