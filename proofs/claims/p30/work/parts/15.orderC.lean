set_option maxHeartbeats 4000000 in
set_option maxRecDepth 100000 in
theorem c_X0_letRun (l : Launch) (G : gG) (M : Nat → Nat → Int) (hdm : ∀ k, k < 169 → gdm G k) (q : Nat) (hC : isC q) (t : Nat) (hT : isT t) (R : Nat → Int) (hR : q_tr M t R) (hI : q_inv R) (i : Nat) (hi : (i : Int) < q_nd R) (mi : Int) (hmi : 1 ≤ mi ∧ mi ≤ 30) : gMi l yX0_letRun wsX0_letRun ({ frames := 2, cells := 0, slots := 0, locals := 44 } : Room) G M [.ref (gad G q), .ref (gad G t), .int (iZ (i : Int)), .int (iZ mi)] (fun z M1 => z = q_rz R mi ∧ q_tr M1 t (q_rno R i mi (fun p => M (q + 3) p)) ∧ q_off M M1 t (t + 8)) := by
  refine gMi_of (cc := cX0_letRun) (maxL := 4) (ret := some .boolean) (by decide) rfl (Nat.le_of_ble_eq_true rfl) ?_
  intro p e s m below meth c ls hx hb hr hml hown hts hlocks hl hG
  have hown : s.vm.findClass RX0 = some m.cls := hown
  have hl : lv_has ls 4 [(0, .ref (gad G q)), (1, .ref (gad G t)), (2, .int (iZ (i : Int))), (3, .int (iZ mi))] := hl
  have hd_t : ∀ r, r < 8 → gdm G (t + r) := fun r hr => hdm _ (by have h1 := (hT).1; have h2 := (hT).2; omega)
  have hdc_q : ∀ r, r < 4 → gdm G (q + r) := fun r hr => hdm _ (by rcases hC with h | h <;> omega)
  have hinX0 : ∀ w ∈ u_ws RX0 TX0 4, w ∈ wsX0_letRun := by decide +kernel
  have hinX3 : ∀ w ∈ u_ws RX3 TX3 15, w ∈ wsX0_letRun := by decide +kernel
  have f19 := hts (.fieldLink RX0 19 "DogTrials$Course" "losses" "[I") (by decide +kernel)
  have f59 := hts (.fieldLink RX0 59 "DogTrials$Trial" "last" "I") (by decide +kernel)
  have f62 := hts (.fieldLink RX0 62 "DogTrials$Trial" "minute" "I") (by decide +kernel)
  have f65 := hts (.fieldLink RX0 65 "DogTrials$Trial" "sunset" "I") (by decide +kernel)
  have f68 := hts (.fieldLink RX0 68 "DogTrials$Trial" "tooDark" "I") (by decide +kernel)
  have f71 := hts (.fieldLink RX0 71 "DogTrials$Trial" "counted" "I") (by decide +kernel)
  have ht1 := hT.1
  have ht2 := hT.2
  have hq := hC
  unfold isC at hq
  have hnd := hI.1
  have hms := hI.2.2.2.1
  have hs6 := hI.2.2.2.2.1
  refine lv_aload_n hx hb dX0_letRun_0 rfl (lv_at hl 1 rfl) ?_
  refine lv_iload_n hx hb dX0_letRun_1 rfl (lv_at hl 2 rfl) ?_
  refine g_put (F := (fun f => oT G f t)) hx hb hts hinX3 tyX3 tyX3_ok nmX3 hown hG (o := t) (hd_t 0 (by decide)) (fun f => gE_T hT G f) rfl 11 (by decide) f59 (fun _ h => h) rfl rfl (fun _ => Nat.lt_of_lt_of_le (by decide) (Nat.le_refl 15)) (fun _ => rfl) dX0_letRun_2 (fun H locs hG => ?_)
  obtain ⟨M1, hM1⟩ : ∃ X, X = (q_wr M t 11 (i : Int)) := ⟨_, rfl⟩
  rw [← hM1] at hG
  have hv2 : q_tr M1 t (q_lst R (i : Int)) := by
    subst hM1
    obtain ⟨r0, rd, rk9, r8, r9, r10, r11, r12, r13, r14, rb⟩ := hR
    refine ⟨?_, fun j hj => ?_, fun k hk => ?_, ?_, ?_, ?_, ?_, ?_, ?_, ?_, fun j hj => ?_⟩
    · rw [q_lst_nd]; simp only [wr_ap, true_and, and_true, false_and, and_false, reduceIte] <;> (repeat' split) <;> omega
    · rw [q_lst_nd] at hj; obtain ⟨d1, d2, d3, d4, d5, d6⟩ := rd j hj; rw [q_lst_ow, q_lst_dr, q_lst_sa, q_lst_hs, q_lst_fr]
      refine ⟨?_, ?_, ?_, ?_, ?_, fun hh p hp => ?_⟩
      · simp only [wr_ap, true_and, and_true, false_and, and_false, reduceIte] <;> (repeat' split) <;> omega
      · simp only [wr_ap, true_and, and_true, false_and, and_false, reduceIte] <;> (repeat' split) <;> omega
      · simp only [wr_ap, true_and, and_true, false_and, and_false, reduceIte] <;> (repeat' split) <;> omega
      · simp only [wr_ap, true_and, and_true, false_and, and_false, reduceIte] <;> (repeat' split) <;> omega
      · simp only [wr_ap, true_and, and_true, false_and, and_false, reduceIte] <;> (repeat' split) <;> omega
      · rw [q_lst_ls _ (i : Int) j p hp]; have d7 := d6 (by first | exact hh | omega) p hp; simp only [wr_ap, true_and, and_true, false_and, and_false, reduceIte] <;> (repeat' split) <;> omega
    · rw [q_lst_rk _ (i : Int) k hk]; have d8 := rk9 k hk; simp only [wr_ap, true_and, and_true, false_and, and_false, reduceIte] <;> (repeat' split) <;> omega
    · rw [q_lst_s0]; simp only [wr_ap, true_and, and_true, false_and, and_false, reduceIte] <;> (repeat' split) <;> omega
    · rw [q_lst_s1]; simp only [wr_ap, true_and, and_true, false_and, and_false, reduceIte] <;> (repeat' split) <;> omega
    · rw [q_lst_s2]; simp only [wr_ap, true_and, and_true, false_and, and_false, reduceIte] <;> (repeat' split) <;> omega
    · rw [q_lst_s3]; simp only [wr_ap, true_and, and_true, false_and, and_false, reduceIte] <;> (repeat' split) <;> omega
    · rw [q_lst_s4]; simp only [wr_ap, true_and, and_true, false_and, and_false, reduceIte] <;> (repeat' split) <;> omega
    · rw [q_lst_s5]; simp only [wr_ap, true_and, and_true, false_and, and_false, reduceIte] <;> (repeat' split) <;> omega
    · rw [q_lst_s6]; simp only [wr_ap, true_and, and_true, false_and, and_false, reduceIte] <;> (repeat' split) <;> omega
    · have d9 := rb j hj; simp only [wr_ap, true_and, and_true, false_and, and_false, reduceIte] <;> (repeat' split) <;> omega
  have v1 := q_lst_s1 R (i : Int)
  have v2 := q_lst_s2 R (i : Int)
  have v5 := q_lst_s5 R (i : Int)
  have v4 := q_lst_s4 R (i : Int)
  refine lv_aload_n hx hb dX0_letRun_5 rfl (lv_at hl 1 rfl) ?_
  refine g_geti (z := ((q_lst R (i : Int)) 1)) hx hb hts hinX3 hown hG (o := t) (hd_t 0 (by decide)) (gE_T hT G _) rfl 9 (by decide) f62 (fun _ h => h) rfl (tr_s9 hv2) dX0_letRun_6 ?_
  refine lv_iload_n hx hb dX0_letRun_9 rfl (lv_at hl 3 rfl) ?_
  refine z_iadd (z := (((q_lst R (i : Int)) 1) + mi)) hx hb (by omega) dX0_letRun_10 ?_
  refine lv_aload_n hx hb dX0_letRun_11 rfl (lv_at hl 1 rfl) ?_
  refine g_geti (z := ((q_lst R (i : Int)) 2)) hx hb hts hinX3 hown hG (o := t) (hd_t 0 (by decide)) (gE_T hT G _) rfl 10 (by decide) f65 (fun _ h => h) rfl (tr_s10 hv2) dX0_letRun_12 ?_
  refine z_icmp_le (tgt := 38) hx hb (by omega) (by omega) dX0_letRun_15 (by decide) (fun c_15 => ?_) (fun c_15 => ?_)
  · skip
    refine lv_aload_n hx hb dX0_letRun_38 rfl (lv_at hl 1 rfl) ?_
    refine lv_dup hx hb dX0_letRun_39 rfl ?_
    refine g_geti (z := ((q_lst R (i : Int)) 1)) hx hb hts hinX3 hown hG (o := t) (hd_t 0 (by decide)) (gE_T hT G _) rfl 9 (by decide) f62 (fun _ h => h) rfl (tr_s9 hv2) dX0_letRun_40 ?_
    refine lv_iload_n hx hb dX0_letRun_43 rfl (lv_at hl 3 rfl) ?_
    refine z_iadd (z := (((q_lst R (i : Int)) 1) + mi)) hx hb (by omega) dX0_letRun_44 ?_
    refine g_put (F := (fun f => oT G f t)) hx hb hts hinX3 tyX3 tyX3_ok nmX3 hown hG (o := t) (hd_t 0 (by decide)) (fun f => gE_T hT G f) rfl 9 (by decide) f62 (fun _ h => h) rfl rfl (fun _ => Nat.lt_of_lt_of_le (by decide) (Nat.le_refl 15)) (fun _ => rfl) dX0_letRun_45 (fun H locs hG => ?_)
    obtain ⟨M3, hM3⟩ : ∃ X, X = (q_wr M1 t 9 (((q_lst R (i : Int)) 1) + mi)) := ⟨_, rfl⟩
    rw [← hM3] at hG
    refine lv_aload_n hx hb dX0_letRun_48 rfl (lv_at hl 1 rfl) ?_
    refine lv_dup hx hb dX0_letRun_49 rfl ?_
    refine g_geti (z := (M3 t 12)) hx hb hts hinX3 hown hG (o := t) (hd_t 0 (by decide)) (gE_T hT G _) rfl 12 (by decide) f71 (fun _ h => h) rfl rfl dX0_letRun_50 ?_
    refine lv_iconst (v := iZ 1) hx hb dX0_letRun_53 rfl ?_
    refine z_iadd (z := ((M3 t 12) + 1)) hx hb (by omega) dX0_letRun_54 ?_
    refine g_put (F := (fun f => oT G f t)) hx hb hts hinX3 tyX3 tyX3_ok nmX3 hown hG (o := t) (hd_t 0 (by decide)) (fun f => gE_T hT G f) rfl 12 (by decide) f71 (fun _ h => h) rfl rfl (fun _ => Nat.lt_of_lt_of_le (by decide) (Nat.le_refl 15)) (fun _ => rfl) dX0_letRun_55 (fun H locs hG => ?_)
    obtain ⟨M4, hM4⟩ : ∃ X, X = (q_wr M3 t 12 ((M3 t 12) + 1)) := ⟨_, rfl⟩
    rw [← hM4] at hG
    have hv5 : q_tr M4 t (q_cnt (q_lst R (i : Int)) mi) := by
      subst hM4
      subst hM3
      obtain ⟨r0, rd, rk9, r8, r9, r10, r11, r12, r13, r14, rb⟩ := hv2
      refine ⟨?_, fun j hj => ?_, fun k hk => ?_, ?_, ?_, ?_, ?_, ?_, ?_, ?_, fun j hj => ?_⟩
      · rw [q_cnt_nd]; simp only [wr_ap, true_and, and_true, false_and, and_false, reduceIte] <;> (repeat' split) <;> omega
      · rw [q_cnt_nd] at hj; obtain ⟨d1, d2, d3, d4, d5, d6⟩ := rd j hj; rw [q_cnt_ow, q_cnt_dr, q_cnt_sa, q_cnt_hs, q_cnt_fr]
        refine ⟨?_, ?_, ?_, ?_, ?_, fun hh p hp => ?_⟩
        · simp only [wr_ap, true_and, and_true, false_and, and_false, reduceIte] <;> (repeat' split) <;> omega
        · simp only [wr_ap, true_and, and_true, false_and, and_false, reduceIte] <;> (repeat' split) <;> omega
        · simp only [wr_ap, true_and, and_true, false_and, and_false, reduceIte] <;> (repeat' split) <;> omega
        · simp only [wr_ap, true_and, and_true, false_and, and_false, reduceIte] <;> (repeat' split) <;> omega
        · simp only [wr_ap, true_and, and_true, false_and, and_false, reduceIte] <;> (repeat' split) <;> omega
        · rw [q_cnt_ls _ mi j p hp]; have d7 := d6 (by first | exact hh | omega) p hp; simp only [wr_ap, true_and, and_true, false_and, and_false, reduceIte] <;> (repeat' split) <;> omega
      · rw [q_cnt_rk _ mi k hk]; have d8 := rk9 k hk; simp only [wr_ap, true_and, and_true, false_and, and_false, reduceIte] <;> (repeat' split) <;> omega
      · rw [q_cnt_s0]; simp only [wr_ap, true_and, and_true, false_and, and_false, reduceIte] <;> (repeat' split) <;> omega
      · rw [q_cnt_s1]; simp only [wr_ap, true_and, and_true, false_and, and_false, reduceIte] <;> (repeat' split) <;> omega
      · rw [q_cnt_s2]; simp only [wr_ap, true_and, and_true, false_and, and_false, reduceIte] <;> (repeat' split) <;> omega
      · rw [q_cnt_s3]; simp only [wr_ap, true_and, and_true, false_and, and_false, reduceIte] <;> (repeat' split) <;> omega
      · rw [q_cnt_s4]; simp only [wr_ap, true_and, and_true, false_and, and_false, reduceIte] <;> (repeat' split) <;> omega
      · rw [q_cnt_s5]; simp only [wr_ap, true_and, and_true, false_and, and_false, reduceIte] <;> (repeat' split) <;> omega
      · rw [q_cnt_s6]; simp only [wr_ap, true_and, and_true, false_and, and_false, reduceIte] <;> (repeat' split) <;> omega
      · have d9 := rb j hj; simp only [wr_ap, true_and, and_true, false_and, and_false, reduceIte] <;> (repeat' split) <;> omega
    have hI1 : q_inv (q_lst R (i : Int)) := inv_lst hI (by omega)
    have hI2 : q_inv (q_cnt (q_lst R (i : Int)) mi) := inv_cnt hI1 (by omega)
    have v9 : q_nd (q_cnt (q_lst R (i : Int)) mi) = q_nd R := by rw [q_cnt_nd, q_lst_nd]
    refine lv_aload_n hx hb dX0_letRun_58 rfl (lv_at hl 1 rfl) ?_
    refine lv_iload_n hx hb dX0_letRun_59 rfl (lv_at hl 2 rfl) ?_
    refine lv_aload_n hx hb dX0_letRun_60 rfl (lv_at hl 0 rfl) ?_
    refine g_get hx hb hts hinX0 hown hG (o := q) (hdc_q 0 (by decide)) (gE_C hC G _) rfl 3 (by decide) f19 (fun _ h => h) rfl dX0_letRun_61 ?_
    refine g_vcallV (b := t) (As := [.int (iZ (i : Int)), .ref (gad G (q + 3))]) (rest := []) ⟨hx, hb, hml, hown, hts⟩ (c_X3_noteRun l G M4 hdm t hT (q_cnt (q_lst R (i : Int)) mi) hv5 hI2 q hC i (by omega)) (cwV 2 hts gX0_letRun_X3_noteRun rfl rfl rfl (by decide +kernel) ⟨Nat.le_of_ble_eq_true rfl, Nat.le_of_ble_eq_true rfl⟩) hG (g_recv hG (b := t) (hd_t 0 (by decide)) (gE_T hT G _) rfl) rfl hl.1 rfl (Nat.le_of_ble_eq_true rfl) dX0_letRun_64 ⟨Nat.zero_le _, Nat.zero_le _⟩ (fun M7 H locs hp_64 hG => ?_)
    obtain ⟨ht_M7, ho_M7⟩ := hp_64
    have hoff : q_off M M7 t (t + 8) := by
      refine q_off.tr ?_ ho_M7 (by omega) (by omega)
      rw [hM4]; refine q_off.wr ?_ (by omega) (by omega)
      rw [hM3]; refine q_off.wr ?_ (by omega) (by omega)
      rw [hM1]; refine q_off.wr ?_ (by omega) (by omega)
      exact q_off.rf _ _ _
    have hl3 : ∀ p, p < 6 → (fun p => M4 (q + 3) p) p = (fun p => M (q + 3) p) p := fun p hp => by show M4 (q + 3) p = M (q + 3) p; rw [hM4, wr_off _ _ _ (by omega), hM3, wr_off _ _ _ (by omega), hM1, wr_off _ _ _ (by omega)]
    refine lv_iconst (v := iZ 1) hx hb dX0_letRun_67 rfl ?_
    exact g_zret (post := fun z M1 => z = q_rz R mi ∧ q_tr M1 t (q_rno R i mi (fun p => M (q + 3) p)) ∧ q_off M M1 t (t + 8)) (z := 1) hx hb hr hG hlocks (Or.inr rfl) (⟨by unfold q_rz; rw [if_neg (by omega)], by unfold q_rno; rw [if_neg (by omega), ← q_nr_congr _ i hl3]; exact ht_M7, hoff⟩) dX0_letRun_68
  · skip
    refine lv_aload_n hx hb dX0_letRun_18 rfl (lv_at hl 1 rfl) ?_
    refine lv_aload_n hx hb dX0_letRun_19 rfl (lv_at hl 1 rfl) ?_
    refine g_geti (z := ((q_lst R (i : Int)) 2)) hx hb hts hinX3 hown hG (o := t) (hd_t 0 (by decide)) (gE_T hT G _) rfl 10 (by decide) f65 (fun _ h => h) rfl (tr_s10 hv2) dX0_letRun_20 ?_
    refine g_put (F := (fun f => oT G f t)) hx hb hts hinX3 tyX3 tyX3_ok nmX3 hown hG (o := t) (hd_t 0 (by decide)) (fun f => gE_T hT G f) rfl 9 (by decide) f62 (fun _ h => h) rfl rfl (fun _ => Nat.lt_of_lt_of_le (by decide) (Nat.le_refl 15)) (fun _ => rfl) dX0_letRun_23 (fun H locs hG => ?_)
    obtain ⟨M8, hM8⟩ : ∃ X, X = (q_wr M1 t 9 ((q_lst R (i : Int)) 2)) := ⟨_, rfl⟩
    rw [← hM8] at hG
    refine lv_aload_n hx hb dX0_letRun_26 rfl (lv_at hl 1 rfl) ?_
    refine lv_dup hx hb dX0_letRun_27 rfl ?_
    refine g_geti (z := (M8 t 13)) hx hb hts hinX3 hown hG (o := t) (hd_t 0 (by decide)) (gE_T hT G _) rfl 13 (by decide) f68 (fun _ h => h) rfl rfl dX0_letRun_28 ?_
    refine lv_iconst (v := iZ 1) hx hb dX0_letRun_31 rfl ?_
    refine z_iadd (z := ((M8 t 13) + 1)) hx hb (by omega) dX0_letRun_32 ?_
    refine g_put (F := (fun f => oT G f t)) hx hb hts hinX3 tyX3 tyX3_ok nmX3 hown hG (o := t) (hd_t 0 (by decide)) (fun f => gE_T hT G f) rfl 13 (by decide) f68 (fun _ h => h) rfl rfl (fun _ => Nat.lt_of_lt_of_le (by decide) (Nat.le_refl 15)) (fun _ => rfl) dX0_letRun_33 (fun H locs hG => ?_)
    obtain ⟨M9, hM9⟩ : ∃ X, X = (q_wr M8 t 13 ((M8 t 13) + 1)) := ⟨_, rfl⟩
    rw [← hM9] at hG
    have hv10 : q_tr M9 t (q_drk (q_lst R (i : Int))) := by
      subst hM9
      subst hM8
      obtain ⟨r0, rd, rk9, r8, r9, r10, r11, r12, r13, r14, rb⟩ := hv2
      refine ⟨?_, fun j hj => ?_, fun k hk => ?_, ?_, ?_, ?_, ?_, ?_, ?_, ?_, fun j hj => ?_⟩
      · rw [q_drk_nd]; simp only [wr_ap, true_and, and_true, false_and, and_false, reduceIte] <;> (repeat' split) <;> omega
      · rw [q_drk_nd] at hj; obtain ⟨d1, d2, d3, d4, d5, d6⟩ := rd j hj; rw [q_drk_ow, q_drk_dr, q_drk_sa, q_drk_hs, q_drk_fr]
        refine ⟨?_, ?_, ?_, ?_, ?_, fun hh p hp => ?_⟩
        · simp only [wr_ap, true_and, and_true, false_and, and_false, reduceIte] <;> (repeat' split) <;> omega
        · simp only [wr_ap, true_and, and_true, false_and, and_false, reduceIte] <;> (repeat' split) <;> omega
        · simp only [wr_ap, true_and, and_true, false_and, and_false, reduceIte] <;> (repeat' split) <;> omega
        · simp only [wr_ap, true_and, and_true, false_and, and_false, reduceIte] <;> (repeat' split) <;> omega
        · simp only [wr_ap, true_and, and_true, false_and, and_false, reduceIte] <;> (repeat' split) <;> omega
        · rw [q_drk_ls _ j p hp]; have d7 := d6 (by first | exact hh | omega) p hp; simp only [wr_ap, true_and, and_true, false_and, and_false, reduceIte] <;> (repeat' split) <;> omega
      · rw [q_drk_rk _ k hk]; have d8 := rk9 k hk; simp only [wr_ap, true_and, and_true, false_and, and_false, reduceIte] <;> (repeat' split) <;> omega
      · rw [q_drk_s0]; simp only [wr_ap, true_and, and_true, false_and, and_false, reduceIte] <;> (repeat' split) <;> omega
      · rw [q_drk_s1]; simp only [wr_ap, true_and, and_true, false_and, and_false, reduceIte] <;> (repeat' split) <;> omega
      · rw [q_drk_s2]; simp only [wr_ap, true_and, and_true, false_and, and_false, reduceIte] <;> (repeat' split) <;> omega
      · rw [q_drk_s3]; simp only [wr_ap, true_and, and_true, false_and, and_false, reduceIte] <;> (repeat' split) <;> omega
      · rw [q_drk_s4]; simp only [wr_ap, true_and, and_true, false_and, and_false, reduceIte] <;> (repeat' split) <;> omega
      · rw [q_drk_s5]; simp only [wr_ap, true_and, and_true, false_and, and_false, reduceIte] <;> (repeat' split) <;> omega
      · rw [q_drk_s6]; simp only [wr_ap, true_and, and_true, false_and, and_false, reduceIte] <;> (repeat' split) <;> omega
      · have d9 := rb j hj; simp only [wr_ap, true_and, and_true, false_and, and_false, reduceIte] <;> (repeat' split) <;> omega
    have hoff : q_off M M9 t (t + 8) := by
      rw [hM9]; refine q_off.wr ?_ (by omega) (by omega)
      rw [hM8]; refine q_off.wr ?_ (by omega) (by omega)
      rw [hM1]; refine q_off.wr ?_ (by omega) (by omega)
      exact q_off.rf _ _ _
    refine lv_iconst (v := iZ 0) hx hb dX0_letRun_36 rfl ?_
    exact g_zret (post := fun z M1 => z = q_rz R mi ∧ q_tr M1 t (q_rno R i mi (fun p => M (q + 3) p)) ∧ q_off M M1 t (t + 8)) (z := 0) hx hb hr hG hlocks (Or.inl rfl) (⟨by unfold q_rz; rw [if_pos (by omega)], by unfold q_rno; rw [if_pos (by omega)]; exact hv10, hoff⟩) dX0_letRun_37
set_option maxHeartbeats 8000000 in
set_option maxRecDepth 100000 in
theorem c_X0_makeOrder (l : Launch) (G : gG) (M : Nat → Nat → Int) (hdm : ∀ k, k < 169 → gdm G k) (q : Nat) (hC : isC q) (t : Nat) (hT : isT t) (R : Nat → Int) (hR : q_tr M t R) (hI : q_inv R) : gMv l yX0_makeOrder wsX0_makeOrder ({ frames := 1, cells := 0, slots := 0, locals := 27 } : Room) G M [.ref (gad G q), .ref (gad G t)] (fun M1 => M1 q 2 = (q_orn R : Int) ∧ (∀ k : Nat, k < q_orn R → M1 (q + 1) k = q_orf R k) ∧ q_off M M1 q (q + 3)) := by
  refine gMv_of (cc := cX0_makeOrder) (maxL := 5) (ret := none) (by decide) rfl (Nat.le_of_ble_eq_true rfl) ?_
  intro p e s m below meth c ls hx hb hr hml hown hts hlocks hl hG
  have hown : s.vm.findClass RX0 = some m.cls := hown
  have hl : lv_has ls 5 [(0, .ref (gad G q)), (1, .ref (gad G t))] := hl
  have hd_t : ∀ r, r < 8 → gdm G (t + r) := fun r hr => hdm _ (by have h1 := (hT).1; have h2 := (hT).2; omega)
  have hdc_q : ∀ r, r < 4 → gdm G (q + r) := fun r hr => hdm _ (by rcases hC with h | h <;> omega)
  have hinX0 : ∀ w ∈ u_ws RX0 TX0 4, w ∈ wsX0_makeOrder := by decide +kernel
  have hinX3 : ∀ w ∈ u_ws RX3 TX3 15, w ∈ wsX0_makeOrder := by decide +kernel
  have f9 := hts (.fieldLink RX0 9 "DogTrials$Course" "row" "[I") (by decide +kernel)
  have f15 := hts (.fieldLink RX0 15 "DogTrials$Course" "placed" "[Z") (by decide +kernel)
  have f26 := hts (.fieldLink RX0 26 "DogTrials$Course" "length" "I") (by decide +kernel)
  have f36 := hts (.fieldLink RX0 36 "DogTrials$Trial" "dogs" "I") (by decide +kernel)
  have f43 := hts (.fieldLink RX0 43 "DogTrials$Trial" "owners" "[I") (by decide +kernel)
  have ht1 := hT.1
  have ht2 := hT.2
  have hq := hC
  unfold isC at hq
  have hnd := hI.1
  refine lv_aload_n hx hb dX0_makeOrder_0 rfl (lv_at hl 0 rfl) ?_
  refine lv_iconst (v := iZ 0) hx hb dX0_makeOrder_1 rfl ?_
  refine g_put (F := (fun f => oC G f q)) hx hb hts hinX0 tyX0 tyX0_ok nmX0 hown hG (o := q) (hdc_q 0 (by decide)) (fun f => gE_C hC G f) rfl 2 (by decide) f26 (fun _ h => h) rfl rfl (fun _ => Nat.lt_of_lt_of_le (by decide) (Nat.le_refl 4)) (fun _ => rfl) dX0_makeOrder_2 (fun H locs hG => ?_)
  obtain ⟨M1, hM1⟩ : ∃ X, X = (q_wr M q 2 0) := ⟨_, rfl⟩
  rw [← hM1] at hG
  have hR__M1 : q_tr M1 t R := by rw [hM1]; exact tr_wr hR (by omega)
  refine lv_iconst (v := iZ 0) hx hb dX0_makeOrder_5 rfl ?_
  refine lv_istore_n (lv' := [(2, .int (iZ 0)), (0, .ref (gad G q)), (1, .ref (gad G t))]) hx hb dX0_makeOrder_6 rfl hl (by decide) rfl (fun ls hl => ?_)
  have L_7 : ∀ (n_7 : Nat) (k : Nat) (x_i : Int) (Mk : Nat → Nat → Int), (x_i = (k : Int)) → (k ≤ 12) → ((∀ j : Nat, j < k → Mk (q + 2) j = 0)) → (Mk q 2 = 0) → (q_off M Mk q (q + 3)) → 12 - k < n_7 → ∀ (H : Heap) (locs : List Loc) (ls : Array Slot), gH G Mk s H locs → lv_has ls 5 [(2, .int (iZ x_i)), (0, .ref (gad G q)), (1, .ref (gad G t))] → W p l e ({ frames := 1, cells := 0, slots := 0, locals := 27 } : Room) s m [.ref (gad G q), .ref (gad G t)].toArray below meth c H locs 0 0 (MQ below (va_Qv (fun (u : Nat → Nat → Int) => (fun M1 => M1 q 2 = (q_orn R : Int) ∧ (∀ k : Nat, k < q_orn R → M1 (q + 1) k = q_orf R k) ∧ q_off M M1 q (q + 3)) u) (fun u U => gB G u U) (gA G)) [.ref (gad G q), .ref (gad G t)].toArray s 0 0 (gA G)) (F0 m 7 ls []) := by
    intro n_7
    induction n_7 with
    | zero => intro k x_i Mk he_x_i hk hrw h02 ho hm_7; exact absurd hm_7 (Nat.not_lt_zero _)
    | succ n_7 ih_7 =>
      intro k x_i Mk he_x_i hk hrw h02 ho hm_7 H locs ls hG hl
      subst he_x_i
      refine lv_iload_n hx hb dX0_makeOrder_7 rfl (lv_at hl 0 rfl) ?_
      refine lv_bipush (v := iZ (12)) hx hb dX0_makeOrder_8 (by decide) ?_
      refine z_icmp_ge (tgt := 26) hx hb (by omega) (by decide) dX0_makeOrder_10 (by decide) (fun c_10 => ?_) (fun c_10 => ?_)
      · skip
        have hRk : q_tr Mk t R := q_tr_off hR ho (by omega)
        refine lv_aload_n hx hb dX0_makeOrder_26 rfl (lv_at hl 2 rfl) ?_
        refine g_callV (b := t) (As := []) (rest := []) ⟨hx, hb, hml, hown, hts⟩ (c_X3_ownerThatRanLast l G Mk hdm t hT R hRk hI) (cwV 0 hts gX0_makeOrder_X3_ownerThatRanLast rfl rfl rfl (by decide +kernel) ⟨Nat.le_of_ble_eq_true rfl, Nat.le_of_ble_eq_true rfl⟩) hG (g_recv hG (b := t) (hd_t 0 (by decide)) (gE_T hT G _) rfl) rfl hl.1 rfl (Nat.le_of_ble_eq_true rfl) dX0_makeOrder_27 ⟨Nat.zero_le _, Nat.zero_le _⟩ (fun z2 M3 H locs hp_27 hG => ?_)
        obtain ⟨hz_27, hM_27⟩ := hp_27; replace hz_27 := hz_27.symm; subst hz_27; replace hM_27 := hM_27.symm; subst hM_27
        refine lv_istore_n (lv' := [(2, .int (iZ (q_lw R))), (0, .ref (gad G q)), (1, .ref (gad G t))]) hx hb dX0_makeOrder_30 rfl hl (by decide) rfl (fun ls hl => ?_)
        refine lv_iconst (v := iZ 0) hx hb dX0_makeOrder_31 rfl ?_
        refine lv_istore_n (lv' := [(3, .int (iZ 0)), (2, .int (iZ (q_lw R))), (0, .ref (gad G q)), (1, .ref (gad G t))]) hx hb dX0_makeOrder_32 rfl hl (by decide) rfl (fun ls hl => ?_)
        have L_33 : ∀ (n_33 : Nat) (k : Nat) (x_k : Int) (x_w : Int) (Mj : Nat → Nat → Int), (x_k = (k : Int)) → (x_w = (q_ord R k).2.2) → ((k : Int) ≤ q_nd R) → ((q_ord R k).2.1 = k) → ((∀ j : Nat, j < k → Mj (q + 1) j = (q_ord R k).1 j)) → (Mj q 2 = (k : Int)) → ((∀ i : Nat, (i : Int) < q_nd R → Mj (q + 2) i = if q_inr (q_ord R k).1 (i : Int) k = true then 1 else 0)) → (q_off M Mj q (q + 3)) → 12 - k < n_33 → ∀ (H : Heap) (locs : List Loc) (ls : Array Slot), gH G Mj s H locs → lv_has ls 5 [(3, .int (iZ x_k)), (2, .int (iZ x_w)), (0, .ref (gad G q)), (1, .ref (gad G t))] → W p l e ({ frames := 1, cells := 0, slots := 0, locals := 27 } : Room) s m [.ref (gad G q), .ref (gad G t)].toArray below meth c H locs 0 0 (MQ below (va_Qv (fun (u : Nat → Nat → Int) => (fun M1 => M1 q 2 = (q_orn R : Int) ∧ (∀ k : Nat, k < q_orn R → M1 (q + 1) k = q_orf R k) ∧ q_off M M1 q (q + 3)) u) (fun u U => gB G u U) (gA G)) [.ref (gad G q), .ref (gad G t)].toArray s 0 0 (gA G)) (F0 m 33 ls []) := by
          intro n_33
          induction n_33 with
          | zero => intro k x_k x_w Mj he_x_k he_x_w hk hln hrow hl2 hpl hoj hm_33; exact absurd hm_33 (Nat.not_lt_zero _)
          | succ n_33 ih_33 =>
            intro k x_k x_w Mj he_x_k he_x_w hk hln hrow hl2 hpl hoj hm_33 H locs ls hG hl
            subst he_x_k
            subst he_x_w
            have hRj : q_tr Mj t R := q_tr_off hR hoj (by omega)
            have how := q_ord_ow hI k
            refine lv_iload_n hx hb dX0_makeOrder_33 rfl (lv_at hl 0 rfl) ?_
            refine lv_aload_n hx hb dX0_makeOrder_34 rfl (lv_at hl 3 rfl) ?_
            refine g_geti (z := (q_nd R)) hx hb hts hinX3 hown hG (o := t) (hd_t 0 (by decide)) (gE_T hT G _) rfl 0 (by decide) f36 (fun _ h => h) rfl (tr_nd hRj) dX0_makeOrder_35 ?_
            refine z_icmp_ge (tgt := 111) hx hb (by omega) (by omega) dX0_makeOrder_38 (by decide) (fun c_38 => ?_) (fun c_38 => ?_)
            · skip
              exact g_vret hx hb hr hG hlocks (⟨by unfold q_orn; rw [show (q_nd R).toNat = k by omega, hln]; exact hl2, fun j hj => by unfold q_orf; unfold q_orn at hj; rw [show (q_nd R).toNat = k by omega] at hj ⊢; exact hrow j (by omega), hoj⟩) dX0_makeOrder_111
            · skip
              refine lv_aload_n hx hb dX0_makeOrder_41 rfl (lv_at hl 2 rfl) ?_
              refine lv_aload_n hx hb dX0_makeOrder_42 rfl (lv_at hl 3 rfl) ?_
              refine lv_iconst (v := iZ 0) hx hb dX0_makeOrder_43 rfl ?_
              refine lv_iload_n hx hb dX0_makeOrder_44 rfl (lv_at hl 1 rfl) ?_
              refine g_callV (b := q) (As := [.ref (gad G t), .int (iZ 0), .int (iZ (q_ord R k).2.2)]) (rest := []) ⟨hx, hb, hml, hown, hts⟩ (c_X0_nextDog l G Mj hdm q hC t hT R hRj hI (fun i => q_inr (q_ord R k).1 (i : Int) k) hpl 0 (q_ord R k).2.2 (by omega) (by omega)) (cwV 3 hts gX0_makeOrder_X0_nextDog rfl rfl rfl (by decide +kernel) ⟨Nat.le_of_ble_eq_true rfl, Nat.le_of_ble_eq_true rfl⟩) hG (g_recv hG (b := q) (hdc_q 0 (by decide)) (gE_C hC G _) rfl) rfl hl.1 rfl (Nat.le_of_ble_eq_true rfl) dX0_makeOrder_45 ⟨Nat.zero_le _, Nat.zero_le _⟩ (fun z4 M5 H locs hp_45 hG => ?_)
              obtain ⟨hz_45, hM_45⟩ := hp_45; replace hz_45 := hz_45.symm; subst hz_45; replace hM_45 := hM_45.symm; subst hM_45
              have hn0 := q_nx_rg (R := R) (pl := (fun i => q_inr (q_ord R k).1 (i : Int) k)) (st := 0) (o := (q_ord R k).2.2)
              refine lv_istore (lv' := [(4, .int (iZ (q_nx R (fun i => q_inr (q_ord R k).1 (i : Int) k) 0 (q_ord R k).2.2))), (3, .int (iZ (k : Int))), (2, .int (iZ (q_ord R k).2.2)), (0, .ref (gad G q)), (1, .ref (gad G t))]) hx hb dX0_makeOrder_48 hl (by decide) rfl (fun ls hl => ?_)
              refine lv_iload hx hb dX0_makeOrder_50 (lv_at hl 0 rfl) ?_
              refine lv_bipush (v := iZ (-9)) hx hb dX0_makeOrder_52 (by decide) ?_
              refine z_icmp_ne (tgt := 66) hx hb (by omega) (by decide) dX0_makeOrder_54 (by decide) (fun c_54 => ?_) (fun c_54 => ?_)
              · skip
                refine lv_iload hx hb dX0_makeOrder_66 (lv_at hl 0 rfl) ?_
                refine lv_bipush (v := iZ (-9)) hx hb dX0_makeOrder_68 (by decide) ?_
                refine z_icmp_ne (tgt := 74) hx hb (by omega) (by decide) dX0_makeOrder_70 (by decide) (fun c_70 => ?_) (fun c_70 => ?_)
                · skip
                  have hx9 : (q_stp R (q_ord R k).1 k (q_ord R k).2.2) = (q_nx R (fun i => q_inr (q_ord R k).1 (i : Int) k) 0 (q_ord R k).2.2) := by unfold q_stp; first | (rw [if_neg (by omega)]; done) | (rw [if_pos (by omega)]; done)
                  obtain ⟨x9, hx1, hx2, hx3, hx4⟩ : ∃ x9 : Nat, (x9 : Int) < q_nd R ∧ (q_stp R (q_ord R k).1 k (q_ord R k).2.2) = (x9 : Int) ∧ q_inr (q_ord R k).1 (x9 : Int) k = false ∧ (q_sa R x9 = 0 ∨ q_sa R x9 = 2) := (q_stp_ok (R := R) (f := (q_ord R k).1) (n := k) (o := (q_ord R k).2.2)).resolve_left (by omega)
                  rw [show (q_nx R (fun i => q_inr (q_ord R k).1 (i : Int) k) 0 (q_ord R k).2.2) = (x9 : Int) from hx9.symm.trans hx2] at hl
                  refine lv_aload_n hx hb dX0_makeOrder_74 rfl (lv_at hl 3 rfl) ?_
                  refine g_get hx hb hts hinX0 hown hG (o := q) (hdc_q 0 (by decide)) (gE_C hC G _) rfl 0 (by decide) f9 (fun _ h => h) rfl dX0_makeOrder_75 ?_
                  refine lv_iload_n hx hb dX0_makeOrder_78 rfl (lv_at hl 1 rfl) ?_
                  refine lv_iload hx hb dX0_makeOrder_79 (lv_at hl 0 rfl) ?_
                  refine g_iast (j := k) hx hb hG (o := (q + 1)) (hdc_q 1 (by decide)) (fun f => gE_c1 hC G f) (by omega) (by omega) (by omega) dX0_makeOrder_81 (fun H locs hG => ?_)
                  obtain ⟨M6, hM6⟩ : ∃ X, X = (q_wr Mj (q + 1) k (x9 : Int)) := ⟨_, rfl⟩
                  rw [← hM6] at hG
                  have hRj__M6 : q_tr M6 t R := by rw [hM6]; exact tr_wr hRj (by omega)
                  refine lv_aload_n hx hb dX0_makeOrder_82 rfl (lv_at hl 3 rfl) ?_
                  refine lv_iload_n hx hb dX0_makeOrder_83 rfl (lv_at hl 1 rfl) ?_
                  refine lv_iconst (v := iZ 1) hx hb dX0_makeOrder_84 rfl ?_
                  refine z_iadd (z := ((k : Int) + 1)) hx hb (by omega) dX0_makeOrder_85 ?_
                  refine g_put (F := (fun f => oC G f q)) hx hb hts hinX0 tyX0 tyX0_ok nmX0 hown hG (o := q) (hdc_q 0 (by decide)) (fun f => gE_C hC G f) rfl 2 (by decide) f26 (fun _ h => h) rfl rfl (fun _ => Nat.lt_of_lt_of_le (by decide) (Nat.le_refl 4)) (fun _ => rfl) dX0_makeOrder_86 (fun H locs hG => ?_)
                  obtain ⟨M7, hM7⟩ : ∃ X, X = (q_wr M6 q 2 ((k : Int) + 1)) := ⟨_, rfl⟩
                  rw [← hM7] at hG
                  have hRj__M7 : q_tr M7 t R := by rw [hM7]; exact tr_wr hRj__M6 (by omega)
                  refine lv_aload_n hx hb dX0_makeOrder_89 rfl (lv_at hl 3 rfl) ?_
                  refine g_get hx hb hts hinX0 hown hG (o := q) (hdc_q 0 (by decide)) (gE_C hC G _) rfl 1 (by decide) f15 (fun _ h => h) rfl dX0_makeOrder_90 ?_
                  refine lv_iload hx hb dX0_makeOrder_93 (lv_at hl 0 rfl) ?_
                  refine lv_iconst (v := iZ 1) hx hb dX0_makeOrder_95 rfl ?_
                  refine g_zast (j := x9) hx hb hG (o := (q + 2)) (hdc_q 2 (by decide)) (fun f => gE_c2 hC G f) (by omega) (by omega) (by omega) (by omega) dX0_makeOrder_96 (fun H locs hG => ?_)
                  obtain ⟨M8, hM8⟩ : ∃ X, X = (q_wr M7 (q + 2) x9 1) := ⟨_, rfl⟩
                  rw [← hM8] at hG
                  have hRj__M8 : q_tr M8 t R := by rw [hM8]; exact tr_wr hRj__M7 (by omega)
                  have hRm : q_tr M8 t R := q_tr_off hR (show q_off M M8 q (q + 3) by rw [hM8, hM7, hM6]; exact q_off.wr (q_off.wr (q_off.wr hoj (by omega) (by omega)) (by omega) (by omega)) (by omega) (by omega)) (by omega)
                  refine lv_aload_n hx hb dX0_makeOrder_97 rfl (lv_at hl 4 rfl) ?_
                  refine g_get hx hb hts hinX3 hown hG (o := t) (hd_t 0 (by decide)) (gE_T hT G _) rfl 1 (by decide) f43 (fun _ h => h) rfl dX0_makeOrder_98 ?_
                  refine lv_iload hx hb dX0_makeOrder_101 (lv_at hl 0 rfl) ?_
                  refine g_iald (z := (q_ow R x9)) (j := x9) hx hb hG (o := (t + 1)) (hd_t 1 (by decide)) (gE_tI hT 1 (by decide) G _) (by omega) (by omega) (by omega) (tr_ow hRm (i := x9) (by omega)) dX0_makeOrder_103 ?_
                  refine lv_istore_n (lv' := [(2, .int (iZ (q_ow R x9))), (4, .int (iZ (x9 : Int))), (3, .int (iZ (k : Int))), (0, .ref (gad G q)), (1, .ref (gad G t))]) hx hb dX0_makeOrder_104 rfl hl (by decide) rfl (fun ls hl => ?_)
                  refine z_iinc (z := ((k : Int) + 1)) (lv' := [(3, .int (iZ ((k : Int) + 1))), (2, .int (iZ (q_ow R x9))), (4, .int (iZ (x9 : Int))), (0, .ref (gad G q)), (1, .ref (gad G t))]) hx hb dX0_makeOrder_105 hl (k := 2) rfl (by omega) (by decide) rfl (fun ls hl => ?_)
                  refine lv_goto (tgt := 33) hx hb dX0_makeOrder_108 (by decide) ?_
                  have hnx := q_ord_next (R := R) (k := k) (x := (q_stp R (q_ord R k).1 k (q_ord R k).2.2)) (by rw [hln]) (by omega)
                  rw [hln] at hnx
                  have hin := fun (z : Int) => q_inr_up (f := (q_ord R k).1) (n := k) (x := (q_stp R (q_ord R k).1 k (q_ord R k).2.2)) z
                  exact ih_33 (k + 1) ((k : Int) + 1) (q_ow R x9) M8 (by omega) (by rw [hnx]; show q_ow R x9 = q_ow R (q_stp R (q_ord R k).1 k (q_ord R k).2.2).toNat; rw [hx2, Int.toNat_natCast]) (by omega) (by rw [hnx]) (fun j hj => by rw [hnx]; show M8 (q + 1) j = q_up (q_ord R k).1 k (q_stp R (q_ord R k).1 k (q_ord R k).2.2) j; rw [hM8, hM7, wr_off _ _ _ (by omega), wr_off _ _ _ (by omega), hM6, wr_ap]; by_cases e8 : j = k; (subst e8; rw [up_eq, if_pos ⟨rfl, rfl⟩]; exact hx2.symm); (rw [up_ne _ _ e8, if_neg (fun h => e8 h.2)]; exact hrow j (by omega))) (by rw [hM8, wr_off _ _ _ (by omega), hM7, wr_eq]; omega) (fun i hi => by rw [hnx]; show M8 (q + 2) i = if q_inr (q_up (q_ord R k).1 k (q_stp R (q_ord R k).1 k (q_ord R k).2.2)) (i : Int) (k + 1) = true then 1 else 0; rw [hin, hM8, wr_ap, hM7, wr_off _ _ _ (by omega), hM6, wr_off _ _ _ (by omega), hpl i hi]; by_cases e8 : (i : Int) = (q_stp R (q_ord R k).1 k (q_ord R k).2.2); (rw [if_pos ⟨rfl, by omega⟩, e8]; simp); (rw [if_neg (by omega), show decide ((i : Int) = (q_stp R (q_ord R k).1 k (q_ord R k).2.2)) = false from decide_eq_false e8, Bool.or_false])) (by rw [hM8, hM7, hM6]; exact q_off.wr (q_off.wr (q_off.wr hoj (by omega) (by omega)) (by omega) (by omega)) (by omega) (by omega)) (by omega) _ _ _ hG (lv_sub hl [0, 1, 3, 4] rfl)
                · skip
                  have hst0 : (q_stp R (q_ord R k).1 k (q_ord R k).2.2) = -9 := by unfold q_stp; rw [if_pos (by omega)]; omega
                  have hstay : q_ord R (q_nd R).toNat = q_ord R k := by have h9 := q_ord_stay (R := R) (k := k) (by rw [hln]; exact hst0) ((q_nd R).toNat - k); rw [show k + ((q_nd R).toNat - k) = (q_nd R).toNat by omega] at h9; exact h9
                  exact g_vret hx hb hr hG hlocks (⟨by unfold q_orn; rw [hstay, hln]; exact hl2, fun j hj => by unfold q_orf; unfold q_orn at hj; rw [hstay] at hj ⊢; exact hrow j (by omega), hoj⟩) dX0_makeOrder_73
              · skip
                refine lv_aload_n hx hb dX0_makeOrder_57 rfl (lv_at hl 3 rfl) ?_
                refine lv_aload_n hx hb dX0_makeOrder_58 rfl (lv_at hl 4 rfl) ?_
                refine lv_iconst (v := iZ 2) hx hb dX0_makeOrder_59 rfl ?_
                refine lv_iload_n hx hb dX0_makeOrder_60 rfl (lv_at hl 2 rfl) ?_
                refine g_callV (b := q) (As := [.ref (gad G t), .int (iZ 2), .int (iZ (q_ord R k).2.2)]) (rest := []) ⟨hx, hb, hml, hown, hts⟩ (c_X0_nextDog l G Mj hdm q hC t hT R hRj hI (fun i => q_inr (q_ord R k).1 (i : Int) k) hpl 2 (q_ord R k).2.2 (by omega) (by omega)) (cwV 3 hts gX0_makeOrder_X0_nextDog rfl rfl rfl (by decide +kernel) ⟨Nat.le_of_ble_eq_true rfl, Nat.le_of_ble_eq_true rfl⟩) hG (g_recv hG (b := q) (hdc_q 0 (by decide)) (gE_C hC G _) rfl) rfl hl.1 rfl (Nat.le_of_ble_eq_true rfl) dX0_makeOrder_61 ⟨Nat.zero_le _, Nat.zero_le _⟩ (fun z9 M10 H locs hp_61 hG => ?_)
                obtain ⟨hz_61, hM_61⟩ := hp_61; replace hz_61 := hz_61.symm; subst hz_61; replace hM_61 := hM_61.symm; subst hM_61
                have hn2 := q_nx_rg (R := R) (pl := (fun i => q_inr (q_ord R k).1 (i : Int) k)) (st := 2) (o := (q_ord R k).2.2)
                refine lv_istore (lv' := [(4, .int (iZ (q_nx R (fun i => q_inr (q_ord R k).1 (i : Int) k) 2 (q_ord R k).2.2))), (3, .int (iZ (k : Int))), (2, .int (iZ (q_ord R k).2.2)), (0, .ref (gad G q)), (1, .ref (gad G t))]) hx hb dX0_makeOrder_64 hl (by decide) rfl (fun ls hl => ?_)
                refine lv_iload hx hb dX0_makeOrder_66 (lv_at hl 0 rfl) ?_
                refine lv_bipush (v := iZ (-9)) hx hb dX0_makeOrder_68 (by decide) ?_
                refine z_icmp_ne (tgt := 74) hx hb (by omega) (by decide) dX0_makeOrder_70 (by decide) (fun c_70 => ?_) (fun c_70 => ?_)
                · skip
                  have hx9 : (q_stp R (q_ord R k).1 k (q_ord R k).2.2) = (q_nx R (fun i => q_inr (q_ord R k).1 (i : Int) k) 2 (q_ord R k).2.2) := by unfold q_stp; first | (rw [if_neg (by omega)]; done) | (rw [if_pos (by omega)]; done)
                  obtain ⟨x9, hx1, hx2, hx3, hx4⟩ : ∃ x9 : Nat, (x9 : Int) < q_nd R ∧ (q_stp R (q_ord R k).1 k (q_ord R k).2.2) = (x9 : Int) ∧ q_inr (q_ord R k).1 (x9 : Int) k = false ∧ (q_sa R x9 = 0 ∨ q_sa R x9 = 2) := (q_stp_ok (R := R) (f := (q_ord R k).1) (n := k) (o := (q_ord R k).2.2)).resolve_left (by omega)
                  rw [show (q_nx R (fun i => q_inr (q_ord R k).1 (i : Int) k) 2 (q_ord R k).2.2) = (x9 : Int) from hx9.symm.trans hx2] at hl
                  refine lv_aload_n hx hb dX0_makeOrder_74 rfl (lv_at hl 3 rfl) ?_
                  refine g_get hx hb hts hinX0 hown hG (o := q) (hdc_q 0 (by decide)) (gE_C hC G _) rfl 0 (by decide) f9 (fun _ h => h) rfl dX0_makeOrder_75 ?_
                  refine lv_iload_n hx hb dX0_makeOrder_78 rfl (lv_at hl 1 rfl) ?_
                  refine lv_iload hx hb dX0_makeOrder_79 (lv_at hl 0 rfl) ?_
                  refine g_iast (j := k) hx hb hG (o := (q + 1)) (hdc_q 1 (by decide)) (fun f => gE_c1 hC G f) (by omega) (by omega) (by omega) dX0_makeOrder_81 (fun H locs hG => ?_)
                  obtain ⟨M11, hM11⟩ : ∃ X, X = (q_wr Mj (q + 1) k (x9 : Int)) := ⟨_, rfl⟩
                  rw [← hM11] at hG
                  have hRj__M11 : q_tr M11 t R := by rw [hM11]; exact tr_wr hRj (by omega)
                  refine lv_aload_n hx hb dX0_makeOrder_82 rfl (lv_at hl 3 rfl) ?_
                  refine lv_iload_n hx hb dX0_makeOrder_83 rfl (lv_at hl 1 rfl) ?_
                  refine lv_iconst (v := iZ 1) hx hb dX0_makeOrder_84 rfl ?_
                  refine z_iadd (z := ((k : Int) + 1)) hx hb (by omega) dX0_makeOrder_85 ?_
                  refine g_put (F := (fun f => oC G f q)) hx hb hts hinX0 tyX0 tyX0_ok nmX0 hown hG (o := q) (hdc_q 0 (by decide)) (fun f => gE_C hC G f) rfl 2 (by decide) f26 (fun _ h => h) rfl rfl (fun _ => Nat.lt_of_lt_of_le (by decide) (Nat.le_refl 4)) (fun _ => rfl) dX0_makeOrder_86 (fun H locs hG => ?_)
                  obtain ⟨M12, hM12⟩ : ∃ X, X = (q_wr M11 q 2 ((k : Int) + 1)) := ⟨_, rfl⟩
                  rw [← hM12] at hG
                  have hRj__M12 : q_tr M12 t R := by rw [hM12]; exact tr_wr hRj__M11 (by omega)
                  refine lv_aload_n hx hb dX0_makeOrder_89 rfl (lv_at hl 3 rfl) ?_
                  refine g_get hx hb hts hinX0 hown hG (o := q) (hdc_q 0 (by decide)) (gE_C hC G _) rfl 1 (by decide) f15 (fun _ h => h) rfl dX0_makeOrder_90 ?_
                  refine lv_iload hx hb dX0_makeOrder_93 (lv_at hl 0 rfl) ?_
                  refine lv_iconst (v := iZ 1) hx hb dX0_makeOrder_95 rfl ?_
                  refine g_zast (j := x9) hx hb hG (o := (q + 2)) (hdc_q 2 (by decide)) (fun f => gE_c2 hC G f) (by omega) (by omega) (by omega) (by omega) dX0_makeOrder_96 (fun H locs hG => ?_)
                  obtain ⟨M13, hM13⟩ : ∃ X, X = (q_wr M12 (q + 2) x9 1) := ⟨_, rfl⟩
                  rw [← hM13] at hG
                  have hRj__M13 : q_tr M13 t R := by rw [hM13]; exact tr_wr hRj__M12 (by omega)
                  have hRm : q_tr M13 t R := q_tr_off hR (show q_off M M13 q (q + 3) by rw [hM13, hM12, hM11]; exact q_off.wr (q_off.wr (q_off.wr hoj (by omega) (by omega)) (by omega) (by omega)) (by omega) (by omega)) (by omega)
                  refine lv_aload_n hx hb dX0_makeOrder_97 rfl (lv_at hl 4 rfl) ?_
                  refine g_get hx hb hts hinX3 hown hG (o := t) (hd_t 0 (by decide)) (gE_T hT G _) rfl 1 (by decide) f43 (fun _ h => h) rfl dX0_makeOrder_98 ?_
                  refine lv_iload hx hb dX0_makeOrder_101 (lv_at hl 0 rfl) ?_
                  refine g_iald (z := (q_ow R x9)) (j := x9) hx hb hG (o := (t + 1)) (hd_t 1 (by decide)) (gE_tI hT 1 (by decide) G _) (by omega) (by omega) (by omega) (tr_ow hRm (i := x9) (by omega)) dX0_makeOrder_103 ?_
                  refine lv_istore_n (lv' := [(2, .int (iZ (q_ow R x9))), (4, .int (iZ (x9 : Int))), (3, .int (iZ (k : Int))), (0, .ref (gad G q)), (1, .ref (gad G t))]) hx hb dX0_makeOrder_104 rfl hl (by decide) rfl (fun ls hl => ?_)
                  refine z_iinc (z := ((k : Int) + 1)) (lv' := [(3, .int (iZ ((k : Int) + 1))), (2, .int (iZ (q_ow R x9))), (4, .int (iZ (x9 : Int))), (0, .ref (gad G q)), (1, .ref (gad G t))]) hx hb dX0_makeOrder_105 hl (k := 2) rfl (by omega) (by decide) rfl (fun ls hl => ?_)
                  refine lv_goto (tgt := 33) hx hb dX0_makeOrder_108 (by decide) ?_
                  have hnx := q_ord_next (R := R) (k := k) (x := (q_stp R (q_ord R k).1 k (q_ord R k).2.2)) (by rw [hln]) (by omega)
                  rw [hln] at hnx
                  have hin := fun (z : Int) => q_inr_up (f := (q_ord R k).1) (n := k) (x := (q_stp R (q_ord R k).1 k (q_ord R k).2.2)) z
                  exact ih_33 (k + 1) ((k : Int) + 1) (q_ow R x9) M13 (by omega) (by rw [hnx]; show q_ow R x9 = q_ow R (q_stp R (q_ord R k).1 k (q_ord R k).2.2).toNat; rw [hx2, Int.toNat_natCast]) (by omega) (by rw [hnx]) (fun j hj => by rw [hnx]; show M13 (q + 1) j = q_up (q_ord R k).1 k (q_stp R (q_ord R k).1 k (q_ord R k).2.2) j; rw [hM13, hM12, wr_off _ _ _ (by omega), wr_off _ _ _ (by omega), hM11, wr_ap]; by_cases e8 : j = k; (subst e8; rw [up_eq, if_pos ⟨rfl, rfl⟩]; exact hx2.symm); (rw [up_ne _ _ e8, if_neg (fun h => e8 h.2)]; exact hrow j (by omega))) (by rw [hM13, wr_off _ _ _ (by omega), hM12, wr_eq]; omega) (fun i hi => by rw [hnx]; show M13 (q + 2) i = if q_inr (q_up (q_ord R k).1 k (q_stp R (q_ord R k).1 k (q_ord R k).2.2)) (i : Int) (k + 1) = true then 1 else 0; rw [hin, hM13, wr_ap, hM12, wr_off _ _ _ (by omega), hM11, wr_off _ _ _ (by omega), hpl i hi]; by_cases e8 : (i : Int) = (q_stp R (q_ord R k).1 k (q_ord R k).2.2); (rw [if_pos ⟨rfl, by omega⟩, e8]; simp); (rw [if_neg (by omega), show decide ((i : Int) = (q_stp R (q_ord R k).1 k (q_ord R k).2.2)) = false from decide_eq_false e8, Bool.or_false])) (by rw [hM13, hM12, hM11]; exact q_off.wr (q_off.wr (q_off.wr hoj (by omega) (by omega)) (by omega) (by omega)) (by omega) (by omega)) (by omega) _ _ _ hG (lv_sub hl [0, 1, 3, 4] rfl)
                · skip
                  have hst0 : (q_stp R (q_ord R k).1 k (q_ord R k).2.2) = -9 := by unfold q_stp; rw [if_pos (by omega)]; omega
                  have hstay : q_ord R (q_nd R).toNat = q_ord R k := by have h9 := q_ord_stay (R := R) (k := k) (by rw [hln]; exact hst0) ((q_nd R).toNat - k); rw [show k + ((q_nd R).toNat - k) = (q_nd R).toNat by omega] at h9; exact h9
                  exact g_vret hx hb hr hG hlocks (⟨by unfold q_orn; rw [hstay, hln]; exact hl2, fun j hj => by unfold q_orf; unfold q_orn at hj; rw [hstay] at hj ⊢; exact hrow j (by omega), hoj⟩) dX0_makeOrder_73
        exact L_33 _ 0 0 (q_lw R) Mk rfl rfl (by omega) rfl (fun j h => absurd h (Nat.not_lt_zero _)) h02 (fun i hi => by rw [hrw i (by omega)]; rfl) ho (Nat.lt_succ_self _) _ _ _ hG (lv_sub hl [0, 1, 2, 3] rfl)
      · skip
        refine lv_aload_n hx hb dX0_makeOrder_13 rfl (lv_at hl 1 rfl) ?_
        refine g_get hx hb hts hinX0 hown hG (o := q) (hdc_q 0 (by decide)) (gE_C hC G _) rfl 1 (by decide) f15 (fun _ h => h) rfl dX0_makeOrder_14 ?_
        refine lv_iload_n hx hb dX0_makeOrder_17 rfl (lv_at hl 0 rfl) ?_
        refine lv_iconst (v := iZ 0) hx hb dX0_makeOrder_18 rfl ?_
        refine g_zast (j := k) hx hb hG (o := (q + 2)) (hdc_q 2 (by decide)) (fun f => gE_c2 hC G f) (by omega) (by omega) (by omega) (by omega) dX0_makeOrder_19 (fun H locs hG => ?_)
        obtain ⟨M14, hM14⟩ : ∃ X, X = (q_wr Mk (q + 2) k 0) := ⟨_, rfl⟩
        rw [← hM14] at hG
        refine z_iinc (z := ((k : Int) + 1)) (lv' := [(2, .int (iZ ((k : Int) + 1))), (0, .ref (gad G q)), (1, .ref (gad G t))]) hx hb dX0_makeOrder_20 hl (k := 0) rfl (by omega) (by decide) rfl (fun ls hl => ?_)
        refine lv_goto (tgt := 7) hx hb dX0_makeOrder_23 (by decide) ?_
        exact ih_7 (k + 1) ((k : Int) + 1) M14 (by omega) (by omega) (fun j hj => by rw [hM14, wr_ap]; split; rfl; (exact hrw j (by omega))) (by rw [hM14, wr_off _ _ _ (by omega)]; exact h02) (by rw [hM14]; exact q_off.wr ho (by omega) (by omega)) (by omega) _ _ _ hG (lv_sub hl [0, 1, 2] rfl)
  exact L_7 _ 0 0 M1 rfl (by omega) (fun j h => absurd h (Nat.not_lt_zero _)) (by rw [hM1, wr_eq]) (by rw [hM1]; exact q_off.wr (q_off.rf _ _ _) (by omega) (by omega)) (Nat.lt_succ_self _) _ _ _ hG (lv_sub hl [0, 1, 2] rfl)
