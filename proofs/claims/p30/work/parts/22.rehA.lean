set_option maxHeartbeats 4000000 in
set_option maxRecDepth 100000 in
theorem c_X2_takeOut (l : Launch) (G : gG) (M : Nat → Nat → Int) (hdm : ∀ k, k < 169 → gdm G k) (R : Nat → Int) (hR : q_tr M 16 R) (hI : q_inv R) (d : Int) (hd : -2147483648 ≤ d ∧ d < 2147483648) : gMi l yX2_takeOut wsX2_takeOut ({ frames := 1, cells := 0, slots := 0, locals := 21 } : Room) G M [.ref (gad G 163), .int (iZ d)] (fun z M1 => z = (if 0 ≤ d ∧ d < q_nd R ∧ q_sa R (d).toNat ≠ 3 then 1 else 0) ∧ q_tr M1 16 (if 0 ≤ d ∧ d < q_nd R ∧ q_sa R (d).toNat ≠ 3 then q_gon R d.toNat else R) ∧ q_rh M M1) := by
  refine gMi_of (cc := cX2_takeOut) (maxL := 2) (ret := some .boolean) (by decide) rfl (Nat.le_of_ble_eq_true rfl) ?_
  intro p e s m below meth c ls hx hb hr hml hown hts hlocks hl hG
  have hown : s.vm.findClass RX2 = some m.cls := hown
  have hl : lv_has ls 2 [(0, .ref (gad G 163)), (1, .int (iZ d))] := hl
  have hinX2 : ∀ w ∈ u_ws RX2 TX2 3, w ∈ wsX2_takeOut := by decide +kernel
  have hinX3 : ∀ w ∈ u_ws RX3 TX3 15, w ∈ wsX2_takeOut := by decide +kernel
  have f12 := hts (.fieldLink RX2 12 "DogTrials$Rehearsal" "copy" "LDogTrials$Trial;") (by decide +kernel)
  have f88 := hts (.fieldLink RX2 88 "DogTrials$Trial" "states" "[I") (by decide +kernel)
  have hnd := hI.1
  refine lv_aload_n hx hb dX2_takeOut_0 rfl (lv_at hl 0 rfl) ?_
  refine g_get hx hb hts hinX2 hown hG (o := 163) (hdm 163 (by decide)) rfl rfl 0 (by decide) f12 (fun _ h => h) rfl dX2_takeOut_1 ?_
  refine lv_iload_n hx hb dX2_takeOut_4 rfl (lv_at hl 1 rfl) ?_
  refine g_callV (b := 16) (As := [.int (iZ d)]) (rest := []) ⟨hx, hb, hml, hown, hts⟩ (c_X3_hasDog l G M hdm 16 ⟨by decide, by decide⟩ R hR hI d (by omega)) (cwV 1 hts gX2_takeOut_X3_hasDog rfl rfl rfl (by decide +kernel) ⟨Nat.le_of_ble_eq_true rfl, Nat.le_of_ble_eq_true rfl⟩) hG (g_recv hG (b := 16) (hdm 16 (by decide)) (gE_T ⟨by decide, by decide⟩ G _) rfl) rfl hl.1 rfl (Nat.le_of_ble_eq_true rfl) dX2_takeOut_5 ⟨Nat.zero_le _, Nat.zero_le _⟩ (fun z1 M2 H locs hp_5 hG => ?_)
  obtain ⟨hz_5, hM_5⟩ := hp_5; replace hz_5 := hz_5.symm; subst hz_5; replace hM_5 := hM_5.symm; subst hM_5
  refine z_ifP_eq (tgt := 24) hx hb dX2_takeOut_8 (by decide) (fun c_8 => ?_) (fun c_8 => ?_)
  · skip
    refine lv_iconst (v := iZ 0) hx hb dX2_takeOut_24 rfl ?_
    have hfr_0 : q_rh M M := q_rh.rf M
    have hfr := hfr_0
    exact g_zret (post := fun z M1 => z = (if 0 ≤ d ∧ d < q_nd R ∧ q_sa R (d).toNat ≠ 3 then 1 else 0) ∧ q_tr M1 16 (if 0 ≤ d ∧ d < q_nd R ∧ q_sa R (d).toNat ≠ 3 then q_gon R d.toNat else R) ∧ q_rh M M1) (z := 0) hx hb hr hG hlocks (Or.inl rfl) (⟨by first | (rw [if_pos (by omega)]; done) | (rw [if_neg (by omega)]; done), by first | (rw [if_pos (by omega)]; exact hR) | (rw [if_neg (by omega)]; exact hR), hfr⟩) dX2_takeOut_25
  · skip
    refine lv_aload_n hx hb dX2_takeOut_11 rfl (lv_at hl 0 rfl) ?_
    refine g_get hx hb hts hinX2 hown hG (o := 163) (hdm 163 (by decide)) rfl rfl 0 (by decide) f12 (fun _ h => h) rfl dX2_takeOut_12 ?_
    refine g_get hx hb hts hinX3 hown hG (o := 16) (hdm 16 (by decide)) (gE_T ⟨by decide, by decide⟩ G _) rfl 3 (by decide) f88 (fun _ h => h) rfl dX2_takeOut_15 ?_
    refine lv_iload_n hx hb dX2_takeOut_18 rfl (lv_at hl 1 rfl) ?_
    have hdn : d = ((d.toNat : Nat) : Int) := by omega
    refine g_iald (z := (q_sa R ((d.toNat)))) (j := ((d.toNat))) hx hb hG (o := 19) (hdm 19 (by decide)) (gE_tI ⟨by decide, by decide⟩ 3 (by decide) G _) (by omega) (by omega) (by omega) (tr_sa hR (i := ((d.toNat))) (by omega)) dX2_takeOut_19 ?_
    have hdo := dok5 hI d.toNat (by omega)
    refine lv_iconst (v := iZ 3) hx hb dX2_takeOut_20 rfl ?_
    refine z_icmp_ne (tgt := 26) hx hb (by omega) (by decide) dX2_takeOut_21 (by decide) (fun c_21 => ?_) (fun c_21 => ?_)
    · skip
      refine lv_aload_n hx hb dX2_takeOut_26 rfl (lv_at hl 0 rfl) ?_
      refine g_get hx hb hts hinX2 hown hG (o := 163) (hdm 163 (by decide)) rfl rfl 0 (by decide) f12 (fun _ h => h) rfl dX2_takeOut_27 ?_
      refine g_get hx hb hts hinX3 hown hG (o := 16) (hdm 16 (by decide)) (gE_T ⟨by decide, by decide⟩ G _) rfl 3 (by decide) f88 (fun _ h => h) rfl dX2_takeOut_30 ?_
      refine lv_iload_n hx hb dX2_takeOut_33 rfl (lv_at hl 1 rfl) ?_
      refine lv_iconst (v := iZ 3) hx hb dX2_takeOut_34 rfl ?_
      refine g_iast (j := ((d.toNat))) hx hb hG (o := 19) (hdm 19 (by decide)) (fun f => gE_tI ⟨by decide, by decide⟩ 3 (by decide) G f) (by omega) (by omega) (by omega) dX2_takeOut_35 (fun H locs hG => ?_)
      obtain ⟨M3, hM3⟩ : ∃ X, X = (q_wr M 19 ((d.toNat)) 3) := ⟨_, rfl⟩
      rw [← hM3] at hG
      have hgv : q_tr M3 16 (q_gon R d.toNat) := by
        subst hM3
        obtain ⟨r0, rd, rk9, r8, r9, r10, r11, r12, r13, r14, rb⟩ := hR
        refine ⟨?_, fun j hj => ?_, fun k hk => ?_, ?_, ?_, ?_, ?_, ?_, ?_, ?_, fun j hj => ?_⟩
        · rw [q_gon_nd]; simp only [wr_ap, true_and, and_true, false_and, and_false, reduceIte] <;> (repeat' split) <;> omega
        · rw [q_gon_nd] at hj; obtain ⟨d1, d2, d3, d4, d5, d6⟩ := rd j hj; rw [q_gon_ow, q_gon_dr, q_gon_sa, q_gon_hs, q_gon_fr]
          refine ⟨?_, ?_, ?_, ?_, ?_, fun hh p hp => ?_⟩
          · simp only [wr_ap, true_and, and_true, false_and, and_false, reduceIte] <;> (repeat' split) <;> omega
          · simp only [wr_ap, true_and, and_true, false_and, and_false, reduceIte] <;> (repeat' split) <;> omega
          · simp only [wr_ap, true_and, and_true, false_and, and_false, reduceIte] <;> (repeat' split) <;> omega
          · simp only [wr_ap, true_and, and_true, false_and, and_false, reduceIte] <;> (repeat' split) <;> omega
          · simp only [wr_ap, true_and, and_true, false_and, and_false, reduceIte] <;> (repeat' split) <;> omega
          · rw [q_gon_ls _ d.toNat j p hp]; have d7 := d6 (by first | exact hh | omega) p hp; simp only [wr_ap, true_and, and_true, false_and, and_false, reduceIte] <;> (repeat' split) <;> omega
        · rw [q_gon_rk _ d.toNat k hk]; have d8 := rk9 k hk; simp only [wr_ap, true_and, and_true, false_and, and_false, reduceIte] <;> (repeat' split) <;> omega
        · rw [q_gon_s0]; simp only [wr_ap, true_and, and_true, false_and, and_false, reduceIte] <;> (repeat' split) <;> omega
        · rw [q_gon_s1]; simp only [wr_ap, true_and, and_true, false_and, and_false, reduceIte] <;> (repeat' split) <;> omega
        · rw [q_gon_s2]; simp only [wr_ap, true_and, and_true, false_and, and_false, reduceIte] <;> (repeat' split) <;> omega
        · rw [q_gon_s3]; simp only [wr_ap, true_and, and_true, false_and, and_false, reduceIte] <;> (repeat' split) <;> omega
        · rw [q_gon_s4]; simp only [wr_ap, true_and, and_true, false_and, and_false, reduceIte] <;> (repeat' split) <;> omega
        · rw [q_gon_s5]; simp only [wr_ap, true_and, and_true, false_and, and_false, reduceIte] <;> (repeat' split) <;> omega
        · rw [q_gon_s6]; simp only [wr_ap, true_and, and_true, false_and, and_false, reduceIte] <;> (repeat' split) <;> omega
        · have d9 := rb j hj; simp only [wr_ap, true_and, and_true, false_and, and_false, reduceIte] <;> (repeat' split) <;> omega
      refine lv_iconst (v := iZ 1) hx hb dX2_takeOut_36 rfl ?_
      have hfr_0 : q_rh M M := q_rh.rf M
      have hfr_M3 : q_rh M M3 := by rw [hM3]; exact q_rh.wr hfr_0 (by omega)
      have hfr := hfr_M3
      exact g_zret (post := fun z M1 => z = (if 0 ≤ d ∧ d < q_nd R ∧ q_sa R (d).toNat ≠ 3 then 1 else 0) ∧ q_tr M1 16 (if 0 ≤ d ∧ d < q_nd R ∧ q_sa R (d).toNat ≠ 3 then q_gon R d.toNat else R) ∧ q_rh M M1) (z := 1) hx hb hr hG hlocks (Or.inr rfl) (⟨by first | (rw [if_pos (by omega)]; done) | (rw [if_neg (by omega)]; done), by first | (rw [if_pos (by omega)]; exact hgv) | (rw [if_neg (by omega)]; exact hgv), hfr⟩) dX2_takeOut_37
    · skip
      refine lv_iconst (v := iZ 0) hx hb dX2_takeOut_24 rfl ?_
      have hfr_0 : q_rh M M := q_rh.rf M
      have hfr := hfr_0
      exact g_zret (post := fun z M1 => z = (if 0 ≤ d ∧ d < q_nd R ∧ q_sa R (d).toNat ≠ 3 then 1 else 0) ∧ q_tr M1 16 (if 0 ≤ d ∧ d < q_nd R ∧ q_sa R (d).toNat ≠ 3 then q_gon R d.toNat else R) ∧ q_rh M M1) (z := 0) hx hb hr hG hlocks (Or.inl rfl) (⟨by first | (rw [if_pos (by omega)]; done) | (rw [if_neg (by omega)]; done), by first | (rw [if_pos (by omega)]; exact hR) | (rw [if_neg (by omega)]; exact hR), hfr⟩) dX2_takeOut_25
set_option maxHeartbeats 4000000 in
set_option maxRecDepth 100000 in
theorem c_X2_tellInterference (l : Launch) (G : gG) (M : Nat → Nat → Int) (hdm : ∀ k, k < 169 → gdm G k) (R : Nat → Int) (hR : q_tr M 16 R) (hI : q_inv R) (d : Int) (hd : -2147483648 ≤ d ∧ d < 2147483648) (ph : Int) (hph : -2147483648 ≤ ph ∧ ph < 2147483648) : gMi l yX2_tellInterference wsX2_tellInterference ({ frames := 1, cells := 0, slots := 0, locals := 22 } : Room) G M [.ref (gad G 163), .int (iZ d), .int (iZ ph)] (fun z M1 => z = (if 0 ≤ d ∧ d < q_nd R ∧ 0 ≤ ph ∧ ph ≤ 5 ∧ q_sa R (d).toNat = 1 then 1 else 0) ∧ q_tr M1 16 (if 0 ≤ d ∧ d < q_nd R ∧ 0 ≤ ph ∧ ph ≤ 5 ∧ q_sa R (d).toNat = 1 then q_brk R d.toNat ph else R) ∧ q_rh M M1) := by
  refine gMi_of (cc := cX2_tellInterference) (maxL := 3) (ret := some .boolean) (by decide) rfl (Nat.le_of_ble_eq_true rfl) ?_
  intro p e s m below meth c ls hx hb hr hml hown hts hlocks hl hG
  have hown : s.vm.findClass RX2 = some m.cls := hown
  have hl : lv_has ls 3 [(0, .ref (gad G 163)), (1, .int (iZ d)), (2, .int (iZ ph))] := hl
  have hinX2 : ∀ w ∈ u_ws RX2 TX2 3, w ∈ wsX2_tellInterference := by decide +kernel
  have hinX3 : ∀ w ∈ u_ws RX3 TX3 15, w ∈ wsX2_tellInterference := by decide +kernel
  have f12 := hts (.fieldLink RX2 12 "DogTrials$Rehearsal" "copy" "LDogTrials$Trial;") (by decide +kernel)
  have f88 := hts (.fieldLink RX2 88 "DogTrials$Trial" "states" "[I") (by decide +kernel)
  have hnd := hI.1
  refine lv_aload_n hx hb dX2_tellInterference_0 rfl (lv_at hl 0 rfl) ?_
  refine g_get hx hb hts hinX2 hown hG (o := 163) (hdm 163 (by decide)) rfl rfl 0 (by decide) f12 (fun _ h => h) rfl dX2_tellInterference_1 ?_
  refine lv_iload_n hx hb dX2_tellInterference_4 rfl (lv_at hl 1 rfl) ?_
  refine g_callV (b := 16) (As := [.int (iZ d)]) (rest := []) ⟨hx, hb, hml, hown, hts⟩ (c_X3_hasDog l G M hdm 16 ⟨by decide, by decide⟩ R hR hI d (by omega)) (cwV 1 hts gX2_tellInterference_X3_hasDog rfl rfl rfl (by decide +kernel) ⟨Nat.le_of_ble_eq_true rfl, Nat.le_of_ble_eq_true rfl⟩) hG (g_recv hG (b := 16) (hdm 16 (by decide)) (gE_T ⟨by decide, by decide⟩ G _) rfl) rfl hl.1 rfl (Nat.le_of_ble_eq_true rfl) dX2_tellInterference_5 ⟨Nat.zero_le _, Nat.zero_le _⟩ (fun z1 M2 H locs hp_5 hG => ?_)
  obtain ⟨hz_5, hM_5⟩ := hp_5; replace hz_5 := hz_5.symm; subst hz_5; replace hM_5 := hM_5.symm; subst hM_5
  refine z_ifP_eq (tgt := 31) hx hb dX2_tellInterference_8 (by decide) (fun c_8 => ?_) (fun c_8 => ?_)
  · skip
    refine lv_iconst (v := iZ 0) hx hb dX2_tellInterference_31 rfl ?_
    have hfr_0 : q_rh M M := q_rh.rf M
    have hfr := hfr_0
    exact g_zret (post := fun z M1 => z = (if 0 ≤ d ∧ d < q_nd R ∧ 0 ≤ ph ∧ ph ≤ 5 ∧ q_sa R (d).toNat = 1 then 1 else 0) ∧ q_tr M1 16 (if 0 ≤ d ∧ d < q_nd R ∧ 0 ≤ ph ∧ ph ≤ 5 ∧ q_sa R (d).toNat = 1 then q_brk R d.toNat ph else R) ∧ q_rh M M1) (z := 0) hx hb hr hG hlocks (Or.inl rfl) (⟨by first | (rw [if_pos (by omega)]; done) | (rw [if_neg (by omega)]; done), by first | (rw [if_pos (by omega)]; exact hR) | (rw [if_neg (by omega)]; exact hR), hfr⟩) dX2_tellInterference_32
  · skip
    refine lv_iload_n hx hb dX2_tellInterference_11 rfl (lv_at hl 2 rfl) ?_
    refine g_callSN (As := [.int (iZ ph)]) (rest := []) ⟨hx, hb, hml, hown, hts⟩ (c_X5_isPhase l G M ph (by omega)) ⟨va_cnB 1 hts gX2_tellInterference_X5_isPhase_n91 rfl rfl rfl hG.2.1.2.2.2.2.2.2.2.2.2.2.1 (hts (.initialized RX5) (by decide +kernel)) (by decide +kernel) ⟨Nat.le_of_ble_eq_true rfl, Nat.le_of_ble_eq_true rfl⟩, hts (.static yX5_isPhase) (by decide +kernel), trivial⟩ hG rfl hl.1 rfl (Nat.le_of_ble_eq_true rfl) dX2_tellInterference_12 ⟨Nat.zero_le _, Nat.zero_le _⟩ (fun z3 M4 H locs hp_12 hG => ?_)
    obtain ⟨hz_12, hM_12⟩ := hp_12; replace hz_12 := hz_12.symm; subst hz_12; replace hM_12 := hM_12.symm; subst hM_12
    refine z_ifP_eq (tgt := 31) hx hb dX2_tellInterference_15 (by decide) (fun c_15 => ?_) (fun c_15 => ?_)
    · skip
      refine lv_iconst (v := iZ 0) hx hb dX2_tellInterference_31 rfl ?_
      have hfr_0 : q_rh M M := q_rh.rf M
      have hfr := hfr_0
      exact g_zret (post := fun z M1 => z = (if 0 ≤ d ∧ d < q_nd R ∧ 0 ≤ ph ∧ ph ≤ 5 ∧ q_sa R (d).toNat = 1 then 1 else 0) ∧ q_tr M1 16 (if 0 ≤ d ∧ d < q_nd R ∧ 0 ≤ ph ∧ ph ≤ 5 ∧ q_sa R (d).toNat = 1 then q_brk R d.toNat ph else R) ∧ q_rh M M1) (z := 0) hx hb hr hG hlocks (Or.inl rfl) (⟨by first | (rw [if_pos (by omega)]; done) | (rw [if_neg (by omega)]; done), by first | (rw [if_pos (by omega)]; exact hR) | (rw [if_neg (by omega)]; exact hR), hfr⟩) dX2_tellInterference_32
    · skip
      refine lv_aload_n hx hb dX2_tellInterference_18 rfl (lv_at hl 0 rfl) ?_
      refine g_get hx hb hts hinX2 hown hG (o := 163) (hdm 163 (by decide)) rfl rfl 0 (by decide) f12 (fun _ h => h) rfl dX2_tellInterference_19 ?_
      refine g_get hx hb hts hinX3 hown hG (o := 16) (hdm 16 (by decide)) (gE_T ⟨by decide, by decide⟩ G _) rfl 3 (by decide) f88 (fun _ h => h) rfl dX2_tellInterference_22 ?_
      refine lv_iload_n hx hb dX2_tellInterference_25 rfl (lv_at hl 1 rfl) ?_
      have hdn : d = ((d.toNat : Nat) : Int) := by omega
      refine g_iald (z := (q_sa R ((d.toNat)))) (j := ((d.toNat))) hx hb hG (o := 19) (hdm 19 (by decide)) (gE_tI ⟨by decide, by decide⟩ 3 (by decide) G _) (by omega) (by omega) (by omega) (tr_sa hR (i := ((d.toNat))) (by omega)) dX2_tellInterference_26 ?_
      have hdo := dok5 hI d.toNat (by omega)
      refine lv_iconst (v := iZ 1) hx hb dX2_tellInterference_27 rfl ?_
      refine z_icmp_eq (tgt := 33) hx hb (by omega) (by decide) dX2_tellInterference_28 (by decide) (fun c_28 => ?_) (fun c_28 => ?_)
      · skip
        refine lv_aload_n hx hb dX2_tellInterference_33 rfl (lv_at hl 0 rfl) ?_
        refine g_get hx hb hts hinX2 hown hG (o := 163) (hdm 163 (by decide)) rfl rfl 0 (by decide) f12 (fun _ h => h) rfl dX2_tellInterference_34 ?_
        refine lv_iload_n hx hb dX2_tellInterference_37 rfl (lv_at hl 1 rfl) ?_
        refine lv_iload_n hx hb dX2_tellInterference_38 rfl (lv_at hl 2 rfl) ?_
        refine g_vcallV (b := 16) (As := [.int (iZ ((d.toNat) : Int)), .int (iZ ph)]) (rest := []) ⟨hx, hb, hml, hown, hts⟩ (c_X3_interfereWith l G M hdm 16 ⟨by decide, by decide⟩ R hR hI d.toNat (by omega) ph) (cwV 2 hts gX2_tellInterference_X3_interfereWith rfl rfl rfl (by decide +kernel) ⟨Nat.le_of_ble_eq_true rfl, Nat.le_of_ble_eq_true rfl⟩) hG (g_recv hG (b := 16) (hdm 16 (by decide)) (gE_T ⟨by decide, by decide⟩ G _) rfl) rfl hl.1 (by rw [← hdn]; rfl) (Nat.le_of_ble_eq_true rfl) dX2_tellInterference_39 ⟨Nat.zero_le _, Nat.zero_le _⟩ (fun M6 H locs hp_39 hG => ?_)
        obtain ⟨ht_M6, ho_M6⟩ := hp_39
        refine lv_iconst (v := iZ 1) hx hb dX2_tellInterference_42 rfl ?_
        have hfr_0 : q_rh M M := q_rh.rf M
        have hfr_M6 : q_rh M M6 := q_rh.off hfr_0 ho_M6 (by omega)
        have hfr := hfr_M6
        exact g_zret (post := fun z M1 => z = (if 0 ≤ d ∧ d < q_nd R ∧ 0 ≤ ph ∧ ph ≤ 5 ∧ q_sa R (d).toNat = 1 then 1 else 0) ∧ q_tr M1 16 (if 0 ≤ d ∧ d < q_nd R ∧ 0 ≤ ph ∧ ph ≤ 5 ∧ q_sa R (d).toNat = 1 then q_brk R d.toNat ph else R) ∧ q_rh M M1) (z := 1) hx hb hr hG hlocks (Or.inr rfl) (⟨by first | (rw [if_pos (by omega)]; done) | (rw [if_neg (by omega)]; done), by first | (rw [if_pos (by omega)]; exact ht_M6) | (rw [if_neg (by omega)]; exact ht_M6), hfr⟩) dX2_tellInterference_43
      · skip
        refine lv_iconst (v := iZ 0) hx hb dX2_tellInterference_31 rfl ?_
        have hfr_0 : q_rh M M := q_rh.rf M
        have hfr := hfr_0
        exact g_zret (post := fun z M1 => z = (if 0 ≤ d ∧ d < q_nd R ∧ 0 ≤ ph ∧ ph ≤ 5 ∧ q_sa R (d).toNat = 1 then 1 else 0) ∧ q_tr M1 16 (if 0 ≤ d ∧ d < q_nd R ∧ 0 ≤ ph ∧ ph ≤ 5 ∧ q_sa R (d).toNat = 1 then q_brk R d.toNat ph else R) ∧ q_rh M M1) (z := 0) hx hb hr hG hlocks (Or.inl rfl) (⟨by first | (rw [if_pos (by omega)]; done) | (rw [if_neg (by omega)]; done), by first | (rw [if_pos (by omega)]; exact hR) | (rw [if_neg (by omega)]; exact hR), hfr⟩) dX2_tellInterference_32
set_option maxHeartbeats 4000000 in
set_option maxRecDepth 100000 in
theorem c_X2_startDay (l : Launch) (G : gG) (M : Nat → Nat → Int) (hdm : ∀ k, k < 169 → gdm G k) (R : Nat → Int) (hR : q_tr M 16 R) (hI : q_inv R) (v : Int) (hv : -2147483648 ≤ v ∧ v < 2147483648) : gMi l yX2_startDay wsX2_startDay ({ frames := 1, cells := 0, slots := 0, locals := 21 } : Room) G M [.ref (gad G 163), .int (iZ v)] (fun z M1 => z = (if 60 ≤ v ∧ v ≤ 600 then 1 else 0) ∧ q_tr M1 16 (if 60 ≤ v ∧ v ≤ 600 then q_nxt R v else R) ∧ q_rh M M1) := by
  refine gMi_of (cc := cX2_startDay) (maxL := 2) (ret := some .boolean) (by decide) rfl (Nat.le_of_ble_eq_true rfl) ?_
  intro p e s m below meth c ls hx hb hr hml hown hts hlocks hl hG
  have hown : s.vm.findClass RX2 = some m.cls := hown
  have hl : lv_has ls 2 [(0, .ref (gad G 163)), (1, .int (iZ v))] := hl
  have hinX2 : ∀ w ∈ u_ws RX2 TX2 3, w ∈ wsX2_startDay := by decide +kernel
  have f12 := hts (.fieldLink RX2 12 "DogTrials$Rehearsal" "copy" "LDogTrials$Trial;") (by decide +kernel)
  have hnd := hI.1
  refine lv_iload_n hx hb dX2_startDay_0 rfl (lv_at hl 1 rfl) ?_
  refine g_callSN (As := [.int (iZ v)]) (rest := []) ⟨hx, hb, hml, hown, hts⟩ (c_X5_isSunset l G M v (by omega)) ⟨va_cnB 1 hts gX2_startDay_X5_isSunset_n98 rfl rfl rfl hG.2.1.2.2.2.2.2.2.2.2.2.2.2.1 (hts (.initialized RX5) (by decide +kernel)) (by decide +kernel) ⟨Nat.le_of_ble_eq_true rfl, Nat.le_of_ble_eq_true rfl⟩, hts (.static yX5_isSunset) (by decide +kernel), trivial⟩ hG rfl hl.1 rfl (Nat.le_of_ble_eq_true rfl) dX2_startDay_1 ⟨Nat.zero_le _, Nat.zero_le _⟩ (fun z1 M2 H locs hp_1 hG => ?_)
  obtain ⟨hz_1, hM_1⟩ := hp_1; replace hz_1 := hz_1.symm; subst hz_1; replace hM_1 := hM_1.symm; subst hM_1
  refine z_ifP_ne (tgt := 9) hx hb dX2_startDay_4 (by decide) (fun c_4 => ?_) (fun c_4 => ?_)
  · skip
    refine lv_aload_n hx hb dX2_startDay_9 rfl (lv_at hl 0 rfl) ?_
    refine g_get hx hb hts hinX2 hown hG (o := 163) (hdm 163 (by decide)) rfl rfl 0 (by decide) f12 (fun _ h => h) rfl dX2_startDay_10 ?_
    refine lv_iload_n hx hb dX2_startDay_13 rfl (lv_at hl 1 rfl) ?_
    refine g_vcallV (b := 16) (As := [.int (iZ v)]) (rest := []) ⟨hx, hb, hml, hown, hts⟩ (c_X3_beginDay l G M hdm 16 ⟨by decide, by decide⟩ R hR hI v) (cwV 1 hts gX2_startDay_X3_beginDay rfl rfl rfl (by decide +kernel) ⟨Nat.le_of_ble_eq_true rfl, Nat.le_of_ble_eq_true rfl⟩) hG (g_recv hG (b := 16) (hdm 16 (by decide)) (gE_T ⟨by decide, by decide⟩ G _) rfl) rfl hl.1 rfl (Nat.le_of_ble_eq_true rfl) dX2_startDay_14 ⟨Nat.zero_le _, Nat.zero_le _⟩ (fun M4 H locs hp_14 hG => ?_)
    obtain ⟨ht_M4, ho_M4⟩ := hp_14
    refine lv_iconst (v := iZ 1) hx hb dX2_startDay_17 rfl ?_
    have hfr_0 : q_rh M M := q_rh.rf M
    have hfr_M4 : q_rh M M4 := q_rh.off hfr_0 ho_M4 (by omega)
    have hfr := hfr_M4
    exact g_zret (post := fun z M1 => z = (if 60 ≤ v ∧ v ≤ 600 then 1 else 0) ∧ q_tr M1 16 (if 60 ≤ v ∧ v ≤ 600 then q_nxt R v else R) ∧ q_rh M M1) (z := 1) hx hb hr hG hlocks (Or.inr rfl) (⟨by first | (rw [if_pos (by omega)]; done) | (rw [if_neg (by omega)]; done), by first | (rw [if_pos (by omega)]; exact ht_M4) | (rw [if_neg (by omega)]; exact ht_M4), hfr⟩) dX2_startDay_18
  · skip
    refine lv_iconst (v := iZ 0) hx hb dX2_startDay_7 rfl ?_
    have hfr_0 : q_rh M M := q_rh.rf M
    have hfr := hfr_0
    exact g_zret (post := fun z M1 => z = (if 60 ≤ v ∧ v ≤ 600 then 1 else 0) ∧ q_tr M1 16 (if 60 ≤ v ∧ v ≤ 600 then q_nxt R v else R) ∧ q_rh M M1) (z := 0) hx hb hr hG hlocks (Or.inl rfl) (⟨by first | (rw [if_pos (by omega)]; done) | (rw [if_neg (by omega)]; done), by first | (rw [if_pos (by omega)]; exact hR) | (rw [if_neg (by omega)]; exact hR), hfr⟩) dX2_startDay_8
set_option maxHeartbeats 4000000 in
set_option maxRecDepth 100000 in
theorem c_X2_isInOrder (l : Launch) (G : gG) (M : Nat → Nat → Int) (hdm : ∀ k, k < 169 → gdm G k) (R : Nat → Int) (hR : q_tr M 16 R) (hI : q_inv R) (d : Int) (hd : -2147483648 ≤ d ∧ d < 2147483648) (kk : Int) (hkk : -2147483648 ≤ kk ∧ kk < 2147483648) : gMi l yX2_isInOrder wsX2_isInOrder ({ frames := 3, cells := 0, slots := 0, locals := 73 } : Room) G M [.ref (gad G 163), .int (iZ d), .int (iZ kk)] (fun z M1 => z = (if 0 ≤ d ∧ d < q_nd R ∧ q_atk R kk = d then 1 else 0) ∧ q_tr M1 16 R ∧ q_rh M M1) := by
  refine gMi_of (cc := cX2_isInOrder) (maxL := 3) (ret := some .boolean) (by decide) rfl (Nat.le_of_ble_eq_true rfl) ?_
  intro p e s m below meth c ls hx hb hr hml hown hts hlocks hl hG
  have hown : s.vm.findClass RX2 = some m.cls := hown
  have hl : lv_has ls 3 [(0, .ref (gad G 163)), (1, .int (iZ d)), (2, .int (iZ kk))] := hl
  have hinX2 : ∀ w ∈ u_ws RX2 TX2 3, w ∈ wsX2_isInOrder := by decide +kernel
  have f12 := hts (.fieldLink RX2 12 "DogTrials$Rehearsal" "copy" "LDogTrials$Trial;") (by decide +kernel)
  have f21 := hts (.fieldLink RX2 21 "DogTrials$Rehearsal" "course" "LDogTrials$Course;") (by decide +kernel)
  have hnd := hI.1
  refine lv_aload_n hx hb dX2_isInOrder_0 rfl (lv_at hl 0 rfl) ?_
  refine g_get hx hb hts hinX2 hown hG (o := 163) (hdm 163 (by decide)) rfl rfl 0 (by decide) f12 (fun _ h => h) rfl dX2_isInOrder_1 ?_
  refine lv_iload_n hx hb dX2_isInOrder_4 rfl (lv_at hl 1 rfl) ?_
  refine g_callV (b := 16) (As := [.int (iZ d)]) (rest := []) ⟨hx, hb, hml, hown, hts⟩ (c_X3_hasDog l G M hdm 16 ⟨by decide, by decide⟩ R hR hI d (by omega)) (cwV 1 hts gX2_isInOrder_X3_hasDog rfl rfl rfl (by decide +kernel) ⟨Nat.le_of_ble_eq_true rfl, Nat.le_of_ble_eq_true rfl⟩) hG (g_recv hG (b := 16) (hdm 16 (by decide)) (gE_T ⟨by decide, by decide⟩ G _) rfl) rfl hl.1 rfl (Nat.le_of_ble_eq_true rfl) dX2_isInOrder_5 ⟨Nat.zero_le _, Nat.zero_le _⟩ (fun z1 M2 H locs hp_5 hG => ?_)
  obtain ⟨hz_5, hM_5⟩ := hp_5; replace hz_5 := hz_5.symm; subst hz_5; replace hM_5 := hM_5.symm; subst hM_5
  refine z_ifP_eq (tgt := 31) hx hb dX2_isInOrder_8 (by decide) (fun c_8 => ?_) (fun c_8 => ?_)
  · skip
    refine lv_iconst (v := iZ 0) hx hb dX2_isInOrder_31 rfl ?_
    have hfr_0 : q_rh M M := q_rh.rf M
    have hfr := hfr_0
    exact g_zret (post := fun z M1 => z = (if 0 ≤ d ∧ d < q_nd R ∧ q_atk R kk = d then 1 else 0) ∧ q_tr M1 16 R ∧ q_rh M M1) (z := 0) hx hb hr hG hlocks (Or.inl rfl) (⟨by first | (rw [if_pos (by omega)]; done) | (rw [if_neg (by omega)]; done), hR, hfr⟩) dX2_isInOrder_32
  · skip
    refine lv_aload_n hx hb dX2_isInOrder_11 rfl (lv_at hl 0 rfl) ?_
    refine g_get hx hb hts hinX2 hown hG (o := 163) (hdm 163 (by decide)) rfl rfl 1 (by decide) f21 (fun _ h => h) rfl dX2_isInOrder_12 ?_
    refine lv_aload_n hx hb dX2_isInOrder_15 rfl (lv_at hl 0 rfl) ?_
    refine g_get hx hb hts hinX2 hown hG (o := 163) (hdm 163 (by decide)) rfl rfl 0 (by decide) f12 (fun _ h => h) rfl dX2_isInOrder_16 ?_
    refine lv_iload_n hx hb dX2_isInOrder_19 rfl (lv_at hl 2 rfl) ?_
    refine g_callV (b := 159) (As := [.ref (gad G 16), .int (iZ kk)]) (rest := []) ⟨hx, hb, hml, hown, hts⟩ (c_X0_dogInOrder l G M hdm 159 (Or.inr rfl) 16 ⟨by decide, by decide⟩ R hR hI kk (by omega)) (cwV 2 hts gX2_isInOrder_X0_dogInOrder rfl rfl rfl (by decide +kernel) ⟨Nat.le_of_ble_eq_true rfl, Nat.le_of_ble_eq_true rfl⟩) hG (g_recv hG (b := 159) (hdm 159 (by decide)) (gE_C (Or.inr rfl) G _) rfl) rfl hl.1 rfl (Nat.le_of_ble_eq_true rfl) dX2_isInOrder_20 ⟨Nat.zero_le _, Nat.zero_le _⟩ (fun z3 M4 H locs hp_20 hG => ?_)
    obtain ⟨hz_20, ho_M4⟩ := hp_20; replace hz_20 := hz_20.symm; subst hz_20
    have hR_M4 : q_tr M4 16 R := q_tr_off hR ho_M4 (by omega)
    have hat := q_atk_in hI kk
    refine lv_iload_n hx hb dX2_isInOrder_23 rfl (lv_at hl 1 rfl) ?_
    refine z_icmp_ne (tgt := 31) hx hb (by omega) (by omega) dX2_isInOrder_24 (by decide) (fun c_24 => ?_) (fun c_24 => ?_)
    · skip
      refine lv_iconst (v := iZ 0) hx hb dX2_isInOrder_31 rfl ?_
      have hfr_0 : q_rh M M := q_rh.rf M
      have hfr_M4 : q_rh M M4 := q_rh.off hfr_0 ho_M4 (by omega)
      have hfr := hfr_M4
      exact g_zret (post := fun z M1 => z = (if 0 ≤ d ∧ d < q_nd R ∧ q_atk R kk = d then 1 else 0) ∧ q_tr M1 16 R ∧ q_rh M M1) (z := 0) hx hb hr hG hlocks (Or.inl rfl) (⟨by first | (rw [if_pos (by omega)]; done) | (rw [if_neg (by omega)]; done), hR_M4, hfr⟩) dX2_isInOrder_32
    · skip
      refine lv_iconst (v := iZ 1) hx hb dX2_isInOrder_27 rfl ?_
      refine lv_goto (tgt := 32) hx hb dX2_isInOrder_28 (by decide) ?_
      have hfr_0 : q_rh M M := q_rh.rf M
      have hfr_M4 : q_rh M M4 := q_rh.off hfr_0 ho_M4 (by omega)
      have hfr := hfr_M4
      exact g_zret (post := fun z M1 => z = (if 0 ≤ d ∧ d < q_nd R ∧ q_atk R kk = d then 1 else 0) ∧ q_tr M1 16 R ∧ q_rh M M1) (z := 1) hx hb hr hG hlocks (Or.inr rfl) (⟨by first | (rw [if_pos (by omega)]; done) | (rw [if_neg (by omega)]; done), hR_M4, hfr⟩) dX2_isInOrder_32
set_option maxHeartbeats 4000000 in
set_option maxRecDepth 100000 in
theorem c_X2_letFirstRun (l : Launch) (G : gG) (M : Nat → Nat → Int) (hdm : ∀ k, k < 169 → gdm G k) (R : Nat → Int) (hR : q_tr M 16 R) (hI : q_inv R) (pt mi : Int) (hpt : 0 ≤ pt ∧ pt ≤ 9) (hmi : 0 ≤ mi ∧ mi < 100) : gMi l yX2_letFirstRun wsX2_letFirstRun ({ frames := 3, cells := 0, slots := 0, locals := 72 } : Room) G M [.ref (gad G 163), .int (iZ pt), .int (iZ mi)] (fun z M1 => z = (if 1 ≤ mi ∧ mi ≤ 30 ∧ q_ob R = 0 ∧ q_rz R mi = 1 then 1 else 0) ∧ (1 ≤ mi ∧ mi ≤ 30 ∧ q_ob R = 0 ∧ q_rz R mi = 1 → q_tr M1 16 (q_rno R (q_first R).toNat mi (fun _ => pt))) ∧ q_rh M M1) := by
  refine gMi_of (cc := cX2_letFirstRun) (maxL := 4) (ret := some .boolean) (by decide) rfl (Nat.le_of_ble_eq_true rfl) ?_
  intro p e s m below meth c ls hx hb hr hml hown hts hlocks hl hG
  have hown : s.vm.findClass RX2 = some m.cls := hown
  have hl : lv_has ls 4 [(0, .ref (gad G 163)), (1, .int (iZ pt)), (2, .int (iZ mi))] := hl
  have hinX2 : ∀ w ∈ u_ws RX2 TX2 3, w ∈ wsX2_letFirstRun := by decide +kernel
  have f12 := hts (.fieldLink RX2 12 "DogTrials$Rehearsal" "copy" "LDogTrials$Trial;") (by decide +kernel)
  have f21 := hts (.fieldLink RX2 21 "DogTrials$Rehearsal" "course" "LDogTrials$Course;") (by decide +kernel)
  have hnd := hI.1
  have hob := q_ob_in R
  refine lv_aload_n hx hb dX2_letFirstRun_0 rfl (lv_at hl 0 rfl) ?_
  refine g_get hx hb hts hinX2 hown hG (o := 163) (hdm 163 (by decide)) rfl rfl 1 (by decide) f21 (fun _ h => h) rfl dX2_letFirstRun_1 ?_
  refine lv_aload_n hx hb dX2_letFirstRun_4 rfl (lv_at hl 0 rfl) ?_
  refine g_get hx hb hts hinX2 hown hG (o := 163) (hdm 163 (by decide)) rfl rfl 0 (by decide) f12 (fun _ h => h) rfl dX2_letFirstRun_5 ?_
  refine g_callV (b := 159) (As := [.ref (gad G 16)]) (rest := []) ⟨hx, hb, hml, hown, hts⟩ (c_X0_firstToRun l G M hdm 159 (Or.inr rfl) 16 ⟨by decide, by decide⟩ R hR hI) (cwV 1 hts gX2_letFirstRun_X0_firstToRun rfl rfl rfl (by decide +kernel) ⟨Nat.le_of_ble_eq_true rfl, Nat.le_of_ble_eq_true rfl⟩) hG (g_recv hG (b := 159) (hdm 159 (by decide)) (gE_C (Or.inr rfl) G _) rfl) rfl hl.1 rfl (Nat.le_of_ble_eq_true rfl) dX2_letFirstRun_8 ⟨Nat.zero_le _, Nat.zero_le _⟩ (fun z1 M2 H locs hp_8 hG => ?_)
  obtain ⟨hz_8, ho_M2⟩ := hp_8; replace hz_8 := hz_8.symm; subst hz_8
  have hR_M2 : q_tr M2 16 R := q_tr_off hR ho_M2 (by omega)
  have hfo := q_first_ok hI
  refine lv_istore_n (lv' := [(3, .int (iZ (q_first R))), (0, .ref (gad G 163)), (1, .int (iZ pt)), (2, .int (iZ mi))]) hx hb dX2_letFirstRun_11 rfl hl (by decide) rfl (fun ls hl => ?_)
  refine lv_iload_n hx hb dX2_letFirstRun_12 rfl (lv_at hl 3 rfl) ?_
  refine g_callSN (As := [.int (iZ mi)]) (rest := []) ⟨hx, hb, hml, hown, hts⟩ (c_X5_isMinutes l G M2 mi (by omega)) ⟨va_cnB 1 hts gX2_letFirstRun_X5_isMinutes_n77 rfl rfl rfl hG.2.1.2.2.2.2.2.2.2.2.2.1 (hts (.initialized RX5) (by decide +kernel)) (by decide +kernel) ⟨Nat.le_of_ble_eq_true rfl, Nat.le_of_ble_eq_true rfl⟩, hts (.static yX5_isMinutes) (by decide +kernel), trivial⟩ hG rfl hl.1 rfl (Nat.le_of_ble_eq_true rfl) dX2_letFirstRun_13 ⟨Nat.zero_le _, Nat.zero_le _⟩ (fun z3 M4 H locs hp_13 hG => ?_)
  obtain ⟨hz_13, hM_13⟩ := hp_13; replace hz_13 := hz_13.symm; subst hz_13; replace hM_13 := hM_13.symm; subst hM_13
  refine z_ifP_eq (tgt := 35) hx hb dX2_letFirstRun_16 (by decide) (fun c_16 => ?_) (fun c_16 => ?_)
  · skip
    refine lv_iconst (v := iZ 0) hx hb dX2_letFirstRun_35 rfl ?_
    have hfr_0 : q_rh M M := q_rh.rf M
    have hfr_M2 : q_rh M M2 := q_rh.off hfr_0 ho_M2 (by omega)
    have hfr := hfr_M2
    have hcl : ¬ (1 ≤ mi ∧ mi ≤ 30 ∧ q_ob R = 0 ∧ q_rz R mi = 1) := by intro h9; have h8 := q_first_in hI (q_ob_wait h9.2.2.1); omega
    exact g_zret (post := fun z M1 => z = (if 1 ≤ mi ∧ mi ≤ 30 ∧ q_ob R = 0 ∧ q_rz R mi = 1 then 1 else 0) ∧ (1 ≤ mi ∧ mi ≤ 30 ∧ q_ob R = 0 ∧ q_rz R mi = 1 → q_tr M1 16 (q_rno R (q_first R).toNat mi (fun _ => pt))) ∧ q_rh M M1) (z := 0) hx hb hr hG hlocks (Or.inl rfl) (⟨by rw [if_neg hcl], fun h9 => absurd h9 hcl, hfr⟩) dX2_letFirstRun_36
  · skip
    refine lv_iload_n hx hb dX2_letFirstRun_19 rfl (lv_at hl 0 rfl) ?_
    refine lv_bipush (v := iZ (-9)) hx hb dX2_letFirstRun_20 (by decide) ?_
    refine z_icmp_eq (tgt := 35) hx hb (by omega) (by decide) dX2_letFirstRun_22 (by decide) (fun c_22 => ?_) (fun c_22 => ?_)
    · skip
      refine lv_iconst (v := iZ 0) hx hb dX2_letFirstRun_35 rfl ?_
      have hfr_0 : q_rh M M := q_rh.rf M
      have hfr_M2 : q_rh M M2 := q_rh.off hfr_0 ho_M2 (by omega)
      have hfr := hfr_M2
      have hcl : ¬ (1 ≤ mi ∧ mi ≤ 30 ∧ q_ob R = 0 ∧ q_rz R mi = 1) := by intro h9; have h8 := q_first_in hI (q_ob_wait h9.2.2.1); omega
      exact g_zret (post := fun z M1 => z = (if 1 ≤ mi ∧ mi ≤ 30 ∧ q_ob R = 0 ∧ q_rz R mi = 1 then 1 else 0) ∧ (1 ≤ mi ∧ mi ≤ 30 ∧ q_ob R = 0 ∧ q_rz R mi = 1 → q_tr M1 16 (q_rno R (q_first R).toNat mi (fun _ => pt))) ∧ q_rh M M1) (z := 0) hx hb hr hG hlocks (Or.inl rfl) (⟨by rw [if_neg hcl], fun h9 => absurd h9 hcl, hfr⟩) dX2_letFirstRun_36
    · skip
      refine lv_aload_n hx hb dX2_letFirstRun_25 rfl (lv_at hl 1 rfl) ?_
      refine g_get hx hb hts hinX2 hown hG (o := 163) (hdm 163 (by decide)) rfl rfl 0 (by decide) f12 (fun _ h => h) rfl dX2_letFirstRun_26 ?_
      refine g_callV (b := 16) (As := []) (rest := []) ⟨hx, hb, hml, hown, hts⟩ (c_X3_obstacle l G M2 hdm 16 ⟨by decide, by decide⟩ R hR_M2 hI) (cwV 0 hts gX2_letFirstRun_X3_obstacle rfl rfl rfl (by decide +kernel) ⟨Nat.le_of_ble_eq_true rfl, Nat.le_of_ble_eq_true rfl⟩) hG (g_recv hG (b := 16) (hdm 16 (by decide)) (gE_T ⟨by decide, by decide⟩ G _) rfl) rfl hl.1 rfl (Nat.le_of_ble_eq_true rfl) dX2_letFirstRun_29 ⟨Nat.zero_le _, Nat.zero_le _⟩ (fun z5 M6 H locs hp_29 hG => ?_)
      obtain ⟨hz_29, hM_29⟩ := hp_29; replace hz_29 := hz_29.symm; subst hz_29; replace hM_29 := hM_29.symm; subst hM_29
      refine z_if_eq (tgt := 37) hx hb (by omega) dX2_letFirstRun_32 (by decide) (fun c_32 => ?_) (fun c_32 => ?_)
      · skip
        refine lv_aload_n hx hb dX2_letFirstRun_37 rfl (lv_at hl 1 rfl) ?_
        refine g_get hx hb hts hinX2 hown hG (o := 163) (hdm 163 (by decide)) rfl rfl 1 (by decide) f21 (fun _ h => h) rfl dX2_letFirstRun_38 ?_
        refine lv_iload_n hx hb dX2_letFirstRun_41 rfl (lv_at hl 2 rfl) ?_
        refine g_vcallV (b := 159) (As := [.int (iZ pt)]) (rest := []) ⟨hx, hb, hml, hown, hts⟩ (c_X0_setSameLosses l G M2 hdm 159 (Or.inr rfl) pt) (cwV 1 hts gX2_letFirstRun_X0_setSameLosses rfl rfl rfl (by decide +kernel) ⟨Nat.le_of_ble_eq_true rfl, Nat.le_of_ble_eq_true rfl⟩) hG (g_recv hG (b := 159) (hdm 159 (by decide)) (gE_C (Or.inr rfl) G _) rfl) rfl hl.1 rfl (Nat.le_of_ble_eq_true rfl) dX2_letFirstRun_42 ⟨Nat.zero_le _, Nat.zero_le _⟩ (fun M8 H locs hp_42 hG => ?_)
        obtain ⟨hl_M8, ho_M8⟩ := hp_42
        have hR_M2_M8 : q_tr M8 16 R := q_tr_off hR_M2 ho_M8 (by omega)
        refine lv_aload_n hx hb dX2_letFirstRun_45 rfl (lv_at hl 1 rfl) ?_
        refine g_get hx hb hts hinX2 hown hG (o := 163) (hdm 163 (by decide)) rfl rfl 1 (by decide) f21 (fun _ h => h) rfl dX2_letFirstRun_46 ?_
        refine lv_aload_n hx hb dX2_letFirstRun_49 rfl (lv_at hl 1 rfl) ?_
        refine g_get hx hb hts hinX2 hown hG (o := 163) (hdm 163 (by decide)) rfl rfl 0 (by decide) f12 (fun _ h => h) rfl dX2_letFirstRun_50 ?_
        refine lv_iload_n hx hb dX2_letFirstRun_53 rfl (lv_at hl 0 rfl) ?_
        have hfi := hfo.resolve_left (by omega)
        rw [show (q_first R) = (((q_first R).toNat : Nat) : Int) by omega]
        refine lv_iload_n hx hb dX2_letFirstRun_54 rfl (lv_at hl 3 rfl) ?_
        refine g_callV (b := 159) (As := [.ref (gad G 16), .int (iZ (((q_first R).toNat) : Int)), .int (iZ mi)]) (rest := []) ⟨hx, hb, hml, hown, hts⟩ (c_X0_letRun l G M8 hdm 159 (Or.inr rfl) 16 ⟨by decide, by decide⟩ R hR_M2_M8 hI (((q_first R).toNat)) (by omega) mi (by omega)) (cwV 3 hts gX2_letFirstRun_X0_letRun rfl rfl rfl (by decide +kernel) ⟨Nat.le_of_ble_eq_true rfl, Nat.le_of_ble_eq_true rfl⟩) hG (g_recv hG (b := 159) (hdm 159 (by decide)) (gE_C (Or.inr rfl) G _) rfl) rfl hl.1 rfl (Nat.le_of_ble_eq_true rfl) dX2_letFirstRun_55 ⟨Nat.zero_le _, Nat.zero_le _⟩ (fun z9 M10 H locs hp_55 hG => ?_)
        obtain ⟨hz_55, ht_M10, ho_M10⟩ := hp_55; replace hz_55 := hz_55.symm; subst hz_55
        have hfr_0 : q_rh M M := q_rh.rf M
        have hfr_M2 : q_rh M M2 := q_rh.off hfr_0 ho_M2 (by omega)
        have hfr_M8 : q_rh M M8 := q_rh.off hfr_M2 ho_M8 (by omega)
        have hfr_M10 : q_rh M M10 := q_rh.off hfr_M8 ho_M10 (by omega)
        have hfr := hfr_M10
        have hrz := q_rz_in R mi
        exact g_zret (post := fun z M1 => z = (if 1 ≤ mi ∧ mi ≤ 30 ∧ q_ob R = 0 ∧ q_rz R mi = 1 then 1 else 0) ∧ (1 ≤ mi ∧ mi ≤ 30 ∧ q_ob R = 0 ∧ q_rz R mi = 1 → q_tr M1 16 (q_rno R (q_first R).toNat mi (fun _ => pt))) ∧ q_rh M M1) (z := (q_rz R mi)) hx hb hr hG hlocks hrz (⟨by rcases hrz with h9 | h9; (rw [if_neg (by omega), h9]); (rw [if_pos (by omega), h9]), fun _ => by rw [← q_rno_congr R _ mi (L := fun p => M8 162 p) (fun p hp => hl_M8 p hp)]; exact ht_M10, hfr⟩) dX2_letFirstRun_58
      · skip
        refine lv_iconst (v := iZ 0) hx hb dX2_letFirstRun_35 rfl ?_
        have hfr_0 : q_rh M M := q_rh.rf M
        have hfr_M2 : q_rh M M2 := q_rh.off hfr_0 ho_M2 (by omega)
        have hfr := hfr_M2
        have hcl : ¬ (1 ≤ mi ∧ mi ≤ 30 ∧ q_ob R = 0 ∧ q_rz R mi = 1) := by intro h9; have h8 := q_first_in hI (q_ob_wait h9.2.2.1); omega
        exact g_zret (post := fun z M1 => z = (if 1 ≤ mi ∧ mi ≤ 30 ∧ q_ob R = 0 ∧ q_rz R mi = 1 then 1 else 0) ∧ (1 ≤ mi ∧ mi ≤ 30 ∧ q_ob R = 0 ∧ q_rz R mi = 1 → q_tr M1 16 (q_rno R (q_first R).toNat mi (fun _ => pt))) ∧ q_rh M M1) (z := 0) hx hb hr hG hlocks (Or.inl rfl) (⟨by rw [if_neg hcl], fun h9 => absurd h9 hcl, hfr⟩) dX2_letFirstRun_36
