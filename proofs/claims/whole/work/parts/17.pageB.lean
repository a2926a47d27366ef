set_option maxHeartbeats 4000000 in
set_option maxRecDepth 100000 in
theorem c_X6_refused (l : Launch) (G : gG) (M : Nat → Nat → Int) (hdm : ∀ k, k < 179 → gdm G k) (v : Int) (hv : 0 ≤ v ∧ v ≤ 9) : gMi l yX6_refused wsX6_refused ({ frames := 0, cells := 0, slots := 0, locals := 0 } : Room) G M [.ref (gad G 169), .int (iZ v)] (fun z M1 => z = (if 0 < v then 1 else 0) ∧ M1 = q_wr M 169 0 v) := by
  refine gMi_of (cc := cX6_refused) (maxL := 2) (ret := some .boolean) (by decide) rfl (Nat.le_of_ble_eq_true rfl) ?_
  intro p e s m below meth c ls hx hb hr hml hown hts hlocks hl hG
  have hown : s.vm.findClass RX6 = some m.cls := hown
  have hl : lv_has ls 2 [(0, .ref (gad G 169)), (1, .int (iZ v))] := hl
  have hinX6 : ∀ w ∈ u_ws RX6 TX6 13, w ∈ wsX6_refused := by decide +kernel
  have f39 := hts (.fieldLink RX6 39 "DogTrialsModel" "refusal" "I") (by decide +kernel)
  refine lv_aload_n hx hb dX6_refused_0 rfl (lv_at hl 0 rfl) ?_
  refine lv_iload_n hx hb dX6_refused_1 rfl (lv_at hl 1 rfl) ?_
  refine g_put (F := (oR G)) hx hb hts hinX6 tyX6 tyX6_ok nmX6 hown hG (o := 169) (hdm 169 (by decide)) (fun f => rfl) rfl 0 (by decide) f39 (fun _ h => h) rfl rfl (fun _ => Nat.lt_of_lt_of_le (by decide) (Nat.le_refl 13)) (fun _ => rfl) dX6_refused_2 (fun H locs hG => ?_)
  obtain ⟨M1, hM1⟩ : ∃ X, X = (q_wr M 169 0 v) := ⟨_, rfl⟩
  rw [← hM1] at hG
  refine lv_iload_n hx hb dX6_refused_5 rfl (lv_at hl 1 rfl) ?_
  refine z_if_le (tgt := 13) hx hb (by omega) dX6_refused_6 (by decide) (fun c_6 => ?_) (fun c_6 => ?_)
  · skip
    refine lv_iconst (v := iZ 0) hx hb dX6_refused_13 rfl ?_
    exact g_zret (post := fun z M1 => z = (if 0 < v then 1 else 0) ∧ M1 = q_wr M 169 0 v) (z := 0) hx hb hr hG hlocks (Or.inl rfl) (⟨by first | (rw [if_pos (by omega)]; done) | (rw [if_neg (by omega)]; done), hM1⟩) dX6_refused_14
  · skip
    refine lv_iconst (v := iZ 1) hx hb dX6_refused_9 rfl ?_
    refine lv_goto (tgt := 14) hx hb dX6_refused_10 (by decide) ?_
    exact g_zret (post := fun z M1 => z = (if 0 < v then 1 else 0) ∧ M1 = q_wr M 169 0 v) (z := 1) hx hb hr hG hlocks (Or.inr rfl) (⟨by first | (rw [if_pos (by omega)]; done) | (rw [if_neg (by omega)]; done), hM1⟩) dX6_refused_14
set_option maxHeartbeats 4000000 in
set_option maxRecDepth 100000 in
theorem c_X6_enterOn (l : Launch) (G : gG) (M : Nat → Nat → Int) (hdm : ∀ k, k < 179 → gdm G k) (q : Nat) (hP : isP q) (hI : q_inv (M q)) (n : Nat) (hn : q_nd (M q) = (n : Int)) (hn2 : n < 12) (o d : Int) : gMv l yX6_enterOn wsX6_enterOn ({ frames := 1, cells := 0, slots := 0, locals := 20 } : Room) G M [.ref (gad G q), .int (iZ o), .int (iZ d)] (fun M1 => M1 = q_set M q (q_ent (M q) n o d)) := by
  refine gMv_of (cc := cX6_enterOn) (maxL := 5) (ret := none) (by decide) rfl (Nat.le_of_ble_eq_true rfl) ?_
  intro p e s m below meth c ls hx hb hr hml hown hts hlocks hl hG
  have hown : s.vm.findClass RX6 = some m.cls := hown
  have hl : lv_has ls 5 [(0, .ref (gad G q)), (1, .int (iZ o)), (2, .int (iZ d))] := hl
  have hdp_q : gdm G q := hdm _ (by rcases hP with h | h | h <;> omega)
  refine lv_aload_n hx hb dX6_enterOn_0 rfl (lv_at hl 0 rfl) ?_
  refine lv_bipush (v := iZ (7)) hx hb dX6_enterOn_1 (by decide) ?_
  refine g_iald (z := (n : Int)) (j := 7) hx hb hG (o := q) hdp_q (gE_P hP G _) (by omega) (by omega) (by omega) hn dX6_enterOn_3 ?_
  refine g_callS (As := [.int (iZ (n : Int))]) (rest := []) ⟨hx, hb, hml, hown, hts⟩ (c_X6_dogAt l G M (n : Int)) (va_cwS 1 hts gX6_enterOn_X6_dogAt rfl rfl rfl (by decide +kernel) ⟨Nat.le_of_ble_eq_true rfl, Nat.le_of_ble_eq_true rfl⟩) hG rfl hl.1 rfl (Nat.le_of_ble_eq_true rfl) dX6_enterOn_4 ⟨Nat.zero_le _, Nat.zero_le _⟩ (fun z1 M2 H locs hp_4 hG => ?_)
  obtain ⟨hz_4, hM_4⟩ := hp_4; replace hz_4 := hz_4.symm; subst hz_4; replace hM_4 := hM_4.symm; subst hM_4
  rw [show (14 + 11 * (n : Int) : Int) = (11 * (n : Int) + 14) from by omega]
  refine lv_istore_n (lv' := [(3, .int (iZ (11 * (n : Int) + 14))), (0, .ref (gad G q)), (1, .int (iZ o)), (2, .int (iZ d))]) hx hb dX6_enterOn_7 rfl hl (by decide) rfl (fun ls hl => ?_)
  refine lv_iconst (v := iZ 0) hx hb dX6_enterOn_8 rfl ?_
  refine lv_istore (lv' := [(4, .int (iZ 0)), (3, .int (iZ (11 * (n : Int) + 14))), (0, .ref (gad G q)), (1, .int (iZ o)), (2, .int (iZ d))]) hx hb dX6_enterOn_9 hl (by decide) rfl (fun ls hl => ?_)
  have L_11 : ∀ (n_11 : Nat) (k : Nat) (x_i : Int) (Mk : Nat → Nat → Int), (x_i = (k : Int)) → (k ≤ 11) → ((∀ b : Nat, Mk q b = if 14 + 11 * n ≤ b ∧ b < 14 + 11 * n + k then 0 else M q b)) → ((∀ a, a ≠ q → Mk a = M a)) → 11 - k < n_11 → ∀ (H : Heap) (locs : List Loc) (ls : Array Slot), gH G Mk s H locs → lv_has ls 5 [(4, .int (iZ x_i)), (3, .int (iZ (11 * (n : Int) + 14))), (0, .ref (gad G q)), (1, .int (iZ o)), (2, .int (iZ d))] → W p l e ({ frames := 1, cells := 0, slots := 0, locals := 20 } : Room) s m [.ref (gad G q), .int (iZ o), .int (iZ d)].toArray below meth c H locs 0 0 (MQ below (va_Qv (fun (u : Nat → Nat → Int) => (fun M1 => M1 = q_set M q (q_ent (M q) n o d)) u) (fun u U => gB G u U) (gA G)) [.ref (gad G q), .int (iZ o), .int (iZ d)].toArray s 0 0 (gA G)) (F0 m 11 ls []) := by
    intro n_11
    induction n_11 with
    | zero => intro k x_i Mk he_x_i hk hrw ho hm_11; exact absurd hm_11 (Nat.not_lt_zero _)
    | succ n_11 ih_11 =>
      intro k x_i Mk he_x_i hk hrw ho hm_11 H locs ls hG hl
      subst he_x_i
      refine lv_iload hx hb dX6_enterOn_11 (lv_at hl 0 rfl) ?_
      refine lv_bipush (v := iZ (11)) hx hb dX6_enterOn_13 (by decide) ?_
      refine z_icmp_ge (tgt := 31) hx hb (by omega) (by decide) dX6_enterOn_15 (by decide) (fun c_15 => ?_) (fun c_15 => ?_)
      · skip
        refine lv_aload_n hx hb dX6_enterOn_31 rfl (lv_at hl 2 rfl) ?_
        refine lv_iload_n hx hb dX6_enterOn_32 rfl (lv_at hl 1 rfl) ?_
        refine lv_iload_n hx hb dX6_enterOn_33 rfl (lv_at hl 3 rfl) ?_
        refine g_iast (j := (14 + 11 * n)) hx hb hG (o := q) hdp_q (fun f => gE_P hP G f) (by omega) (by omega) (by omega) dX6_enterOn_34 (fun H locs hG => ?_)
        obtain ⟨M3, hM3⟩ : ∃ X, X = (q_wr Mk q (14 + 11 * n) o) := ⟨_, rfl⟩
        rw [← hM3] at hG
        refine lv_aload_n hx hb dX6_enterOn_35 rfl (lv_at hl 2 rfl) ?_
        refine lv_iload_n hx hb dX6_enterOn_36 rfl (lv_at hl 1 rfl) ?_
        refine lv_iconst (v := iZ 1) hx hb dX6_enterOn_37 rfl ?_
        refine z_iadd (z := (11 * (n : Int) + 15)) hx hb (by omega) dX6_enterOn_38 ?_
        refine lv_iload_n hx hb dX6_enterOn_39 rfl (lv_at hl 4 rfl) ?_
        refine g_iast (j := (14 + 11 * n + 1)) hx hb hG (o := q) hdp_q (fun f => gE_P hP G f) (by omega) (by omega) (by omega) dX6_enterOn_40 (fun H locs hG => ?_)
        obtain ⟨M4, hM4⟩ : ∃ X, X = (q_wr M3 q (14 + 11 * n + 1) d) := ⟨_, rfl⟩
        rw [← hM4] at hG
        refine lv_aload_n hx hb dX6_enterOn_41 rfl (lv_at hl 2 rfl) ?_
        refine lv_iload_n hx hb dX6_enterOn_42 rfl (lv_at hl 1 rfl) ?_
        refine lv_iconst (v := iZ 4) hx hb dX6_enterOn_43 rfl ?_
        refine z_iadd (z := (11 * (n : Int) + 18)) hx hb (by omega) dX6_enterOn_44 ?_
        refine lv_bipush (v := iZ (6)) hx hb dX6_enterOn_45 (by decide) ?_
        refine g_iast (j := (14 + 11 * n + 4)) hx hb hG (o := q) hdp_q (fun f => gE_P hP G f) (by omega) (by omega) (by omega) dX6_enterOn_47 (fun H locs hG => ?_)
        obtain ⟨M5, hM5⟩ : ∃ X, X = (q_wr M4 q (14 + 11 * n + 4) 6) := ⟨_, rfl⟩
        rw [← hM5] at hG
        refine lv_aload_n hx hb dX6_enterOn_48 rfl (lv_at hl 2 rfl) ?_
        refine lv_bipush (v := iZ (7)) hx hb dX6_enterOn_49 (by decide) ?_
        refine lv_dup2_11 hx hb dX6_enterOn_51 rfl rfl ?_
        refine g_iald (z := (n : Int)) (j := 7) hx hb hG (o := q) hdp_q (gE_P hP G _) (by omega) (by omega) (by omega) (by rw [hM5, wr_ne _ _ _ (by omega), hM4, wr_ne _ _ _ (by omega), hM3, wr_ne _ _ _ (by omega), hrw, if_neg (by omega)]; exact hn) dX6_enterOn_52 ?_
        refine lv_iconst (v := iZ 1) hx hb dX6_enterOn_53 rfl ?_
        refine z_iadd (z := ((n : Int) + 1)) hx hb (by omega) dX6_enterOn_54 ?_
        refine g_iast (j := 7) hx hb hG (o := q) hdp_q (fun f => gE_P hP G f) (by omega) (by omega) (by omega) dX6_enterOn_55 (fun H locs hG => ?_)
        obtain ⟨M6, hM6⟩ : ∃ X, X = (q_wr M5 q 7 ((n : Int) + 1)) := ⟨_, rfl⟩
        rw [← hM6] at hG
        exact g_vret hx hb hr hG hlocks (by have hn7 : M q 7 = (n : Int) := hn; rw [hM6, hM5, hM4, hM3]; funext a; by_cases ha : a = q; (subst ha; rw [q_set_at]; funext b; unfold q_ent; simp only [wr_ap, hrw, true_and]; (repeat' split) <;> first | rfl | omega); (rw [q_set_off _ _ ha, wr_off _ _ _ ha, wr_off _ _ _ ha, wr_off _ _ _ ha, wr_off _ _ _ ha]; exact ho a ha)) dX6_enterOn_56
      · skip
        refine lv_aload_n hx hb dX6_enterOn_18 rfl (lv_at hl 2 rfl) ?_
        refine lv_iload_n hx hb dX6_enterOn_19 rfl (lv_at hl 1 rfl) ?_
        refine lv_iload hx hb dX6_enterOn_20 (lv_at hl 0 rfl) ?_
        refine z_iadd (z := (11 * (n : Int) + (k : Int) + 14)) hx hb (by omega) dX6_enterOn_22 ?_
        refine lv_iconst (v := iZ 0) hx hb dX6_enterOn_23 rfl ?_
        refine g_iast (j := (11 * n + k + 14)) hx hb hG (o := q) hdp_q (fun f => gE_P hP G f) (by omega) (by omega) (by omega) dX6_enterOn_24 (fun H locs hG => ?_)
        obtain ⟨M7, hM7⟩ : ∃ X, X = (q_wr Mk q (11 * n + k + 14) 0) := ⟨_, rfl⟩
        rw [← hM7] at hG
        refine z_iinc (z := ((k : Int) + 1)) (lv' := [(4, .int (iZ ((k : Int) + 1))), (3, .int (iZ (11 * (n : Int) + 14))), (0, .ref (gad G q)), (1, .int (iZ o)), (2, .int (iZ d))]) hx hb dX6_enterOn_25 hl (k := 0) rfl (by omega) (by decide) rfl (fun ls hl => ?_)
        refine lv_goto (tgt := 11) hx hb dX6_enterOn_28 (by decide) ?_
        exact ih_11 (k + 1) ((k : Int) + 1) M7 (by omega) (by omega) (fun b => by rw [hM7, wr_ap, hrw b]; (repeat' split) <;> first | rfl | (exfalso; omega)) (fun a ha => by rw [hM7, wr_off _ _ _ ha]; exact ho a ha) (by omega) _ _ _ hG (lv_sub hl [0, 1, 2, 3, 4] rfl)
  exact L_11 _ 0 0 M rfl (by omega) (fun b => by rw [if_neg (by omega)]) (fun _ _ => rfl) (Nat.lt_succ_self _) _ _ _ hG (lv_sub hl [0, 1, 2, 3, 4] rfl)
set_option maxHeartbeats 8000000 in
set_option maxRecDepth 100000 in
theorem c_X6_runOn (l : Launch) (G : gG) (M : Nat → Nat → Int) (hdm : ∀ k, k < 179 → gdm G k) (q : Nat) (hP : isP q) (hI : q_inv (M q)) (i : Nat) (hi : (i : Int) < q_nd (M q)) (v : Int) (hv : 0 ≤ v ∧ v < 9223372036854775808) (mi : Int) (hmi : 1 ≤ mi ∧ mi ≤ 30) : gMi l yX6_runOn wsX6_runOn ({ frames := 1, cells := 0, slots := 0, locals := 20 } : Room) G M [.ref (gad G q), .int (iZ (i : Int)), .long (lZ v), .int (iZ mi)] (fun z M1 => z = q_rz (M q) mi ∧ M1 = q_set M q (q_rno (M q) i mi (q_dig v))) := by
  refine gMi_of (cc := cX6_runOn) (maxL := 10) (ret := some .boolean) (by decide) rfl (Nat.le_of_ble_eq_true rfl) ?_
  intro p e s m below meth c ls hx hb hr hml hown hts hlocks hl hG
  have hown : s.vm.findClass RX6 = some m.cls := hown
  have hl : lv_has ls 10 [(0, .ref (gad G q)), (1, .int (iZ (i : Int))), (2, .long (lZ v)), (4, .int (iZ mi))] := hl
  have hdp_q : gdm G q := hdm _ (by rcases hP with h | h | h <;> omega)
  have hnd := hI.1
  have hdo := hI.2.1 i hi
  unfold q_dogok at hdo
  have hms := hI.2.2.2.1
  have hs6 := hI.2.2.2.2.1
  refine lv_iload_n hx hb dX6_runOn_0 rfl (lv_at hl 1 rfl) ?_
  refine g_callS (As := [.int (iZ (i : Int))]) (rest := []) ⟨hx, hb, hml, hown, hts⟩ (c_X6_dogAt l G M (i : Int)) (va_cwS 1 hts gX6_runOn_X6_dogAt rfl rfl rfl (by decide +kernel) ⟨Nat.le_of_ble_eq_true rfl, Nat.le_of_ble_eq_true rfl⟩) hG rfl hl.1 rfl (Nat.le_of_ble_eq_true rfl) dX6_runOn_1 ⟨Nat.zero_le _, Nat.zero_le _⟩ (fun z1 M2 H locs hp_1 hG => ?_)
  obtain ⟨hz_1, hM_1⟩ := hp_1; replace hz_1 := hz_1.symm; subst hz_1; replace hM_1 := hM_1.symm; subst hM_1
  rw [show (14 + 11 * (i : Int) : Int) = (11 * (i : Int) + 14) from by omega]
  refine lv_istore (lv' := [(5, .int (iZ (11 * (i : Int) + 14))), (0, .ref (gad G q)), (1, .int (iZ (i : Int))), (2, .long (lZ v)), (4, .int (iZ mi))]) hx hb dX6_runOn_4 hl (by decide) rfl (fun ls hl => ?_)
  refine lv_aload_n hx hb dX6_runOn_6 rfl (lv_at hl 1 rfl) ?_
  refine lv_iconst (v := iZ 3) hx hb dX6_runOn_7 rfl ?_
  refine lv_iload_n hx hb dX6_runOn_8 rfl (lv_at hl 2 rfl) ?_
  refine g_iast (j := 3) hx hb hG (o := q) hdp_q (fun f => gE_P hP G f) (by omega) (by omega) (by omega) dX6_runOn_9 (fun H locs hG => ?_)
  obtain ⟨M3, hM3⟩ : ∃ X, X = (q_wr M q 3 (i : Int)) := ⟨_, rfl⟩
  rw [← hM3] at hG
  refine lv_aload_n hx hb dX6_runOn_10 rfl (lv_at hl 1 rfl) ?_
  refine lv_iconst (v := iZ 1) hx hb dX6_runOn_11 rfl ?_
  refine g_iald (z := (M q 1)) (j := 1) hx hb hG (o := q) hdp_q (gE_P hP G _) (by omega) (by omega) (by omega) (by rw [hM3, wr_ne _ _ _ (by omega)] <;> rfl) dX6_runOn_12 ?_
  refine lv_iload hx hb dX6_runOn_13 (lv_at hl 4 rfl) ?_
  refine z_iadd (z := ((M q 1) + mi)) hx hb (by omega) dX6_runOn_15 ?_
  refine lv_aload_n hx hb dX6_runOn_16 rfl (lv_at hl 1 rfl) ?_
  refine lv_iconst (v := iZ 2) hx hb dX6_runOn_17 rfl ?_
  refine g_iald (z := (M q 2)) (j := 2) hx hb hG (o := q) hdp_q (gE_P hP G _) (by omega) (by omega) (by omega) (by rw [hM3, wr_ne _ _ _ (by omega)] <;> rfl) dX6_runOn_18 ?_
  refine z_icmp_le (tgt := 37) hx hb (by omega) (by omega) dX6_runOn_19 (by decide) (fun c_19 => ?_) (fun c_19 => ?_)
  · skip
    refine lv_aload_n hx hb dX6_runOn_37 rfl (lv_at hl 1 rfl) ?_
    refine lv_iconst (v := iZ 1) hx hb dX6_runOn_38 rfl ?_
    refine lv_dup2_11 hx hb dX6_runOn_39 rfl rfl ?_
    refine g_iald (z := (M q 1)) (j := 1) hx hb hG (o := q) hdp_q (gE_P hP G _) (by omega) (by omega) (by omega) (by rw [hM3, wr_ne _ _ _ (by omega)] <;> rfl) dX6_runOn_40 ?_
    refine lv_iload hx hb dX6_runOn_41 (lv_at hl 4 rfl) ?_
    refine z_iadd (z := ((M q 1) + mi)) hx hb (by omega) dX6_runOn_43 ?_
    refine g_iast (j := 1) hx hb hG (o := q) hdp_q (fun f => gE_P hP G f) (by omega) (by omega) (by omega) dX6_runOn_44 (fun H locs hG => ?_)
    obtain ⟨M4, hM4⟩ : ∃ X, X = (q_wr M3 q 1 ((M q 1) + mi)) := ⟨_, rfl⟩
    rw [← hM4] at hG
    refine lv_aload_n hx hb dX6_runOn_45 rfl (lv_at hl 1 rfl) ?_
    refine lv_iconst (v := iZ 4) hx hb dX6_runOn_46 rfl ?_
    refine lv_dup2_11 hx hb dX6_runOn_47 rfl rfl ?_
    refine g_iald (z := (M q 4)) (j := 4) hx hb hG (o := q) hdp_q (gE_P hP G _) (by omega) (by omega) (by omega) (by rw [hM4, wr_ne _ _ _ (by omega), hM3, wr_ne _ _ _ (by omega)] <;> rfl) dX6_runOn_48 ?_
    refine lv_iconst (v := iZ 1) hx hb dX6_runOn_49 rfl ?_
    refine z_iadd (z := ((M q 4) + 1)) hx hb (by omega) dX6_runOn_50 ?_
    refine g_iast (j := 4) hx hb hG (o := q) hdp_q (fun f => gE_P hP G f) (by omega) (by omega) (by omega) dX6_runOn_51 (fun H locs hG => ?_)
    obtain ⟨M5, hM5⟩ : ∃ X, X = (q_wr M4 q 4 ((M q 4) + 1)) := ⟨_, rfl⟩
    rw [← hM5] at hG
    refine lv_lload_n hx hb dX6_runOn_52 rfl (lv_at hl 3 rfl) ?_
    refine lv_lstore (lv' := [(6, .long (lZ v)), (5, .int (iZ (11 * (i : Int) + 14))), (0, .ref (gad G q)), (1, .int (iZ (i : Int))), (2, .long (lZ v)), (4, .int (iZ mi))]) hx hb dX6_runOn_53 hl (by decide) rfl (fun ls hl => ?_)
    refine lv_aload_n hx hb dX6_runOn_55 rfl (lv_at hl 2 rfl) ?_
    refine lv_iload hx hb dX6_runOn_56 (lv_at hl 1 rfl) ?_
    refine lv_iconst (v := iZ 2) hx hb dX6_runOn_58 rfl ?_
    refine z_iadd (z := (11 * (i : Int) + 16)) hx hb (by omega) dX6_runOn_59 ?_
    refine g_iald (z := (q_sa (M q) i)) (j := (14 + 11 * i + 2)) hx hb hG (o := q) hdp_q (gE_P hP G _) (by omega) (by omega) (by omega) (by rw [hM5, wr_ne _ _ _ (by omega), hM4, wr_ne _ _ _ (by omega), hM3, wr_ne _ _ _ (by omega)] <;> rfl) dX6_runOn_60 ?_
    refine lv_iconst (v := iZ 2) hx hb dX6_runOn_61 rfl ?_
    refine z_icmp_ne (tgt := 74) hx hb (by omega) (by decide) dX6_runOn_62 (by decide) (fun c_62 => ?_) (fun c_62 => ?_)
    · skip
      refine lv_iconst (v := iZ 0) hx hb dX6_runOn_74 rfl ?_
      have hfv : q_fp (M q) i = 0 := by unfold q_fp; first | (rw [if_pos (by omega)]; done) | (rw [if_neg (by omega)]; done)
      have hfr : 0 ≤ q_fp (M q) i ∧ q_fp (M q) i ≤ 6 := by omega
      have hfp9 : q_fp (q_cnt (q_lst (M q) (i : Int)) mi) i = q_fp (M q) i := by unfold q_fp; rw [q_cnt_sa, q_lst_sa, q_cnt_fr, q_lst_fr]
      refine lv_istore (lv' := [(8, .int (iZ 0)), (6, .long (lZ v)), (5, .int (iZ (11 * (i : Int) + 14))), (0, .ref (gad G q)), (1, .int (iZ (i : Int))), (2, .long (lZ v)), (4, .int (iZ mi))]) hx hb dX6_runOn_75 hl (by decide) rfl (fun ls hl => ?_)
      refine lv_iconst (v := iZ 5) hx hb dX6_runOn_77 rfl ?_
      refine lv_istore (lv' := [(9, .int (iZ 5)), (8, .int (iZ 0)), (6, .long (lZ v)), (5, .int (iZ (11 * (i : Int) + 14))), (0, .ref (gad G q)), (1, .int (iZ (i : Int))), (2, .long (lZ v)), (4, .int (iZ mi))]) hx hb dX6_runOn_78 hl (by decide) rfl (fun ls hl => ?_)
      have L_80 : ∀ (n_80 : Nat) (k : Nat) (x_i : Int) (x_r : Int) (Mk : Nat → Nat → Int), (x_i = ((k : Int) - 1)) → (x_r = (q_rst v (6 - k))) → (k ≤ 6) → ((∀ b : Nat, Mk q b = if 14 + 11 * i + 5 + k ≤ b ∧ b < 14 + 11 * i + 11 ∧ q_fp (M q) i ≤ ((b - (14 + 11 * i + 5) : Nat) : Int) then q_dig v (b - (14 + 11 * i + 5)) else M5 q b)) → ((∀ a, a ≠ q → Mk a = M5 a)) → k < n_80 → ∀ (H : Heap) (locs : List Loc) (ls : Array Slot), gH G Mk s H locs → lv_has ls 10 [(9, .int (iZ x_i)), (8, .int (iZ 0)), (6, .long (lZ x_r)), (5, .int (iZ (11 * (i : Int) + 14))), (0, .ref (gad G q)), (1, .int (iZ (i : Int))), (2, .long (lZ v)), (4, .int (iZ mi))] → W p l e ({ frames := 1, cells := 0, slots := 0, locals := 20 } : Room) s m [.ref (gad G q), .int (iZ (i : Int)), .long (lZ v), .int (iZ mi)].toArray below meth c H locs 0 0 (MQ below (va_Qi (fun r (u : Int × (Nat → Nat → Int)) => r = iZ u.1 ∧ (fun z M1 => z = q_rz (M q) mi ∧ M1 = q_set M q (q_rno (M q) i mi (q_dig v))) u.1 u.2) (fun u U => gB G u.2 U) (gA G)) [.ref (gad G q), .int (iZ (i : Int)), .long (lZ v), .int (iZ mi)].toArray s 0 0 (gA G)) (F0 m 80 ls []) := by
        intro n_80
        induction n_80 with
        | zero => intro k x_i x_r Mk he_x_i he_x_r hk hrw ho hm_80; exact absurd hm_80 (Nat.not_lt_zero _)
        | succ n_80 ih_80 =>
          intro k x_i x_r Mk he_x_i he_x_r hk hrw ho hm_80 H locs ls hG hl
          subst he_x_i
          subst he_x_r
          have hrs := q_rst_in (v := v) (by omega) (6 - k)
          have hdk : 0 < k → q_dig v (k - 1) = q_rst v (6 - k) % 100 := fun h => by unfold q_dig; rw [show 5 - (k - 1) = 6 - k by omega]
          refine lv_iload hx hb dX6_runOn_80 (lv_at hl 0 rfl) ?_
          refine z_if_lt (tgt := 122) hx hb (by omega) dX6_runOn_82 (by decide) (fun c_82 => ?_) (fun c_82 => ?_)
          · skip
            refine lv_aload_n hx hb dX6_runOn_122 rfl (lv_at hl 4 rfl) ?_
            refine lv_iload hx hb dX6_runOn_123 (lv_at hl 3 rfl) ?_
            refine lv_iconst (v := iZ 2) hx hb dX6_runOn_125 rfl ?_
            refine z_iadd (z := (11 * (i : Int) + 16)) hx hb (by omega) dX6_runOn_126 ?_
            refine lv_iconst (v := iZ 1) hx hb dX6_runOn_127 rfl ?_
            refine g_iast (j := (14 + 11 * i + 2)) hx hb hG (o := q) hdp_q (fun f => gE_P hP G f) (by omega) (by omega) (by omega) dX6_runOn_128 (fun H locs hG => ?_)
            obtain ⟨M6, hM6⟩ : ∃ X, X = (q_wr Mk q (14 + 11 * i + 2) 1) := ⟨_, rfl⟩
            rw [← hM6] at hG
            refine lv_aload_n hx hb dX6_runOn_129 rfl (lv_at hl 4 rfl) ?_
            refine lv_iload hx hb dX6_runOn_130 (lv_at hl 3 rfl) ?_
            refine lv_iconst (v := iZ 3) hx hb dX6_runOn_132 rfl ?_
            refine z_iadd (z := (11 * (i : Int) + 17)) hx hb (by omega) dX6_runOn_133 ?_
            refine lv_iconst (v := iZ 1) hx hb dX6_runOn_134 rfl ?_
            refine g_iast (j := (14 + 11 * i + 3)) hx hb hG (o := q) hdp_q (fun f => gE_P hP G f) (by omega) (by omega) (by omega) dX6_runOn_135 (fun H locs hG => ?_)
            obtain ⟨M7, hM7⟩ : ∃ X, X = (q_wr M6 q (14 + 11 * i + 3) 1) := ⟨_, rfl⟩
            rw [← hM7] at hG
            refine lv_aload_n hx hb dX6_runOn_136 rfl (lv_at hl 4 rfl) ?_
            refine lv_iload hx hb dX6_runOn_137 (lv_at hl 3 rfl) ?_
            refine lv_iconst (v := iZ 4) hx hb dX6_runOn_139 rfl ?_
            refine z_iadd (z := (11 * (i : Int) + 18)) hx hb (by omega) dX6_runOn_140 ?_
            refine lv_bipush (v := iZ (6)) hx hb dX6_runOn_141 (by decide) ?_
            refine g_iast (j := (14 + 11 * i + 4)) hx hb hG (o := q) hdp_q (fun f => gE_P hP G f) (by omega) (by omega) (by omega) dX6_runOn_143 (fun H locs hG => ?_)
            obtain ⟨M8, hM8⟩ : ∃ X, X = (q_wr M7 q (14 + 11 * i + 4) 6) := ⟨_, rfl⟩
            rw [← hM8] at hG
            refine lv_iconst (v := iZ 1) hx hb dX6_runOn_144 rfl ?_
            exact g_zret (post := fun z M1 => z = q_rz (M q) mi ∧ M1 = q_set M q (q_rno (M q) i mi (q_dig v))) (z := 1) hx hb hr hG hlocks (Or.inr rfl) (⟨by unfold q_rz; rw [if_neg (by omega)], by rw [hM8, hM7, hM6]; funext a; by_cases ha : a = q; (subst ha; rw [q_set_at]; funext b; unfold q_rno; rw [if_neg (by omega)]; unfold q_nr; rw [hfp9]; unfold q_cnt q_lst; simp only [wr_ap, hrw, q_up, true_and]; rw [hM5, hM4, hM3]; simp only [wr_ap, true_and]; (repeat' split) <;> first | rfl | omega | (congr 1; omega)); (rw [q_set_off _ _ ha, wr_off _ _ _ ha, wr_off _ _ _ ha, wr_off _ _ _ ha, ho a ha, hM5, wr_off _ _ _ ha, hM4, wr_off _ _ _ ha, hM3, wr_off _ _ _ ha])⟩) dX6_runOn_145
          · skip
            refine lv_iload hx hb dX6_runOn_85 (lv_at hl 0 rfl) ?_
            refine lv_iload hx hb dX6_runOn_87 (lv_at hl 1 rfl) ?_
            refine z_icmp_lt (tgt := 108) hx hb (by omega) (by decide) dX6_runOn_89 (by decide) (fun c_89 => ?_) (fun c_89 => ?_)
            · skip
              refine lv_lload hx hb dX6_runOn_108 (lv_at hl 2 rfl) ?_
              refine lv_ldc2 (v := lZ 100) hx hb hown (by rw [show lZ 100 = (100 : Int64) from by decide]; exact hts (.constantLong RX6 95 100) (by decide +kernel)) dX6_runOn_110 ?_
              refine z_ldiv (z := (q_rst v (6 - k) / 100)) hx hb (by omega) (by omega) (Int.tdiv_eq_ediv_of_nonneg (by omega)) dX6_runOn_113 ?_
              refine lv_lstore (lv' := [(6, .long (lZ (q_rst v (6 - k) / 100))), (9, .int (iZ ((k : Int) - 1))), (8, .int (iZ 0)), (5, .int (iZ (11 * (i : Int) + 14))), (0, .ref (gad G q)), (1, .int (iZ (i : Int))), (2, .long (lZ v)), (4, .int (iZ mi))]) hx hb dX6_runOn_114 hl (by decide) rfl (fun ls hl => ?_)
              refine z_iinc (z := ((k : Int) - 2)) (lv' := [(9, .int (iZ ((k : Int) - 2))), (6, .long (lZ (q_rst v (6 - k) / 100))), (8, .int (iZ 0)), (5, .int (iZ (11 * (i : Int) + 14))), (0, .ref (gad G q)), (1, .int (iZ (i : Int))), (2, .long (lZ v)), (4, .int (iZ mi))]) hx hb dX6_runOn_116 hl (k := 1) rfl (by omega) (by decide) rfl (fun ls hl => ?_)
              refine lv_goto (tgt := 80) hx hb dX6_runOn_119 (by decide) ?_
              exact ih_80 (k - 1) ((k : Int) - 2) (q_rst v (6 - k) / 100) Mk (by omega) (by rw [show 6 - (k - 1) = (6 - k) + 1 by omega, q_rst]) (by omega) (fun b => by rw [hrw b]; (repeat' split) <;> first | rfl | (exfalso; omega)) ho (by omega) _ _ _ hG (lv_sub hl [0, 2, 1, 3, 4, 5, 6, 7] rfl)
            · skip
              refine lv_aload_n hx hb dX6_runOn_92 rfl (lv_at hl 4 rfl) ?_
              refine lv_iload hx hb dX6_runOn_93 (lv_at hl 3 rfl) ?_
              refine lv_iconst (v := iZ 5) hx hb dX6_runOn_95 rfl ?_
              refine z_iadd (z := (11 * (i : Int) + 19)) hx hb (by omega) dX6_runOn_96 ?_
              refine lv_iload hx hb dX6_runOn_97 (lv_at hl 0 rfl) ?_
              refine z_iadd (z := (11 * (i : Int) + (k : Int) + 18)) hx hb (by omega) dX6_runOn_99 ?_
              refine lv_lload hx hb dX6_runOn_100 (lv_at hl 2 rfl) ?_
              refine lv_ldc2 (v := lZ 100) hx hb hown (by rw [show lZ 100 = (100 : Int64) from by decide]; exact hts (.constantLong RX6 95 100) (by decide +kernel)) dX6_runOn_102 ?_
              refine z_lrem (z := (q_rst v (6 - k) % 100)) hx hb (by omega) (by omega) (Int.tmod_eq_emod_of_nonneg (by omega)) dX6_runOn_105 ?_
              refine z_l2i hx hb dX6_runOn_106 ?_
              refine g_iast (j := (14 + 11 * i + 5 + ((k - 1)))) hx hb hG (o := q) hdp_q (fun f => gE_P hP G f) (by omega) (by omega) (by omega) dX6_runOn_107 (fun H locs hG => ?_)
              obtain ⟨M9, hM9⟩ : ∃ X, X = (q_wr Mk q (14 + 11 * i + 5 + ((k - 1))) (q_rst v (6 - k) % 100)) := ⟨_, rfl⟩
              rw [← hM9] at hG
              refine lv_lload hx hb dX6_runOn_108 (lv_at hl 2 rfl) ?_
              refine lv_ldc2 (v := lZ 100) hx hb hown (by rw [show lZ 100 = (100 : Int64) from by decide]; exact hts (.constantLong RX6 95 100) (by decide +kernel)) dX6_runOn_110 ?_
              refine z_ldiv (z := (q_rst v (6 - k) / 100)) hx hb (by omega) (by omega) (Int.tdiv_eq_ediv_of_nonneg (by omega)) dX6_runOn_113 ?_
              refine lv_lstore (lv' := [(6, .long (lZ (q_rst v (6 - k) / 100))), (9, .int (iZ ((k : Int) - 1))), (8, .int (iZ 0)), (5, .int (iZ (11 * (i : Int) + 14))), (0, .ref (gad G q)), (1, .int (iZ (i : Int))), (2, .long (lZ v)), (4, .int (iZ mi))]) hx hb dX6_runOn_114 hl (by decide) rfl (fun ls hl => ?_)
              refine z_iinc (z := ((k : Int) - 2)) (lv' := [(9, .int (iZ ((k : Int) - 2))), (6, .long (lZ (q_rst v (6 - k) / 100))), (8, .int (iZ 0)), (5, .int (iZ (11 * (i : Int) + 14))), (0, .ref (gad G q)), (1, .int (iZ (i : Int))), (2, .long (lZ v)), (4, .int (iZ mi))]) hx hb dX6_runOn_116 hl (k := 1) rfl (by omega) (by decide) rfl (fun ls hl => ?_)
              refine lv_goto (tgt := 80) hx hb dX6_runOn_119 (by decide) ?_
              exact ih_80 (k - 1) ((k : Int) - 2) (q_rst v (6 - k) / 100) M9 (by omega) (by rw [show 6 - (k - 1) = (6 - k) + 1 by omega, q_rst]) (by omega) (fun b => by rw [hM9, wr_ap, hrw b]; (repeat' split) <;> first | rfl | (exfalso; omega) | (have h8 := hdk (by omega); rw [show b - (14 + 11 * i + 5) = k - 1 by omega]; omega)) (fun a ha => by rw [hM9, wr_off _ _ _ ha]; exact ho a ha) (by omega) _ _ _ hG (lv_sub hl [0, 2, 1, 3, 4, 5, 6, 7] rfl)
      exact L_80 _ 6 5 v M5 rfl rfl (by omega) (fun b => by rw [if_neg (by omega)]) (fun _ _ => rfl) (Nat.lt_succ_self _) _ _ _ hG (lv_sub hl [0, 1, 2, 3, 4, 5, 6, 7] rfl)
    · skip
      refine lv_aload_n hx hb dX6_runOn_65 rfl (lv_at hl 2 rfl) ?_
      refine lv_iload hx hb dX6_runOn_66 (lv_at hl 1 rfl) ?_
      refine lv_iconst (v := iZ 4) hx hb dX6_runOn_68 rfl ?_
      refine z_iadd (z := (11 * (i : Int) + 18)) hx hb (by omega) dX6_runOn_69 ?_
      refine g_iald (z := (q_fr (M q) i)) (j := (14 + 11 * i + 4)) hx hb hG (o := q) hdp_q (gE_P hP G _) (by omega) (by omega) (by omega) (by rw [hM5, wr_ne _ _ _ (by omega), hM4, wr_ne _ _ _ (by omega), hM3, wr_ne _ _ _ (by omega)] <;> rfl) dX6_runOn_70 ?_
      refine lv_goto (tgt := 75) hx hb dX6_runOn_71 (by decide) ?_
      have hfv : q_fp (M q) i = (q_fr (M q) i) := by unfold q_fp; first | (rw [if_pos (by omega)]; done) | (rw [if_neg (by omega)]; done)
      have hfr : 0 ≤ q_fp (M q) i ∧ q_fp (M q) i ≤ 6 := by omega
      have hfp9 : q_fp (q_cnt (q_lst (M q) (i : Int)) mi) i = q_fp (M q) i := by unfold q_fp; rw [q_cnt_sa, q_lst_sa, q_cnt_fr, q_lst_fr]
      refine lv_istore (lv' := [(8, .int (iZ (q_fr (M q) i))), (6, .long (lZ v)), (5, .int (iZ (11 * (i : Int) + 14))), (0, .ref (gad G q)), (1, .int (iZ (i : Int))), (2, .long (lZ v)), (4, .int (iZ mi))]) hx hb dX6_runOn_75 hl (by decide) rfl (fun ls hl => ?_)
      refine lv_iconst (v := iZ 5) hx hb dX6_runOn_77 rfl ?_
      refine lv_istore (lv' := [(9, .int (iZ 5)), (8, .int (iZ (q_fr (M q) i))), (6, .long (lZ v)), (5, .int (iZ (11 * (i : Int) + 14))), (0, .ref (gad G q)), (1, .int (iZ (i : Int))), (2, .long (lZ v)), (4, .int (iZ mi))]) hx hb dX6_runOn_78 hl (by decide) rfl (fun ls hl => ?_)
      have L_80 : ∀ (n_80 : Nat) (k : Nat) (x_i : Int) (x_r : Int) (Mk : Nat → Nat → Int), (x_i = ((k : Int) - 1)) → (x_r = (q_rst v (6 - k))) → (k ≤ 6) → ((∀ b : Nat, Mk q b = if 14 + 11 * i + 5 + k ≤ b ∧ b < 14 + 11 * i + 11 ∧ q_fp (M q) i ≤ ((b - (14 + 11 * i + 5) : Nat) : Int) then q_dig v (b - (14 + 11 * i + 5)) else M5 q b)) → ((∀ a, a ≠ q → Mk a = M5 a)) → k < n_80 → ∀ (H : Heap) (locs : List Loc) (ls : Array Slot), gH G Mk s H locs → lv_has ls 10 [(9, .int (iZ x_i)), (8, .int (iZ (q_fr (M q) i))), (6, .long (lZ x_r)), (5, .int (iZ (11 * (i : Int) + 14))), (0, .ref (gad G q)), (1, .int (iZ (i : Int))), (2, .long (lZ v)), (4, .int (iZ mi))] → W p l e ({ frames := 1, cells := 0, slots := 0, locals := 20 } : Room) s m [.ref (gad G q), .int (iZ (i : Int)), .long (lZ v), .int (iZ mi)].toArray below meth c H locs 0 0 (MQ below (va_Qi (fun r (u : Int × (Nat → Nat → Int)) => r = iZ u.1 ∧ (fun z M1 => z = q_rz (M q) mi ∧ M1 = q_set M q (q_rno (M q) i mi (q_dig v))) u.1 u.2) (fun u U => gB G u.2 U) (gA G)) [.ref (gad G q), .int (iZ (i : Int)), .long (lZ v), .int (iZ mi)].toArray s 0 0 (gA G)) (F0 m 80 ls []) := by
        intro n_80
        induction n_80 with
        | zero => intro k x_i x_r Mk he_x_i he_x_r hk hrw ho hm_80; exact absurd hm_80 (Nat.not_lt_zero _)
        | succ n_80 ih_80 =>
          intro k x_i x_r Mk he_x_i he_x_r hk hrw ho hm_80 H locs ls hG hl
          subst he_x_i
          subst he_x_r
          have hrs := q_rst_in (v := v) (by omega) (6 - k)
          have hdk : 0 < k → q_dig v (k - 1) = q_rst v (6 - k) % 100 := fun h => by unfold q_dig; rw [show 5 - (k - 1) = 6 - k by omega]
          refine lv_iload hx hb dX6_runOn_80 (lv_at hl 0 rfl) ?_
          refine z_if_lt (tgt := 122) hx hb (by omega) dX6_runOn_82 (by decide) (fun c_82 => ?_) (fun c_82 => ?_)
          · skip
            refine lv_aload_n hx hb dX6_runOn_122 rfl (lv_at hl 4 rfl) ?_
            refine lv_iload hx hb dX6_runOn_123 (lv_at hl 3 rfl) ?_
            refine lv_iconst (v := iZ 2) hx hb dX6_runOn_125 rfl ?_
            refine z_iadd (z := (11 * (i : Int) + 16)) hx hb (by omega) dX6_runOn_126 ?_
            refine lv_iconst (v := iZ 1) hx hb dX6_runOn_127 rfl ?_
            refine g_iast (j := (14 + 11 * i + 2)) hx hb hG (o := q) hdp_q (fun f => gE_P hP G f) (by omega) (by omega) (by omega) dX6_runOn_128 (fun H locs hG => ?_)
            obtain ⟨M10, hM10⟩ : ∃ X, X = (q_wr Mk q (14 + 11 * i + 2) 1) := ⟨_, rfl⟩
            rw [← hM10] at hG
            refine lv_aload_n hx hb dX6_runOn_129 rfl (lv_at hl 4 rfl) ?_
            refine lv_iload hx hb dX6_runOn_130 (lv_at hl 3 rfl) ?_
            refine lv_iconst (v := iZ 3) hx hb dX6_runOn_132 rfl ?_
            refine z_iadd (z := (11 * (i : Int) + 17)) hx hb (by omega) dX6_runOn_133 ?_
            refine lv_iconst (v := iZ 1) hx hb dX6_runOn_134 rfl ?_
            refine g_iast (j := (14 + 11 * i + 3)) hx hb hG (o := q) hdp_q (fun f => gE_P hP G f) (by omega) (by omega) (by omega) dX6_runOn_135 (fun H locs hG => ?_)
            obtain ⟨M11, hM11⟩ : ∃ X, X = (q_wr M10 q (14 + 11 * i + 3) 1) := ⟨_, rfl⟩
            rw [← hM11] at hG
            refine lv_aload_n hx hb dX6_runOn_136 rfl (lv_at hl 4 rfl) ?_
            refine lv_iload hx hb dX6_runOn_137 (lv_at hl 3 rfl) ?_
            refine lv_iconst (v := iZ 4) hx hb dX6_runOn_139 rfl ?_
            refine z_iadd (z := (11 * (i : Int) + 18)) hx hb (by omega) dX6_runOn_140 ?_
            refine lv_bipush (v := iZ (6)) hx hb dX6_runOn_141 (by decide) ?_
            refine g_iast (j := (14 + 11 * i + 4)) hx hb hG (o := q) hdp_q (fun f => gE_P hP G f) (by omega) (by omega) (by omega) dX6_runOn_143 (fun H locs hG => ?_)
            obtain ⟨M12, hM12⟩ : ∃ X, X = (q_wr M11 q (14 + 11 * i + 4) 6) := ⟨_, rfl⟩
            rw [← hM12] at hG
            refine lv_iconst (v := iZ 1) hx hb dX6_runOn_144 rfl ?_
            exact g_zret (post := fun z M1 => z = q_rz (M q) mi ∧ M1 = q_set M q (q_rno (M q) i mi (q_dig v))) (z := 1) hx hb hr hG hlocks (Or.inr rfl) (⟨by unfold q_rz; rw [if_neg (by omega)], by rw [hM12, hM11, hM10]; funext a; by_cases ha : a = q; (subst ha; rw [q_set_at]; funext b; unfold q_rno; rw [if_neg (by omega)]; unfold q_nr; rw [hfp9]; unfold q_cnt q_lst; simp only [wr_ap, hrw, q_up, true_and]; rw [hM5, hM4, hM3]; simp only [wr_ap, true_and]; (repeat' split) <;> first | rfl | omega | (congr 1; omega)); (rw [q_set_off _ _ ha, wr_off _ _ _ ha, wr_off _ _ _ ha, wr_off _ _ _ ha, ho a ha, hM5, wr_off _ _ _ ha, hM4, wr_off _ _ _ ha, hM3, wr_off _ _ _ ha])⟩) dX6_runOn_145
          · skip
            refine lv_iload hx hb dX6_runOn_85 (lv_at hl 0 rfl) ?_
            refine lv_iload hx hb dX6_runOn_87 (lv_at hl 1 rfl) ?_
            refine z_icmp_lt (tgt := 108) hx hb (by omega) (by omega) dX6_runOn_89 (by decide) (fun c_89 => ?_) (fun c_89 => ?_)
            · skip
              refine lv_lload hx hb dX6_runOn_108 (lv_at hl 2 rfl) ?_
              refine lv_ldc2 (v := lZ 100) hx hb hown (by rw [show lZ 100 = (100 : Int64) from by decide]; exact hts (.constantLong RX6 95 100) (by decide +kernel)) dX6_runOn_110 ?_
              refine z_ldiv (z := (q_rst v (6 - k) / 100)) hx hb (by omega) (by omega) (Int.tdiv_eq_ediv_of_nonneg (by omega)) dX6_runOn_113 ?_
              refine lv_lstore (lv' := [(6, .long (lZ (q_rst v (6 - k) / 100))), (9, .int (iZ ((k : Int) - 1))), (8, .int (iZ (q_fr (M q) i))), (5, .int (iZ (11 * (i : Int) + 14))), (0, .ref (gad G q)), (1, .int (iZ (i : Int))), (2, .long (lZ v)), (4, .int (iZ mi))]) hx hb dX6_runOn_114 hl (by decide) rfl (fun ls hl => ?_)
              refine z_iinc (z := ((k : Int) - 2)) (lv' := [(9, .int (iZ ((k : Int) - 2))), (6, .long (lZ (q_rst v (6 - k) / 100))), (8, .int (iZ (q_fr (M q) i))), (5, .int (iZ (11 * (i : Int) + 14))), (0, .ref (gad G q)), (1, .int (iZ (i : Int))), (2, .long (lZ v)), (4, .int (iZ mi))]) hx hb dX6_runOn_116 hl (k := 1) rfl (by omega) (by decide) rfl (fun ls hl => ?_)
              refine lv_goto (tgt := 80) hx hb dX6_runOn_119 (by decide) ?_
              exact ih_80 (k - 1) ((k : Int) - 2) (q_rst v (6 - k) / 100) Mk (by omega) (by rw [show 6 - (k - 1) = (6 - k) + 1 by omega, q_rst]) (by omega) (fun b => by rw [hrw b]; (repeat' split) <;> first | rfl | (exfalso; omega)) ho (by omega) _ _ _ hG (lv_sub hl [0, 2, 1, 3, 4, 5, 6, 7] rfl)
            · skip
              refine lv_aload_n hx hb dX6_runOn_92 rfl (lv_at hl 4 rfl) ?_
              refine lv_iload hx hb dX6_runOn_93 (lv_at hl 3 rfl) ?_
              refine lv_iconst (v := iZ 5) hx hb dX6_runOn_95 rfl ?_
              refine z_iadd (z := (11 * (i : Int) + 19)) hx hb (by omega) dX6_runOn_96 ?_
              refine lv_iload hx hb dX6_runOn_97 (lv_at hl 0 rfl) ?_
              refine z_iadd (z := (11 * (i : Int) + (k : Int) + 18)) hx hb (by omega) dX6_runOn_99 ?_
              refine lv_lload hx hb dX6_runOn_100 (lv_at hl 2 rfl) ?_
              refine lv_ldc2 (v := lZ 100) hx hb hown (by rw [show lZ 100 = (100 : Int64) from by decide]; exact hts (.constantLong RX6 95 100) (by decide +kernel)) dX6_runOn_102 ?_
              refine z_lrem (z := (q_rst v (6 - k) % 100)) hx hb (by omega) (by omega) (Int.tmod_eq_emod_of_nonneg (by omega)) dX6_runOn_105 ?_
              refine z_l2i hx hb dX6_runOn_106 ?_
              refine g_iast (j := (14 + 11 * i + 5 + ((k - 1)))) hx hb hG (o := q) hdp_q (fun f => gE_P hP G f) (by omega) (by omega) (by omega) dX6_runOn_107 (fun H locs hG => ?_)
              obtain ⟨M13, hM13⟩ : ∃ X, X = (q_wr Mk q (14 + 11 * i + 5 + ((k - 1))) (q_rst v (6 - k) % 100)) := ⟨_, rfl⟩
              rw [← hM13] at hG
              refine lv_lload hx hb dX6_runOn_108 (lv_at hl 2 rfl) ?_
              refine lv_ldc2 (v := lZ 100) hx hb hown (by rw [show lZ 100 = (100 : Int64) from by decide]; exact hts (.constantLong RX6 95 100) (by decide +kernel)) dX6_runOn_110 ?_
              refine z_ldiv (z := (q_rst v (6 - k) / 100)) hx hb (by omega) (by omega) (Int.tdiv_eq_ediv_of_nonneg (by omega)) dX6_runOn_113 ?_
              refine lv_lstore (lv' := [(6, .long (lZ (q_rst v (6 - k) / 100))), (9, .int (iZ ((k : Int) - 1))), (8, .int (iZ (q_fr (M q) i))), (5, .int (iZ (11 * (i : Int) + 14))), (0, .ref (gad G q)), (1, .int (iZ (i : Int))), (2, .long (lZ v)), (4, .int (iZ mi))]) hx hb dX6_runOn_114 hl (by decide) rfl (fun ls hl => ?_)
              refine z_iinc (z := ((k : Int) - 2)) (lv' := [(9, .int (iZ ((k : Int) - 2))), (6, .long (lZ (q_rst v (6 - k) / 100))), (8, .int (iZ (q_fr (M q) i))), (5, .int (iZ (11 * (i : Int) + 14))), (0, .ref (gad G q)), (1, .int (iZ (i : Int))), (2, .long (lZ v)), (4, .int (iZ mi))]) hx hb dX6_runOn_116 hl (k := 1) rfl (by omega) (by decide) rfl (fun ls hl => ?_)
              refine lv_goto (tgt := 80) hx hb dX6_runOn_119 (by decide) ?_
              exact ih_80 (k - 1) ((k : Int) - 2) (q_rst v (6 - k) / 100) M13 (by omega) (by rw [show 6 - (k - 1) = (6 - k) + 1 by omega, q_rst]) (by omega) (fun b => by rw [hM13, wr_ap, hrw b]; (repeat' split) <;> first | rfl | (exfalso; omega) | (have h8 := hdk (by omega); rw [show b - (14 + 11 * i + 5) = k - 1 by omega]; omega)) (fun a ha => by rw [hM13, wr_off _ _ _ ha]; exact ho a ha) (by omega) _ _ _ hG (lv_sub hl [0, 2, 1, 3, 4, 5, 6, 7] rfl)
      exact L_80 _ 6 5 v M5 rfl rfl (by omega) (fun b => by rw [if_neg (by omega)]) (fun _ _ => rfl) (Nat.lt_succ_self _) _ _ _ hG (lv_sub hl [0, 1, 2, 3, 4, 5, 6, 7] rfl)
  · skip
    refine lv_aload_n hx hb dX6_runOn_22 rfl (lv_at hl 1 rfl) ?_
    refine lv_iconst (v := iZ 1) hx hb dX6_runOn_23 rfl ?_
    refine lv_aload_n hx hb dX6_runOn_24 rfl (lv_at hl 1 rfl) ?_
    refine lv_iconst (v := iZ 2) hx hb dX6_runOn_25 rfl ?_
    refine g_iald (z := (M q 2)) (j := 2) hx hb hG (o := q) hdp_q (gE_P hP G _) (by omega) (by omega) (by omega) (by rw [hM3, wr_ne _ _ _ (by omega)] <;> rfl) dX6_runOn_26 ?_
    refine g_iast (j := 1) hx hb hG (o := q) hdp_q (fun f => gE_P hP G f) (by omega) (by omega) (by omega) dX6_runOn_27 (fun H locs hG => ?_)
    obtain ⟨M14, hM14⟩ : ∃ X, X = (q_wr M3 q 1 (M q 2)) := ⟨_, rfl⟩
    rw [← hM14] at hG
    refine lv_aload_n hx hb dX6_runOn_28 rfl (lv_at hl 1 rfl) ?_
    refine lv_iconst (v := iZ 5) hx hb dX6_runOn_29 rfl ?_
    refine lv_dup2_11 hx hb dX6_runOn_30 rfl rfl ?_
    refine g_iald (z := (M q 5)) (j := 5) hx hb hG (o := q) hdp_q (gE_P hP G _) (by omega) (by omega) (by omega) (by rw [hM14, wr_ne _ _ _ (by omega), hM3, wr_ne _ _ _ (by omega)] <;> rfl) dX6_runOn_31 ?_
    refine lv_iconst (v := iZ 1) hx hb dX6_runOn_32 rfl ?_
    refine z_iadd (z := ((M q 5) + 1)) hx hb (by omega) dX6_runOn_33 ?_
    refine g_iast (j := 5) hx hb hG (o := q) hdp_q (fun f => gE_P hP G f) (by omega) (by omega) (by omega) dX6_runOn_34 (fun H locs hG => ?_)
    obtain ⟨M15, hM15⟩ : ∃ X, X = (q_wr M14 q 5 ((M q 5) + 1)) := ⟨_, rfl⟩
    rw [← hM15] at hG
    refine lv_iconst (v := iZ 0) hx hb dX6_runOn_35 rfl ?_
    exact g_zret (post := fun z M1 => z = q_rz (M q) mi ∧ M1 = q_set M q (q_rno (M q) i mi (q_dig v))) (z := 0) hx hb hr hG hlocks (Or.inl rfl) (⟨by unfold q_rz; rw [if_pos (by omega)], by rw [hM15, hM14, hM3]; funext a; by_cases ha : a = q; (subst ha; rw [q_set_at]; funext b; unfold q_rno; rw [if_pos (by omega)]; unfold q_drk q_lst; simp only [wr_ap, q_up, true_and]; (repeat' split) <;> first | rfl | omega); (rw [q_set_off _ _ ha]; rw [wr_off _ _ _ ha, wr_off _ _ _ ha, wr_off _ _ _ ha])⟩) dX6_runOn_36
