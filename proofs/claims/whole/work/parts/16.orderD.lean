set_option maxHeartbeats 4000000 in
set_option maxRecDepth 100000 in
theorem c_X0_firstToRun (l : Launch) (G : gG) (M : Nat → Nat → Int) (hdm : ∀ k, k < 179 → gdm G k) (q : Nat) (hC : isC q) (t : Nat) (hT : isT t) (R : Nat → Int) (hR : q_tr M t R) (hI : q_inv R) : gMi l yX0_firstToRun wsX0_firstToRun ({ frames := 2, cells := 0, slots := 0, locals := 51 } : Room) G M [.ref (gad G q), .ref (gad G t)] (fun z M1 => z = q_first R ∧ q_off M M1 q (q + 3)) := by
  refine gMi_of (cc := cX0_firstToRun) (maxL := 2) (ret := some .int) (by decide) rfl (Nat.le_of_ble_eq_true rfl) ?_
  intro p e s m below meth c ls hx hb hr hml hown hts hlocks hl hG
  have hown : s.vm.findClass RX0 = some m.cls := hown
  have hl : lv_has ls 2 [(0, .ref (gad G q)), (1, .ref (gad G t))] := hl
  have hdc_q : ∀ r, r < 4 → gdm G (q + r) := fun r hr => hdm _ (by rcases hC with h | h <;> omega)
  have hinX0 : ∀ w ∈ u_ws RX0 TX0 4, w ∈ wsX0_firstToRun := by decide +kernel
  have f9 := hts (.fieldLink RX0 9 "DogTrials$Course" "row" "[I") (by decide +kernel)
  have f26 := hts (.fieldLink RX0 26 "DogTrials$Course" "length" "I") (by decide +kernel)
  have ht1 := hT.1
  have ht2 := hT.2
  have hq := hC
  unfold isC at hq
  have hnd := hI.1
  have hle := q_orn_le hI
  refine lv_aload_n hx hb dX0_firstToRun_0 rfl (lv_at hl 0 rfl) ?_
  refine lv_aload_n hx hb dX0_firstToRun_1 rfl (lv_at hl 1 rfl) ?_
  refine g_vcallV (b := q) (As := [.ref (gad G t)]) (rest := []) ⟨hx, hb, hml, hown, hts⟩ (c_X0_makeOrder l G M hdm q hC t hT R hR hI) (cwV 1 hts gX0_firstToRun_X0_makeOrder rfl rfl rfl (by decide +kernel) ⟨Nat.le_of_ble_eq_true rfl, Nat.le_of_ble_eq_true rfl⟩) hG (g_recv hG (b := q) (hdc_q 0 (by decide)) (gE_C hC G _) rfl) rfl hl.1 rfl (Nat.le_of_ble_eq_true rfl) dX0_firstToRun_2 ⟨Nat.zero_le _, Nat.zero_le _⟩ (fun M2 H locs hp_2 hG => ?_)
  obtain ⟨hn_M2, hf_M2, ho_M2⟩ := hp_2
  have hR_M2 : q_tr M2 t R := q_tr_off hR ho_M2 (by omega)
  refine lv_aload_n hx hb dX0_firstToRun_5 rfl (lv_at hl 0 rfl) ?_
  refine g_geti (z := ((q_orn R) : Int)) hx hb hts hinX0 hown hG (o := q) (hdc_q 0 (by decide)) (gE_C hC G _) rfl 2 (by decide) f26 (fun _ h => h) rfl hn_M2 dX0_firstToRun_6 ?_
  refine z_if_le (tgt := 21) hx hb (by omega) dX0_firstToRun_9 (by decide) (fun c_9 => ?_) (fun c_9 => ?_)
  · skip
    refine lv_bipush (v := iZ (-9)) hx hb dX0_firstToRun_21 (by decide) ?_
    have ho9 := ho_M2
    exact g_iret (post := fun z M1 => z = q_first R ∧ q_off M M1 q (q + 3)) (z := (-9)) hx hb hr hG hlocks (⟨by unfold q_first; first | (rw [if_neg (by omega)]; done) | (rw [if_pos (by omega)]; done), ho9⟩) dX0_firstToRun_23
  · skip
    refine lv_aload_n hx hb dX0_firstToRun_12 rfl (lv_at hl 0 rfl) ?_
    refine g_get hx hb hts hinX0 hown hG (o := q) (hdc_q 0 (by decide)) (gE_C hC G _) rfl 0 (by decide) f9 (fun _ h => h) rfl dX0_firstToRun_13 ?_
    refine lv_iconst (v := iZ 0) hx hb dX0_firstToRun_16 rfl ?_
    refine g_iald (z := (q_orf R 0)) (j := 0) hx hb hG (o := (q + 1)) (hdc_q 1 (by decide)) (gE_c1 hC G _) (by omega) (by omega) (by omega) (hf_M2 0 (by omega)) dX0_firstToRun_17 ?_
    refine lv_goto (tgt := 23) hx hb dX0_firstToRun_18 (by decide) ?_
    have ho9 := ho_M2
    exact g_iret (post := fun z M1 => z = q_first R ∧ q_off M M1 q (q + 3)) (z := (q_orf R 0)) hx hb hr hG hlocks (⟨by unfold q_first; first | (rw [if_neg (by omega)]; done) | (rw [if_pos (by omega)]; done), ho9⟩) dX0_firstToRun_23
set_option maxHeartbeats 4000000 in
set_option maxRecDepth 100000 in
theorem c_X0_dogInOrder (l : Launch) (G : gG) (M : Nat → Nat → Int) (hdm : ∀ k, k < 179 → gdm G k) (q : Nat) (hC : isC q) (t : Nat) (hT : isT t) (R : Nat → Int) (hR : q_tr M t R) (hI : q_inv R) (kk : Int) (hkk : -2147483648 ≤ kk ∧ kk < 2147483648) : gMi l yX0_dogInOrder wsX0_dogInOrder ({ frames := 2, cells := 0, slots := 0, locals := 51 } : Room) G M [.ref (gad G q), .ref (gad G t), .int (iZ kk)] (fun z M1 => z = q_atk R kk ∧ q_off M M1 q (q + 3)) := by
  refine gMi_of (cc := cX0_dogInOrder) (maxL := 3) (ret := some .int) (by decide) rfl (Nat.le_of_ble_eq_true rfl) ?_
  intro p e s m below meth c ls hx hb hr hml hown hts hlocks hl hG
  have hown : s.vm.findClass RX0 = some m.cls := hown
  have hl : lv_has ls 3 [(0, .ref (gad G q)), (1, .ref (gad G t)), (2, .int (iZ kk))] := hl
  have hdc_q : ∀ r, r < 4 → gdm G (q + r) := fun r hr => hdm _ (by rcases hC with h | h <;> omega)
  have hinX0 : ∀ w ∈ u_ws RX0 TX0 4, w ∈ wsX0_dogInOrder := by decide +kernel
  have f9 := hts (.fieldLink RX0 9 "DogTrials$Course" "row" "[I") (by decide +kernel)
  have f26 := hts (.fieldLink RX0 26 "DogTrials$Course" "length" "I") (by decide +kernel)
  have ht1 := hT.1
  have ht2 := hT.2
  have hq := hC
  unfold isC at hq
  have hnd := hI.1
  have hle := q_orn_le hI
  refine lv_aload_n hx hb dX0_dogInOrder_0 rfl (lv_at hl 0 rfl) ?_
  refine lv_aload_n hx hb dX0_dogInOrder_1 rfl (lv_at hl 1 rfl) ?_
  refine g_vcallV (b := q) (As := [.ref (gad G t)]) (rest := []) ⟨hx, hb, hml, hown, hts⟩ (c_X0_makeOrder l G M hdm q hC t hT R hR hI) (cwV 1 hts gX0_dogInOrder_X0_makeOrder rfl rfl rfl (by decide +kernel) ⟨Nat.le_of_ble_eq_true rfl, Nat.le_of_ble_eq_true rfl⟩) hG (g_recv hG (b := q) (hdc_q 0 (by decide)) (gE_C hC G _) rfl) rfl hl.1 rfl (Nat.le_of_ble_eq_true rfl) dX0_dogInOrder_2 ⟨Nat.zero_le _, Nat.zero_le _⟩ (fun M2 H locs hp_2 hG => ?_)
  obtain ⟨hn_M2, hf_M2, ho_M2⟩ := hp_2
  have hR_M2 : q_tr M2 t R := q_tr_off hR ho_M2 (by omega)
  refine lv_iload_n hx hb dX0_dogInOrder_5 rfl (lv_at hl 2 rfl) ?_
  refine z_if_lt (tgt := 26) hx hb (by omega) dX0_dogInOrder_6 (by decide) (fun c_6 => ?_) (fun c_6 => ?_)
  · skip
    refine lv_bipush (v := iZ (-9)) hx hb dX0_dogInOrder_26 (by decide) ?_
    have ho9 := ho_M2
    exact g_iret (post := fun z M1 => z = q_atk R kk ∧ q_off M M1 q (q + 3)) (z := (-9)) hx hb hr hG hlocks (⟨by unfold q_atk; first | (rw [if_neg (by omega)]; done) | (rw [if_pos (by omega)]; done), ho9⟩) dX0_dogInOrder_28
  · skip
    refine lv_iload_n hx hb dX0_dogInOrder_9 rfl (lv_at hl 2 rfl) ?_
    refine lv_aload_n hx hb dX0_dogInOrder_10 rfl (lv_at hl 0 rfl) ?_
    refine g_geti (z := ((q_orn R) : Int)) hx hb hts hinX0 hown hG (o := q) (hdc_q 0 (by decide)) (gE_C hC G _) rfl 2 (by decide) f26 (fun _ h => h) rfl hn_M2 dX0_dogInOrder_11 ?_
    refine z_icmp_ge (tgt := 26) hx hb (by omega) (by omega) dX0_dogInOrder_14 (by decide) (fun c_14 => ?_) (fun c_14 => ?_)
    · skip
      refine lv_bipush (v := iZ (-9)) hx hb dX0_dogInOrder_26 (by decide) ?_
      have ho9 := ho_M2
      exact g_iret (post := fun z M1 => z = q_atk R kk ∧ q_off M M1 q (q + 3)) (z := (-9)) hx hb hr hG hlocks (⟨by unfold q_atk; first | (rw [if_neg (by omega)]; done) | (rw [if_pos (by omega)]; done), ho9⟩) dX0_dogInOrder_28
    · skip
      refine lv_aload_n hx hb dX0_dogInOrder_17 rfl (lv_at hl 0 rfl) ?_
      refine g_get hx hb hts hinX0 hown hG (o := q) (hdc_q 0 (by decide)) (gE_C hC G _) rfl 0 (by decide) f9 (fun _ h => h) rfl dX0_dogInOrder_18 ?_
      refine lv_iload_n hx hb dX0_dogInOrder_21 rfl (lv_at hl 2 rfl) ?_
      refine g_iald (z := (q_orf R kk.toNat)) (j := ((kk.toNat))) hx hb hG (o := (q + 1)) (hdc_q 1 (by decide)) (gE_c1 hC G _) (by omega) (by omega) (by omega) (hf_M2 kk.toNat (by omega)) dX0_dogInOrder_22 ?_
      refine lv_goto (tgt := 28) hx hb dX0_dogInOrder_23 (by decide) ?_
      have ho9 := ho_M2
      exact g_iret (post := fun z M1 => z = q_atk R kk ∧ q_off M M1 q (q + 3)) (z := (q_orf R kk.toNat)) hx hb hr hG hlocks (⟨by unfold q_atk; first | (rw [if_neg (by omega)]; done) | (rw [if_pos (by omega)]; done), ho9⟩) dX0_dogInOrder_28
set_option maxHeartbeats 4000000 in
set_option maxRecDepth 100000 in
theorem c_X0_placeInOrder (l : Launch) (G : gG) (M : Nat → Nat → Int) (hdm : ∀ k, k < 179 → gdm G k) (q : Nat) (hC : isC q) (t : Nat) (hT : isT t) (R : Nat → Int) (hR : q_tr M t R) (hI : q_inv R) (d : Int) (hd : -2147483648 ≤ d ∧ d < 2147483648) : gMi l yX0_placeInOrder wsX0_placeInOrder ({ frames := 2, cells := 0, slots := 0, locals := 51 } : Room) G M [.ref (gad G q), .ref (gad G t), .int (iZ d)] (fun z M1 => z = q_pio R d ∧ q_off M M1 q (q + 3)) := by
  refine gMi_of (cc := cX0_placeInOrder) (maxL := 4) (ret := some .int) (by decide) rfl (Nat.le_of_ble_eq_true rfl) ?_
  intro p e s m below meth c ls hx hb hr hml hown hts hlocks hl hG
  have hown : s.vm.findClass RX0 = some m.cls := hown
  have hl : lv_has ls 4 [(0, .ref (gad G q)), (1, .ref (gad G t)), (2, .int (iZ d))] := hl
  have hdc_q : ∀ r, r < 4 → gdm G (q + r) := fun r hr => hdm _ (by rcases hC with h | h <;> omega)
  have hinX0 : ∀ w ∈ u_ws RX0 TX0 4, w ∈ wsX0_placeInOrder := by decide +kernel
  have f9 := hts (.fieldLink RX0 9 "DogTrials$Course" "row" "[I") (by decide +kernel)
  have f26 := hts (.fieldLink RX0 26 "DogTrials$Course" "length" "I") (by decide +kernel)
  have ht1 := hT.1
  have ht2 := hT.2
  have hq := hC
  unfold isC at hq
  have hnd := hI.1
  have hle := q_orn_le hI
  refine lv_aload_n hx hb dX0_placeInOrder_0 rfl (lv_at hl 0 rfl) ?_
  refine lv_aload_n hx hb dX0_placeInOrder_1 rfl (lv_at hl 1 rfl) ?_
  refine g_vcallV (b := q) (As := [.ref (gad G t)]) (rest := []) ⟨hx, hb, hml, hown, hts⟩ (c_X0_makeOrder l G M hdm q hC t hT R hR hI) (cwV 1 hts gX0_placeInOrder_X0_makeOrder rfl rfl rfl (by decide +kernel) ⟨Nat.le_of_ble_eq_true rfl, Nat.le_of_ble_eq_true rfl⟩) hG (g_recv hG (b := q) (hdc_q 0 (by decide)) (gE_C hC G _) rfl) rfl hl.1 rfl (Nat.le_of_ble_eq_true rfl) dX0_placeInOrder_2 ⟨Nat.zero_le _, Nat.zero_le _⟩ (fun M2 H locs hp_2 hG => ?_)
  obtain ⟨hn_M2, hf_M2, ho_M2⟩ := hp_2
  have hR_M2 : q_tr M2 t R := q_tr_off hR ho_M2 (by omega)
  refine lv_iconst (v := iZ 0) hx hb dX0_placeInOrder_5 rfl ?_
  refine lv_istore_n (lv' := [(3, .int (iZ 0)), (0, .ref (gad G q)), (1, .ref (gad G t)), (2, .int (iZ d))]) hx hb dX0_placeInOrder_6 rfl hl (by decide) rfl (fun ls hl => ?_)
  have L_7 : ∀ (n_7 : Nat) (k : Nat) (x_i : Int), (x_i = (k : Int)) → (k ≤ q_orn R) → ((∀ j : Nat, j < k → q_orf R j ≠ d)) → 12 - k < n_7 → ∀ (H : Heap) (locs : List Loc) (ls : Array Slot), gH G M2 s H locs → lv_has ls 4 [(3, .int (iZ x_i)), (0, .ref (gad G q)), (1, .ref (gad G t)), (2, .int (iZ d))] → W p l e ({ frames := 2, cells := 0, slots := 0, locals := 51 } : Room) s m [.ref (gad G q), .ref (gad G t), .int (iZ d)].toArray below meth c H locs 0 0 (MQ below (va_Qi (fun r (u : Int × (Nat → Nat → Int)) => r = iZ u.1 ∧ (fun z M1 => z = q_pio R d ∧ q_off M M1 q (q + 3)) u.1 u.2) (fun u U => gB G u.2 U) (gA G)) [.ref (gad G q), .ref (gad G t), .int (iZ d)].toArray s 0 0 (gA G)) (F0 m 7 ls []) := by
    intro n_7
    induction n_7 with
    | zero => intro k x_i he_x_i hk hno hm_7; exact absurd hm_7 (Nat.not_lt_zero _)
    | succ n_7 ih_7 =>
      intro k x_i he_x_i hk hno hm_7 H locs ls hG hl
      subst he_x_i
      refine lv_iload_n hx hb dX0_placeInOrder_7 rfl (lv_at hl 0 rfl) ?_
      refine lv_aload_n hx hb dX0_placeInOrder_8 rfl (lv_at hl 1 rfl) ?_
      refine g_geti (z := ((q_orn R) : Int)) hx hb hts hinX0 hown hG (o := q) (hdc_q 0 (by decide)) (gE_C hC G _) rfl 2 (by decide) f26 (fun _ h => h) rfl hn_M2 dX0_placeInOrder_9 ?_
      refine z_icmp_ge (tgt := 33) hx hb (by omega) (by omega) dX0_placeInOrder_12 (by decide) (fun c_12 => ?_) (fun c_12 => ?_)
      · skip
        refine lv_bipush (v := iZ (-9)) hx hb dX0_placeInOrder_33 (by decide) ?_
        have ho9 := ho_M2
        exact g_iret (post := fun z M1 => z = q_pio R d ∧ q_off M M1 q (q + 3)) (z := (-9)) hx hb hr hG hlocks (⟨(by unfold q_pio; exact (q_fnd_no (fun j hj => hno j (by omega))).symm), ho9⟩) dX0_placeInOrder_35
      · skip
        have hfi := q_orf_in hI (k := k) (by omega)
        refine lv_aload_n hx hb dX0_placeInOrder_15 rfl (lv_at hl 1 rfl) ?_
        refine g_get hx hb hts hinX0 hown hG (o := q) (hdc_q 0 (by decide)) (gE_C hC G _) rfl 0 (by decide) f9 (fun _ h => h) rfl dX0_placeInOrder_16 ?_
        refine lv_iload_n hx hb dX0_placeInOrder_19 rfl (lv_at hl 0 rfl) ?_
        refine g_iald (z := (q_orf R k)) (j := k) hx hb hG (o := (q + 1)) (hdc_q 1 (by decide)) (gE_c1 hC G _) (by omega) (by omega) (by omega) (hf_M2 k (by omega)) dX0_placeInOrder_20 ?_
        refine lv_iload_n hx hb dX0_placeInOrder_21 rfl (lv_at hl 3 rfl) ?_
        refine z_icmp_ne (tgt := 27) hx hb (by omega) (by omega) dX0_placeInOrder_22 (by decide) (fun c_22 => ?_) (fun c_22 => ?_)
        · skip
          refine z_iinc (z := ((k : Int) + 1)) (lv' := [(3, .int (iZ ((k : Int) + 1))), (0, .ref (gad G q)), (1, .ref (gad G t)), (2, .int (iZ d))]) hx hb dX0_placeInOrder_27 hl (k := 0) rfl (by omega) (by decide) rfl (fun ls hl => ?_)
          refine lv_goto (tgt := 7) hx hb dX0_placeInOrder_30 (by decide) ?_
          exact ih_7 (k + 1) ((k : Int) + 1)  (by omega) (by omega) (fun j h => by rcases (show j < k ∨ j = k by omega) with h9 | h9; exact hno j h9; (subst h9; omega)) (by omega) _ _ _ hG (lv_sub hl [0, 1, 2, 3] rfl)
        · skip
          refine lv_iload_n hx hb dX0_placeInOrder_25 rfl (lv_at hl 0 rfl) ?_
          have ho9 := ho_M2
          exact g_iret (post := fun z M1 => z = q_pio R d ∧ q_off M M1 q (q + 3)) (z := (k : Int)) hx hb hr hG hlocks (⟨(by unfold q_pio; exact (q_fnd_hit (by omega) hno (by omega)).symm), ho9⟩) dX0_placeInOrder_26
  exact L_7 _ 0 0  rfl (by omega) (fun j h => absurd h (Nat.not_lt_zero _)) (Nat.lt_succ_self _) _ _ _ hG (lv_sub hl [0, 1, 2, 3] rfl)
set_option maxHeartbeats 4000000 in
set_option maxRecDepth 100000 in
theorem c_X6_breakOn (l : Launch) (G : gG) (M : Nat → Nat → Int) (hdm : ∀ k, k < 179 → gdm G k) (q : Nat) (hP : isP q) (hI : q_inv (M q)) (i : Nat) (hi : (i : Int) < q_nd (M q)) (ph : Int) : gMv l yX6_breakOn wsX6_breakOn ({ frames := 1, cells := 0, slots := 0, locals := 20 } : Room) G M [.ref (gad G q), .int (iZ (i : Int)), .int (iZ ph)] (fun M1 => M1 = q_set M q (q_brk (M q) i ph)) := by
  refine gMv_of (cc := cX6_breakOn) (maxL := 3) (ret := none) (by decide) rfl (Nat.le_of_ble_eq_true rfl) ?_
  intro p e s m below meth c ls hx hb hr hml hown hts hlocks hl hG
  have hown : s.vm.findClass RX6 = some m.cls := hown
  have hl : lv_has ls 3 [(0, .ref (gad G q)), (1, .int (iZ (i : Int))), (2, .int (iZ ph))] := hl
  have hdp_q : gdm G q := hdm _ (by rcases hP with h | h | h <;> omega)
  have hnd := hI.1
  have hdo := hI.2.1 i hi
  unfold q_dogok at hdo
  refine lv_aload_n hx hb dX6_breakOn_0 rfl (lv_at hl 0 rfl) ?_
  refine lv_iload_n hx hb dX6_breakOn_1 rfl (lv_at hl 1 rfl) ?_
  refine g_callS (As := [.int (iZ (i : Int))]) (rest := [.ref (gad G q)]) ⟨hx, hb, hml, hown, hts⟩ (c_X6_dogAt l G M (i : Int)) (va_cwS 1 hts gX6_breakOn_X6_dogAt rfl rfl rfl (by decide +kernel) ⟨Nat.le_of_ble_eq_true rfl, Nat.le_of_ble_eq_true rfl⟩) hG rfl hl.1 rfl (Nat.le_of_ble_eq_true rfl) dX6_breakOn_2 ⟨Nat.zero_le _, Nat.zero_le _⟩ (fun z1 M2 H locs hp_2 hG => ?_)
  obtain ⟨hz_2, hM_2⟩ := hp_2; replace hz_2 := hz_2.symm; subst hz_2; replace hM_2 := hM_2.symm; subst hM_2
  rw [show (14 + 11 * (i : Int) : Int) = (11 * (i : Int) + 14) from by omega]
  refine lv_iconst (v := iZ 2) hx hb dX6_breakOn_5 rfl ?_
  refine z_iadd (z := (11 * (i : Int) + 16)) hx hb (by omega) dX6_breakOn_6 ?_
  refine lv_iconst (v := iZ 2) hx hb dX6_breakOn_7 rfl ?_
  refine g_iast (j := (14 + 11 * i + 2)) hx hb hG (o := q) hdp_q (fun f => gE_P hP G f) (by omega) (by omega) (by omega) dX6_breakOn_8 (fun H locs hG => ?_)
  obtain ⟨M3, hM3⟩ : ∃ X, X = (q_wr M q (14 + 11 * i + 2) 2) := ⟨_, rfl⟩
  rw [← hM3] at hG
  refine lv_aload_n hx hb dX6_breakOn_9 rfl (lv_at hl 0 rfl) ?_
  refine lv_iload_n hx hb dX6_breakOn_10 rfl (lv_at hl 1 rfl) ?_
  refine g_callS (As := [.int (iZ (i : Int))]) (rest := [.ref (gad G q)]) ⟨hx, hb, hml, hown, hts⟩ (c_X6_dogAt l G M3 (i : Int)) (va_cwS 1 hts gX6_breakOn_X6_dogAt rfl rfl rfl (by decide +kernel) ⟨Nat.le_of_ble_eq_true rfl, Nat.le_of_ble_eq_true rfl⟩) hG rfl hl.1 rfl (Nat.le_of_ble_eq_true rfl) dX6_breakOn_11 ⟨Nat.zero_le _, Nat.zero_le _⟩ (fun z4 M5 H locs hp_11 hG => ?_)
  obtain ⟨hz_11, hM_11⟩ := hp_11; replace hz_11 := hz_11.symm; subst hz_11; replace hM_11 := hM_11.symm; subst hM_11
  rw [show (14 + 11 * (i : Int) : Int) = (11 * (i : Int) + 14) from by omega]
  refine lv_iconst (v := iZ 4) hx hb dX6_breakOn_14 rfl ?_
  refine z_iadd (z := (11 * (i : Int) + 18)) hx hb (by omega) dX6_breakOn_15 ?_
  refine lv_iload_n hx hb dX6_breakOn_16 rfl (lv_at hl 2 rfl) ?_
  refine g_iast (j := (14 + 11 * i + 4)) hx hb hG (o := q) hdp_q (fun f => gE_P hP G f) (by omega) (by omega) (by omega) dX6_breakOn_17 (fun H locs hG => ?_)
  obtain ⟨M6, hM6⟩ : ∃ X, X = (q_wr M3 q (14 + 11 * i + 4) ph) := ⟨_, rfl⟩
  rw [← hM6] at hG
  refine lv_aload_n hx hb dX6_breakOn_18 rfl (lv_at hl 0 rfl) ?_
  refine lv_bipush (v := iZ (6)) hx hb dX6_breakOn_19 (by decide) ?_
  refine lv_dup2_11 hx hb dX6_breakOn_21 rfl rfl ?_
  refine g_iald (z := (M q 6)) (j := 6) hx hb hG (o := q) hdp_q (gE_P hP G _) (by omega) (by omega) (by omega) (by rw [hM6, wr_ne _ _ _ (by omega), hM3, wr_ne _ _ _ (by omega)]) dX6_breakOn_22 ?_
  refine lv_iconst (v := iZ 1) hx hb dX6_breakOn_23 rfl ?_
  refine z_iadd (z := ((M q 6) + 1)) hx hb (by omega) dX6_breakOn_24 ?_
  refine g_iast (j := 6) hx hb hG (o := q) hdp_q (fun f => gE_P hP G f) (by omega) (by omega) (by omega) dX6_breakOn_25 (fun H locs hG => ?_)
  obtain ⟨M7, hM7⟩ : ∃ X, X = (q_wr M6 q 6 ((M q 6) + 1)) := ⟨_, rfl⟩
  rw [← hM7] at hG
  exact g_vret hx hb hr hG hlocks (by rw [hM7, hM6, hM3]; simp only [q_wr_set, q_set_at, q_set_set]; rfl) dX6_breakOn_26
set_option maxHeartbeats 4000000 in
set_option maxRecDepth 100000 in
theorem c_X6_nextOn (l : Launch) (G : gG) (M : Nat → Nat → Int) (hdm : ∀ k, k < 179 → gdm G k) (q : Nat) (hP : isP q) (hI : q_inv (M q)) (v : Int) : gMv l yX6_nextOn wsX6_nextOn ({ frames := 0, cells := 0, slots := 0, locals := 0 } : Room) G M [.ref (gad G q), .int (iZ v)] (fun M1 => M1 = q_set M q (q_nxt (M q) v)) := by
  refine gMv_of (cc := cX6_nextOn) (maxL := 2) (ret := none) (by decide) rfl (Nat.le_of_ble_eq_true rfl) ?_
  intro p e s m below meth c ls hx hb hr hml hown hts hlocks hl hG
  have hown : s.vm.findClass RX6 = some m.cls := hown
  have hl : lv_has ls 2 [(0, .ref (gad G q)), (1, .int (iZ v))] := hl
  have hdp_q : gdm G q := hdm _ (by rcases hP with h | h | h <;> omega)
  refine lv_aload_n hx hb dX6_nextOn_0 rfl (lv_at hl 0 rfl) ?_
  refine lv_iconst (v := iZ 0) hx hb dX6_nextOn_1 rfl ?_
  refine lv_dup2_11 hx hb dX6_nextOn_2 rfl rfl ?_
  refine g_iald (z := ((M q) 0)) (j := 0) hx hb hG (o := q) hdp_q (gE_P hP G _) (by omega) (by omega) (by omega) rfl dX6_nextOn_3 ?_
  refine lv_iconst (v := iZ 1) hx hb dX6_nextOn_4 rfl ?_
  refine z_iadd (z := (((M q) 0) + 1)) hx hb (by omega) dX6_nextOn_5 ?_
  refine g_iast (j := 0) hx hb hG (o := q) hdp_q (fun f => gE_P hP G f) (by omega) (by omega) (by omega) dX6_nextOn_6 (fun H locs hG => ?_)
  obtain ⟨M1, hM1⟩ : ∃ X, X = (q_wr M q 0 (((M q) 0) + 1)) := ⟨_, rfl⟩
  rw [← hM1] at hG
  refine lv_aload_n hx hb dX6_nextOn_7 rfl (lv_at hl 0 rfl) ?_
  refine lv_iconst (v := iZ 1) hx hb dX6_nextOn_8 rfl ?_
  refine lv_iconst (v := iZ 0) hx hb dX6_nextOn_9 rfl ?_
  refine g_iast (j := 1) hx hb hG (o := q) hdp_q (fun f => gE_P hP G f) (by omega) (by omega) (by omega) dX6_nextOn_10 (fun H locs hG => ?_)
  obtain ⟨M2, hM2⟩ : ∃ X, X = (q_wr M1 q 1 0) := ⟨_, rfl⟩
  rw [← hM2] at hG
  refine lv_aload_n hx hb dX6_nextOn_11 rfl (lv_at hl 0 rfl) ?_
  refine lv_iconst (v := iZ 2) hx hb dX6_nextOn_12 rfl ?_
  refine lv_iload_n hx hb dX6_nextOn_13 rfl (lv_at hl 1 rfl) ?_
  refine g_iast (j := 2) hx hb hG (o := q) hdp_q (fun f => gE_P hP G f) (by omega) (by omega) (by omega) dX6_nextOn_14 (fun H locs hG => ?_)
  obtain ⟨M3, hM3⟩ : ∃ X, X = (q_wr M2 q 2 v) := ⟨_, rfl⟩
  rw [← hM3] at hG
  exact g_vret hx hb hr hG hlocks (by rw [hM3, hM2, hM1]; simp only [q_wr_set, q_set_at, q_set_set]; rfl) dX6_nextOn_15
set_option maxHeartbeats 4000000 in
set_option maxRecDepth 100000 in
theorem c_X6_clear (l : Launch) (G : gG) (M : Nat → Nat → Int) (q : Nat) (hP : isP q) (hdp_q : gdm G q) : gMv l yX6_clear wsX6_clear ({ frames := 0, cells := 0, slots := 0, locals := 0 } : Room) G M [.ref (gad G q)] (fun M1 => q_same (M1 q) q_new ∧ q_off M M1 q (q + 1)) := by
  refine gMv_of (cc := cX6_clear) (maxL := 2) (ret := none) (by decide) rfl (Nat.le_of_ble_eq_true rfl) ?_
  intro p e s m below meth c ls hx hb hr hml hown hts hlocks hl hG
  have hown : s.vm.findClass RX6 = some m.cls := hown
  have hl : lv_has ls 2 [(0, .ref (gad G q))] := hl
  refine lv_iconst (v := iZ 0) hx hb dX6_clear_0 rfl ?_
  refine lv_istore_n (lv' := [(1, .int (iZ 0)), (0, .ref (gad G q))]) hx hb dX6_clear_1 rfl hl (by decide) rfl (fun ls hl => ?_)
  have L_2 : ∀ (n_2 : Nat) (k : Nat) (x_i : Int) (Mk : Nat → Nat → Int), (x_i = (k : Int)) → (k ≤ 146) → ((∀ j : Nat, j < k → Mk q j = 0)) → (q_off M Mk q (q + 1)) → 146 - k < n_2 → ∀ (H : Heap) (locs : List Loc) (ls : Array Slot), gH G Mk s H locs → lv_has ls 2 [(1, .int (iZ x_i)), (0, .ref (gad G q))] → W p l e ({ frames := 0, cells := 0, slots := 0, locals := 0 } : Room) s m [.ref (gad G q)].toArray below meth c H locs 0 0 (MQ below (va_Qv (fun (u : Nat → Nat → Int) => (fun M1 => q_same (M1 q) q_new ∧ q_off M M1 q (q + 1)) u) (fun u U => gB G u U) (gA G)) [.ref (gad G q)].toArray s 0 0 (gA G)) (F0 m 2 ls []) := by
    intro n_2
    induction n_2 with
    | zero => intro k x_i Mk he_x_i hk hrw ho hm_2; exact absurd hm_2 (Nat.not_lt_zero _)
    | succ n_2 ih_2 =>
      intro k x_i Mk he_x_i hk hrw ho hm_2 H locs ls hG hl
      subst he_x_i
      refine lv_iload_n hx hb dX6_clear_2 rfl (lv_at hl 0 rfl) ?_
      refine lv_sipush (v := iZ (146)) hx hb dX6_clear_3 (by decide) ?_
      refine z_icmp_ge (tgt := 19) hx hb (by omega) (by decide) dX6_clear_6 (by decide) (fun c_6 => ?_) (fun c_6 => ?_)
      · skip
        refine lv_aload_n hx hb dX6_clear_19 rfl (lv_at hl 1 rfl) ?_
        refine lv_iconst (v := iZ 2) hx hb dX6_clear_20 rfl ?_
        refine lv_sipush (v := iZ (300)) hx hb dX6_clear_21 (by decide) ?_
        refine g_iast (j := 2) hx hb hG (o := q) hdp_q (fun f => gE_P hP G f) (by omega) (by omega) (by omega) dX6_clear_24 (fun H locs hG => ?_)
        obtain ⟨M1, hM1⟩ : ∃ X, X = (q_wr Mk q 2 300) := ⟨_, rfl⟩
        rw [← hM1] at hG
        refine lv_aload_n hx hb dX6_clear_25 rfl (lv_at hl 1 rfl) ?_
        refine lv_iconst (v := iZ 3) hx hb dX6_clear_26 rfl ?_
        refine lv_bipush (v := iZ (-9)) hx hb dX6_clear_27 (by decide) ?_
        refine g_iast (j := 3) hx hb hG (o := q) hdp_q (fun f => gE_P hP G f) (by omega) (by omega) (by omega) dX6_clear_29 (fun H locs hG => ?_)
        obtain ⟨M2, hM2⟩ : ∃ X, X = (q_wr M1 q 3 (-9)) := ⟨_, rfl⟩
        rw [← hM2] at hG
        refine lv_iconst (v := iZ 0) hx hb dX6_clear_30 rfl ?_
        refine lv_istore_n (lv' := [(1, .int (iZ 0)), (0, .ref (gad G q))]) hx hb dX6_clear_31 rfl hl (by decide) rfl (fun ls hl => ?_)
        have L_32 : ∀ (n_32 : Nat) (k2 : Nat) (x_j : Int) (Mj : Nat → Nat → Int), (x_j = (k2 : Int)) → (k2 ≤ 6) → ((∀ j : Nat, j < 146 → Mj q j = if 8 ≤ j ∧ j < 8 + k2 then (j : Int) - 8 else if j = 2 then 300 else if j = 3 then -9 else 0)) → (q_off M Mj q (q + 1)) → 6 - k2 < n_32 → ∀ (H : Heap) (locs : List Loc) (ls : Array Slot), gH G Mj s H locs → lv_has ls 2 [(1, .int (iZ x_j)), (0, .ref (gad G q))] → W p l e ({ frames := 0, cells := 0, slots := 0, locals := 0 } : Room) s m [.ref (gad G q)].toArray below meth c H locs 0 0 (MQ below (va_Qv (fun (u : Nat → Nat → Int) => (fun M1 => q_same (M1 q) q_new ∧ q_off M M1 q (q + 1)) u) (fun u U => gB G u U) (gA G)) [.ref (gad G q)].toArray s 0 0 (gA G)) (F0 m 32 ls []) := by
          intro n_32
          induction n_32 with
          | zero => intro k2 x_j Mj he_x_j hk2 hrk hoj hm_32; exact absurd hm_32 (Nat.not_lt_zero _)
          | succ n_32 ih_32 =>
            intro k2 x_j Mj he_x_j hk2 hrk hoj hm_32 H locs ls hG hl
            subst he_x_j
            refine lv_iload_n hx hb dX6_clear_32 rfl (lv_at hl 0 rfl) ?_
            refine lv_bipush (v := iZ (6)) hx hb dX6_clear_33 (by decide) ?_
            refine z_icmp_ge (tgt := 51) hx hb (by omega) (by decide) dX6_clear_35 (by decide) (fun c_35 => ?_) (fun c_35 => ?_)
            · skip
              exact g_vret hx hb hr hG hlocks (⟨fun j hj => by rw [hrk j hj]; unfold q_new; (repeat' split) <;> omega, hoj⟩) dX6_clear_51
            · skip
              refine lv_aload_n hx hb dX6_clear_38 rfl (lv_at hl 1 rfl) ?_
              refine lv_bipush (v := iZ (8)) hx hb dX6_clear_39 (by decide) ?_
              refine lv_iload_n hx hb dX6_clear_41 rfl (lv_at hl 0 rfl) ?_
              refine z_iadd (z := ((k2 : Int) + 8)) hx hb (by omega) dX6_clear_42 ?_
              refine lv_iload_n hx hb dX6_clear_43 rfl (lv_at hl 0 rfl) ?_
              refine g_iast (j := (8 + k2)) hx hb hG (o := q) hdp_q (fun f => gE_P hP G f) (by omega) (by omega) (by omega) dX6_clear_44 (fun H locs hG => ?_)
              obtain ⟨M3, hM3⟩ : ∃ X, X = (q_wr Mj q (8 + k2) (k2 : Int)) := ⟨_, rfl⟩
              rw [← hM3] at hG
              refine z_iinc (z := ((k2 : Int) + 1)) (lv' := [(1, .int (iZ ((k2 : Int) + 1))), (0, .ref (gad G q))]) hx hb dX6_clear_45 hl (k := 0) rfl (by omega) (by decide) rfl (fun ls hl => ?_)
              refine lv_goto (tgt := 32) hx hb dX6_clear_48 (by decide) ?_
              exact ih_32 (k2 + 1) ((k2 : Int) + 1) M3 (by omega) (by omega) (fun j hj => by rw [hM3, wr_ap, hrk j hj]; (repeat' split) <;> omega) (by rw [hM3]; exact q_off.wr hoj (by omega) (by omega)) (by omega) _ _ _ hG (lv_sub hl [0, 1] rfl)
        exact L_32 _ 0 0 M2 rfl (by omega) (fun j hj => by rw [hM2, wr_ap, hM1, wr_ap, hrw j (by omega)]; (repeat' split) <;> omega) (by rw [hM2, hM1]; exact q_off.wr (q_off.wr ho (by omega) (by omega)) (by omega) (by omega)) (Nat.lt_succ_self _) _ _ _ hG (lv_sub hl [0, 1] rfl)
      · skip
        refine lv_aload_n hx hb dX6_clear_9 rfl (lv_at hl 1 rfl) ?_
        refine lv_iload_n hx hb dX6_clear_10 rfl (lv_at hl 0 rfl) ?_
        refine lv_iconst (v := iZ 0) hx hb dX6_clear_11 rfl ?_
        refine g_iast (j := k) hx hb hG (o := q) hdp_q (fun f => gE_P hP G f) (by omega) (by omega) (by omega) dX6_clear_12 (fun H locs hG => ?_)
        obtain ⟨M4, hM4⟩ : ∃ X, X = (q_wr Mk q k 0) := ⟨_, rfl⟩
        rw [← hM4] at hG
        refine z_iinc (z := ((k : Int) + 1)) (lv' := [(1, .int (iZ ((k : Int) + 1))), (0, .ref (gad G q))]) hx hb dX6_clear_13 hl (k := 0) rfl (by omega) (by decide) rfl (fun ls hl => ?_)
        refine lv_goto (tgt := 2) hx hb dX6_clear_16 (by decide) ?_
        exact ih_2 (k + 1) ((k : Int) + 1) M4 (by omega) (by omega) (fun j hj => by rw [hM4, wr_ap]; split; rfl; (exact hrw j (by omega))) (by rw [hM4]; exact q_off.wr ho (by omega) (by omega)) (by omega) _ _ _ hG (lv_sub hl [0, 1] rfl)
  exact L_2 _ 0 0 M rfl (by omega) (fun j h => absurd h (Nat.not_lt_zero _)) (q_off.rf _ _ _) (Nat.lt_succ_self _) _ _ _ hG (lv_sub hl [0, 1] rfl)
set_option maxHeartbeats 4000000 in
set_option maxRecDepth 100000 in
theorem c_X6_copyPage (l : Launch) (G : gG) (M : Nat → Nat → Int) (hdm : ∀ k, k < 179 → gdm G k) (o1 o2 n1 n2 a1 a2 : Nat) (h1 : o1 < 179) (h2 : o2 < 179) (he1 : ∀ f, gE G f o1 = gI G n1 f) (he2 : ∀ f, gE G f o2 = gI G n2 f) (hn1 : a1 + 146 ≤ n1) (hn2 : a2 + 146 ≤ n2) (hb1 : n1 < 4096) (hb2 : n2 < 4096) (hne : o1 ≠ o2) : gMv l yX6_copyPage wsX6_copyPage ({ frames := 0, cells := 0, slots := 0, locals := 0 } : Room) G M [.ref (gad G o1), .int (iZ (a1 : Int)), .ref (gad G o2), .int (iZ (a2 : Int))] (fun M1 => (∀ k : Nat, k < 146 → M1 o2 (a2 + k) = M o1 (a1 + k)) ∧ (∀ b : Nat, (b < a2 ∨ a2 + 146 ≤ b) → M1 o2 b = M o2 b) ∧ ∀ a, a ≠ o2 → M1 a = M a) := by
  refine gMv_of (cc := cX6_copyPage) (maxL := 5) (ret := none) (by decide) rfl (Nat.le_of_ble_eq_true rfl) ?_
  intro p e s m below meth c ls hx hb hr hml hown hts hlocks hl hG
  have hown : s.vm.findClass RX6 = some m.cls := hown
  have hl : lv_has ls 5 [(0, .ref (gad G o1)), (1, .int (iZ (a1 : Int))), (2, .ref (gad G o2)), (3, .int (iZ (a2 : Int)))] := hl
  refine lv_iconst (v := iZ 0) hx hb dX6_copyPage_0 rfl ?_
  refine lv_istore (lv' := [(4, .int (iZ 0)), (0, .ref (gad G o1)), (1, .int (iZ (a1 : Int))), (2, .ref (gad G o2)), (3, .int (iZ (a2 : Int)))]) hx hb dX6_copyPage_1 hl (by decide) rfl (fun ls hl => ?_)
  have L_3 : ∀ (n_3 : Nat) (k : Nat) (x_i : Int) (Mk : Nat → Nat → Int), (x_i = (k : Int)) → (k ≤ 146) → ((∀ j : Nat, j < k → Mk o2 (a2 + j) = M o1 (a1 + j))) → ((∀ b : Nat, (b < a2 ∨ a2 + 146 ≤ b) → Mk o2 b = M o2 b)) → ((∀ a, a ≠ o2 → Mk a = M a)) → 146 - k < n_3 → ∀ (H : Heap) (locs : List Loc) (ls : Array Slot), gH G Mk s H locs → lv_has ls 5 [(4, .int (iZ x_i)), (0, .ref (gad G o1)), (1, .int (iZ (a1 : Int))), (2, .ref (gad G o2)), (3, .int (iZ (a2 : Int)))] → W p l e ({ frames := 0, cells := 0, slots := 0, locals := 0 } : Room) s m [.ref (gad G o1), .int (iZ (a1 : Int)), .ref (gad G o2), .int (iZ (a2 : Int))].toArray below meth c H locs 0 0 (MQ below (va_Qv (fun (u : Nat → Nat → Int) => (fun M1 => (∀ k : Nat, k < 146 → M1 o2 (a2 + k) = M o1 (a1 + k)) ∧ (∀ b : Nat, (b < a2 ∨ a2 + 146 ≤ b) → M1 o2 b = M o2 b) ∧ ∀ a, a ≠ o2 → M1 a = M a) u) (fun u U => gB G u U) (gA G)) [.ref (gad G o1), .int (iZ (a1 : Int)), .ref (gad G o2), .int (iZ (a2 : Int))].toArray s 0 0 (gA G)) (F0 m 3 ls []) := by
    intro n_3
    induction n_3 with
    | zero => intro k x_i Mk he_x_i hk hrw hrb ho hm_3; exact absurd hm_3 (Nat.not_lt_zero _)
    | succ n_3 ih_3 =>
      intro k x_i Mk he_x_i hk hrw hrb ho hm_3 H locs ls hG hl
      subst he_x_i
      refine lv_iload hx hb dX6_copyPage_3 (lv_at hl 0 rfl) ?_
      refine lv_sipush (v := iZ (146)) hx hb dX6_copyPage_5 (by decide) ?_
      refine z_icmp_ge (tgt := 29) hx hb (by omega) (by decide) dX6_copyPage_8 (by decide) (fun c_8 => ?_) (fun c_8 => ?_)
      · skip
        exact g_vret hx hb hr hG hlocks (⟨fun k2 hk2 => hrw k2 (by omega), hrb, ho⟩) dX6_copyPage_29
      · skip
        refine lv_aload_n hx hb dX6_copyPage_11 rfl (lv_at hl 3 rfl) ?_
        refine lv_iload_n hx hb dX6_copyPage_12 rfl (lv_at hl 4 rfl) ?_
        refine lv_iload hx hb dX6_copyPage_13 (lv_at hl 0 rfl) ?_
        refine z_iadd (z := ((a2 : Int) + (k : Int))) hx hb (by omega) dX6_copyPage_15 ?_
        refine lv_aload_n hx hb dX6_copyPage_16 rfl (lv_at hl 1 rfl) ?_
        refine lv_iload_n hx hb dX6_copyPage_17 rfl (lv_at hl 2 rfl) ?_
        refine lv_iload hx hb dX6_copyPage_18 (lv_at hl 0 rfl) ?_
        refine z_iadd (z := ((a1 : Int) + (k : Int))) hx hb (by omega) dX6_copyPage_20 ?_
        refine g_iald (z := (Mk o1 (a1 + k))) (j := (a1 + k)) hx hb hG (o := o1) (hdm o1 h1) (he1 _) (by omega) (by omega) (by omega) rfl dX6_copyPage_21 ?_
        refine g_iast (j := (a2 + k)) hx hb hG (o := o2) (hdm o2 h2) he2 (by omega) (by omega) (by omega) dX6_copyPage_22 (fun H locs hG => ?_)
        obtain ⟨M1, hM1⟩ : ∃ X, X = (q_wr Mk o2 (a2 + k) (Mk o1 (a1 + k))) := ⟨_, rfl⟩
        rw [← hM1] at hG
        refine z_iinc (z := ((k : Int) + 1)) (lv' := [(4, .int (iZ ((k : Int) + 1))), (0, .ref (gad G o1)), (1, .int (iZ (a1 : Int))), (2, .ref (gad G o2)), (3, .int (iZ (a2 : Int)))]) hx hb dX6_copyPage_23 hl (k := 0) rfl (by omega) (by decide) rfl (fun ls hl => ?_)
        refine lv_goto (tgt := 3) hx hb dX6_copyPage_26 (by decide) ?_
        exact ih_3 (k + 1) ((k : Int) + 1) M1 (by omega) (by omega) (fun j hj => by rw [hM1, wr_ap]; by_cases e9 : j = k; (subst e9; rw [if_pos ⟨rfl, rfl⟩, ho o1 hne]); (rw [if_neg (by omega)]; exact hrw j (by omega))) (fun b hb9 => by rw [hM1, wr_ne _ _ _ (by omega)]; exact hrb b hb9) (fun a ha => by rw [hM1, wr_off _ _ _ ha]; exact ho a ha) (by omega) _ _ _ hG (lv_sub hl [0, 1, 2, 3, 4] rfl)
  exact L_3 _ 0 0 M rfl (by omega) (fun j h => absurd h (Nat.not_lt_zero _)) (fun _ _ => rfl) (fun _ _ => rfl) (Nat.lt_succ_self _) _ _ _ hG (lv_sub hl [0, 1, 2, 3, 4] rfl)
