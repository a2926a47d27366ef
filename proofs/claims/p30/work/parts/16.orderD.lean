set_option maxHeartbeats 4000000 in
set_option maxRecDepth 100000 in
theorem c_X0_firstToRun (l : Launch) (G : gG) (M : Nat → Nat → Int) (hdm : ∀ k, k < 169 → gdm G k) (q : Nat) (hC : isC q) (t : Nat) (hT : isT t) (R : Nat → Int) (hR : q_tr M t R) (hI : q_inv R) : gMi l yX0_firstToRun wsX0_firstToRun ({ frames := 2, cells := 0, slots := 0, locals := 51 } : Room) G M [.ref (gad G q), .ref (gad G t)] (fun z M1 => z = q_first R ∧ q_off M M1 q (q + 3)) := by
  refine gMi_of (cc := cX0_firstToRun) (maxL := 2) (ret := some .int) (by decide) rfl (Nat.le_of_ble_eq_true rfl) ?_
  intro p e s m below meth c ls hx hb hr hml hown hts hlocks hl hG
  have hown : s.vm.findClass RX0 = some m.cls := hown
  have hl : lv_has ls 2 [(0, .ref (gad G q)), (1, .ref (gad G t))] := hl
  have hdc_q : ∀ r, r < 4 → gdm G (q + r) := fun r hr => hdm _ (by rcases hC with h | h <;> omega)
  have hinX0 : ∀ w ∈ u_ws RX0 TX0 4, w ∈ wsX0_firstToRun := by decide +kernel
  have f9 := hts (.fieldLink RX0 9 "DogTrials$Course" "row" "[I") (by decide +kernel)
  have f26 := hts (.fieldLink RX0 26 "DogTrials$Course" "length" "I") (by decide +kernel)
  have ht1 := hT.1
  have ht2 := hT.2
  have hq := hC
  unfold isC at hq
  have hnd := hI.1
  have hle := q_orn_le hI
  refine lv_aload_n hx hb dX0_firstToRun_0 rfl (lv_at hl 0 rfl) ?_
  refine lv_aload_n hx hb dX0_firstToRun_1 rfl (lv_at hl 1 rfl) ?_
  refine g_vcallV (b := q) (As := [.ref (gad G t)]) (rest := []) ⟨hx, hb, hml, hown, hts⟩ (c_X0_makeOrder l G M hdm q hC t hT R hR hI) (cwV 1 hts gX0_firstToRun_X0_makeOrder rfl rfl rfl (by decide +kernel) ⟨Nat.le_of_ble_eq_true rfl, Nat.le_of_ble_eq_true rfl⟩) hG (g_recv hG (b := q) (hdc_q 0 (by decide)) (gE_C hC G _) rfl) rfl hl.1 rfl (Nat.le_of_ble_eq_true rfl) dX0_firstToRun_2 ⟨Nat.zero_le _, Nat.zero_le _⟩ (fun M2 H locs hp_2 hG => ?_)
  obtain ⟨hn_M2, hf_M2, ho_M2⟩ := hp_2
  have hR_M2 : q_tr M2 t R := q_tr_off hR ho_M2 (by omega)
  refine lv_aload_n hx hb dX0_firstToRun_5 rfl (lv_at hl 0 rfl) ?_
  refine g_geti (z := ((q_orn R) : Int)) hx hb hts hinX0 hown hG (o := q) (hdc_q 0 (by decide)) (gE_C hC G _) rfl 2 (by decide) f26 (fun _ h => h) rfl hn_M2 dX0_firstToRun_6 ?_
  refine z_if_le (tgt := 21) hx hb (by omega) dX0_firstToRun_9 (by decide) (fun c_9 => ?_) (fun c_9 => ?_)
  · skip
    refine lv_bipush (v := iZ (-9)) hx hb dX0_firstToRun_21 (by decide) ?_
    have ho9 := ho_M2
    exact g_iret (post := fun z M1 => z = q_first R ∧ q_off M M1 q (q + 3)) (z := (-9)) hx hb hr hG hlocks (⟨by unfold q_first; first | (rw [if_neg (by omega)]; done) | (rw [if_pos (by omega)]; done), ho9⟩) dX0_firstToRun_23
  · skip
    refine lv_aload_n hx hb dX0_firstToRun_12 rfl (lv_at hl 0 rfl) ?_
    refine g_get hx hb hts hinX0 hown hG (o := q) (hdc_q 0 (by decide)) (gE_C hC G _) rfl 0 (by decide) f9 (fun _ h => h) rfl dX0_firstToRun_13 ?_
    refine lv_iconst (v := iZ 0) hx hb dX0_firstToRun_16 rfl ?_
    refine g_iald (z := (q_orf R 0)) (j := 0) hx hb hG (o := (q + 1)) (hdc_q 1 (by decide)) (gE_c1 hC G _) (by omega) (by omega) (by omega) (hf_M2 0 (by omega)) dX0_firstToRun_17 ?_
    refine lv_goto (tgt := 23) hx hb dX0_firstToRun_18 (by decide) ?_
    have ho9 := ho_M2
    exact g_iret (post := fun z M1 => z = q_first R ∧ q_off M M1 q (q + 3)) (z := (q_orf R 0)) hx hb hr hG hlocks (⟨by unfold q_first; first | (rw [if_neg (by omega)]; done) | (rw [if_pos (by omega)]; done), ho9⟩) dX0_firstToRun_23
set_option maxHeartbeats 4000000 in
set_option maxRecDepth 100000 in
theorem c_X0_dogInOrder (l : Launch) (G : gG) (M : Nat → Nat → Int) (hdm : ∀ k, k < 169 → gdm G k) (q : Nat) (hC : isC q) (t : Nat) (hT : isT t) (R : Nat → Int) (hR : q_tr M t R) (hI : q_inv R) (kk : Int) (hkk : -2147483648 ≤ kk ∧ kk < 2147483648) : gMi l yX0_dogInOrder wsX0_dogInOrder ({ frames := 2, cells := 0, slots := 0, locals := 51 } : Room) G M [.ref (gad G q), .ref (gad G t), .int (iZ kk)] (fun z M1 => z = q_atk R kk ∧ q_off M M1 q (q + 3)) := by
  refine gMi_of (cc := cX0_dogInOrder) (maxL := 3) (ret := some .int) (by decide) rfl (Nat.le_of_ble_eq_true rfl) ?_
  intro p e s m below meth c ls hx hb hr hml hown hts hlocks hl hG
  have hown : s.vm.findClass RX0 = some m.cls := hown
  have hl : lv_has ls 3 [(0, .ref (gad G q)), (1, .ref (gad G t)), (2, .int (iZ kk))] := hl
  have hdc_q : ∀ r, r < 4 → gdm G (q + r) := fun r hr => hdm _ (by rcases hC with h | h <;> omega)
  have hinX0 : ∀ w ∈ u_ws RX0 TX0 4, w ∈ wsX0_dogInOrder := by decide +kernel
  have f9 := hts (.fieldLink RX0 9 "DogTrials$Course" "row" "[I") (by decide +kernel)
  have f26 := hts (.fieldLink RX0 26 "DogTrials$Course" "length" "I") (by decide +kernel)
  have ht1 := hT.1
  have ht2 := hT.2
  have hq := hC
  unfold isC at hq
  have hnd := hI.1
  have hle := q_orn_le hI
  refine lv_aload_n hx hb dX0_dogInOrder_0 rfl (lv_at hl 0 rfl) ?_
  refine lv_aload_n hx hb dX0_dogInOrder_1 rfl (lv_at hl 1 rfl) ?_
  refine g_vcallV (b := q) (As := [.ref (gad G t)]) (rest := []) ⟨hx, hb, hml, hown, hts⟩ (c_X0_makeOrder l G M hdm q hC t hT R hR hI) (cwV 1 hts gX0_dogInOrder_X0_makeOrder rfl rfl rfl (by decide +kernel) ⟨Nat.le_of_ble_eq_true rfl, Nat.le_of_ble_eq_true rfl⟩) hG (g_recv hG (b := q) (hdc_q 0 (by decide)) (gE_C hC G _) rfl) rfl hl.1 rfl (Nat.le_of_ble_eq_true rfl) dX0_dogInOrder_2 ⟨Nat.zero_le _, Nat.zero_le _⟩ (fun M2 H locs hp_2 hG => ?_)
  obtain ⟨hn_M2, hf_M2, ho_M2⟩ := hp_2
  have hR_M2 : q_tr M2 t R := q_tr_off hR ho_M2 (by omega)
  refine lv_iload_n hx hb dX0_dogInOrder_5 rfl (lv_at hl 2 rfl) ?_
  refine z_if_lt (tgt := 26) hx hb (by omega) dX0_dogInOrder_6 (by decide) (fun c_6 => ?_) (fun c_6 => ?_)
  · skip
    refine lv_bipush (v := iZ (-9)) hx hb dX0_dogInOrder_26 (by decide) ?_
    have ho9 := ho_M2
    exact g_iret (post := fun z M1 => z = q_atk R kk ∧ q_off M M1 q (q + 3)) (z := (-9)) hx hb hr hG hlocks (⟨by unfold q_atk; first | (rw [if_neg (by omega)]; done) | (rw [if_pos (by omega)]; done), ho9⟩) dX0_dogInOrder_28
  · skip
    refine lv_iload_n hx hb dX0_dogInOrder_9 rfl (lv_at hl 2 rfl) ?_
    refine lv_aload_n hx hb dX0_dogInOrder_10 rfl (lv_at hl 0 rfl) ?_
    refine g_geti (z := ((q_orn R) : Int)) hx hb hts hinX0 hown hG (o := q) (hdc_q 0 (by decide)) (gE_C hC G _) rfl 2 (by decide) f26 (fun _ h => h) rfl hn_M2 dX0_dogInOrder_11 ?_
    refine z_icmp_ge (tgt := 26) hx hb (by omega) (by omega) dX0_dogInOrder_14 (by decide) (fun c_14 => ?_) (fun c_14 => ?_)
    · skip
      refine lv_bipush (v := iZ (-9)) hx hb dX0_dogInOrder_26 (by decide) ?_
      have ho9 := ho_M2
      exact g_iret (post := fun z M1 => z = q_atk R kk ∧ q_off M M1 q (q + 3)) (z := (-9)) hx hb hr hG hlocks (⟨by unfold q_atk; first | (rw [if_neg (by omega)]; done) | (rw [if_pos (by omega)]; done), ho9⟩) dX0_dogInOrder_28
    · skip
      refine lv_aload_n hx hb dX0_dogInOrder_17 rfl (lv_at hl 0 rfl) ?_
      refine g_get hx hb hts hinX0 hown hG (o := q) (hdc_q 0 (by decide)) (gE_C hC G _) rfl 0 (by decide) f9 (fun _ h => h) rfl dX0_dogInOrder_18 ?_
      refine lv_iload_n hx hb dX0_dogInOrder_21 rfl (lv_at hl 2 rfl) ?_
      refine g_iald (z := (q_orf R kk.toNat)) (j := ((kk.toNat))) hx hb hG (o := (q + 1)) (hdc_q 1 (by decide)) (gE_c1 hC G _) (by omega) (by omega) (by omega) (hf_M2 kk.toNat (by omega)) dX0_dogInOrder_22 ?_
      refine lv_goto (tgt := 28) hx hb dX0_dogInOrder_23 (by decide) ?_
      have ho9 := ho_M2
      exact g_iret (post := fun z M1 => z = q_atk R kk ∧ q_off M M1 q (q + 3)) (z := (q_orf R kk.toNat)) hx hb hr hG hlocks (⟨by unfold q_atk; first | (rw [if_neg (by omega)]; done) | (rw [if_pos (by omega)]; done), ho9⟩) dX0_dogInOrder_28
set_option maxHeartbeats 4000000 in
set_option maxRecDepth 100000 in
theorem c_X0_placeInOrder (l : Launch) (G : gG) (M : Nat → Nat → Int) (hdm : ∀ k, k < 169 → gdm G k) (q : Nat) (hC : isC q) (t : Nat) (hT : isT t) (R : Nat → Int) (hR : q_tr M t R) (hI : q_inv R) (d : Int) (hd : -2147483648 ≤ d ∧ d < 2147483648) : gMi l yX0_placeInOrder wsX0_placeInOrder ({ frames := 2, cells := 0, slots := 0, locals := 51 } : Room) G M [.ref (gad G q), .ref (gad G t), .int (iZ d)] (fun z M1 => z = q_pio R d ∧ q_off M M1 q (q + 3)) := by
  refine gMi_of (cc := cX0_placeInOrder) (maxL := 4) (ret := some .int) (by decide) rfl (Nat.le_of_ble_eq_true rfl) ?_
  intro p e s m below meth c ls hx hb hr hml hown hts hlocks hl hG
  have hown : s.vm.findClass RX0 = some m.cls := hown
  have hl : lv_has ls 4 [(0, .ref (gad G q)), (1, .ref (gad G t)), (2, .int (iZ d))] := hl
  have hdc_q : ∀ r, r < 4 → gdm G (q + r) := fun r hr => hdm _ (by rcases hC with h | h <;> omega)
  have hinX0 : ∀ w ∈ u_ws RX0 TX0 4, w ∈ wsX0_placeInOrder := by decide +kernel
  have f9 := hts (.fieldLink RX0 9 "DogTrials$Course" "row" "[I") (by decide +kernel)
  have f26 := hts (.fieldLink RX0 26 "DogTrials$Course" "length" "I") (by decide +kernel)
  have ht1 := hT.1
  have ht2 := hT.2
  have hq := hC
  unfold isC at hq
  have hnd := hI.1
  have hle := q_orn_le hI
  refine lv_aload_n hx hb dX0_placeInOrder_0 rfl (lv_at hl 0 rfl) ?_
  refine lv_aload_n hx hb dX0_placeInOrder_1 rfl (lv_at hl 1 rfl) ?_
  refine g_vcallV (b := q) (As := [.ref (gad G t)]) (rest := []) ⟨hx, hb, hml, hown, hts⟩ (c_X0_makeOrder l G M hdm q hC t hT R hR hI) (cwV 1 hts gX0_placeInOrder_X0_makeOrder rfl rfl rfl (by decide +kernel) ⟨Nat.le_of_ble_eq_true rfl, Nat.le_of_ble_eq_true rfl⟩) hG (g_recv hG (b := q) (hdc_q 0 (by decide)) (gE_C hC G _) rfl) rfl hl.1 rfl (Nat.le_of_ble_eq_true rfl) dX0_placeInOrder_2 ⟨Nat.zero_le _, Nat.zero_le _⟩ (fun M2 H locs hp_2 hG => ?_)
  obtain ⟨hn_M2, hf_M2, ho_M2⟩ := hp_2
  have hR_M2 : q_tr M2 t R := q_tr_off hR ho_M2 (by omega)
  refine lv_iconst (v := iZ 0) hx hb dX0_placeInOrder_5 rfl ?_
  refine lv_istore_n (lv' := [(3, .int (iZ 0)), (0, .ref (gad G q)), (1, .ref (gad G t)), (2, .int (iZ d))]) hx hb dX0_placeInOrder_6 rfl hl (by decide) rfl (fun ls hl => ?_)
  have L_7 : ∀ (n_7 : Nat) (k : Nat) (x_i : Int), (x_i = (k : Int)) → (k ≤ q_orn R) → ((∀ j : Nat, j < k → q_orf R j ≠ d)) → 12 - k < n_7 → ∀ (H : Heap) (locs : List Loc) (ls : Array Slot), gH G M2 s H locs → lv_has ls 4 [(3, .int (iZ x_i)), (0, .ref (gad G q)), (1, .ref (gad G t)), (2, .int (iZ d))] → W p l e ({ frames := 2, cells := 0, slots := 0, locals := 51 } : Room) s m [.ref (gad G q), .ref (gad G t), .int (iZ d)].toArray below meth c H locs 0 0 (MQ below (va_Qi (fun r (u : Int × (Nat → Nat → Int)) => r = iZ u.1 ∧ (fun z M1 => z = q_pio R d ∧ q_off M M1 q (q + 3)) u.1 u.2) (fun u U => gB G u.2 U) (gA G)) [.ref (gad G q), .ref (gad G t), .int (iZ d)].toArray s 0 0 (gA G)) (F0 m 7 ls []) := by
    intro n_7
    induction n_7 with
    | zero => intro k x_i he_x_i hk hno hm_7; exact absurd hm_7 (Nat.not_lt_zero _)
    | succ n_7 ih_7 =>
      intro k x_i he_x_i hk hno hm_7 H locs ls hG hl
      subst he_x_i
      refine lv_iload_n hx hb dX0_placeInOrder_7 rfl (lv_at hl 0 rfl) ?_
      refine lv_aload_n hx hb dX0_placeInOrder_8 rfl (lv_at hl 1 rfl) ?_
      refine g_geti (z := ((q_orn R) : Int)) hx hb hts hinX0 hown hG (o := q) (hdc_q 0 (by decide)) (gE_C hC G _) rfl 2 (by decide) f26 (fun _ h => h) rfl hn_M2 dX0_placeInOrder_9 ?_
      refine z_icmp_ge (tgt := 33) hx hb (by omega) (by omega) dX0_placeInOrder_12 (by decide) (fun c_12 => ?_) (fun c_12 => ?_)
      · skip
        refine lv_bipush (v := iZ (-9)) hx hb dX0_placeInOrder_33 (by decide) ?_
        have ho9 := ho_M2
        exact g_iret (post := fun z M1 => z = q_pio R d ∧ q_off M M1 q (q + 3)) (z := (-9)) hx hb hr hG hlocks (⟨(by unfold q_pio; exact (q_fnd_no (fun j hj => hno j (by omega))).symm), ho9⟩) dX0_placeInOrder_35
      · skip
        have hfi := q_orf_in hI (k := k) (by omega)
        refine lv_aload_n hx hb dX0_placeInOrder_15 rfl (lv_at hl 1 rfl) ?_
        refine g_get hx hb hts hinX0 hown hG (o := q) (hdc_q 0 (by decide)) (gE_C hC G _) rfl 0 (by decide) f9 (fun _ h => h) rfl dX0_placeInOrder_16 ?_
        refine lv_iload_n hx hb dX0_placeInOrder_19 rfl (lv_at hl 0 rfl) ?_
        refine g_iald (z := (q_orf R k)) (j := k) hx hb hG (o := (q + 1)) (hdc_q 1 (by decide)) (gE_c1 hC G _) (by omega) (by omega) (by omega) (hf_M2 k (by omega)) dX0_placeInOrder_20 ?_
        refine lv_iload_n hx hb dX0_placeInOrder_21 rfl (lv_at hl 3 rfl) ?_
        refine z_icmp_ne (tgt := 27) hx hb (by omega) (by omega) dX0_placeInOrder_22 (by decide) (fun c_22 => ?_) (fun c_22 => ?_)
        · skip
          refine z_iinc (z := ((k : Int) + 1)) (lv' := [(3, .int (iZ ((k : Int) + 1))), (0, .ref (gad G q)), (1, .ref (gad G t)), (2, .int (iZ d))]) hx hb dX0_placeInOrder_27 hl (k := 0) rfl (by omega) (by decide) rfl (fun ls hl => ?_)
          refine lv_goto (tgt := 7) hx hb dX0_placeInOrder_30 (by decide) ?_
          exact ih_7 (k + 1) ((k : Int) + 1)  (by omega) (by omega) (fun j h => by rcases (show j < k ∨ j = k by omega) with h9 | h9; exact hno j h9; (subst h9; omega)) (by omega) _ _ _ hG (lv_sub hl [0, 1, 2, 3] rfl)
        · skip
          refine lv_iload_n hx hb dX0_placeInOrder_25 rfl (lv_at hl 0 rfl) ?_
          have ho9 := ho_M2
          exact g_iret (post := fun z M1 => z = q_pio R d ∧ q_off M M1 q (q + 3)) (z := (k : Int)) hx hb hr hG hlocks (⟨(by unfold q_pio; exact (q_fnd_hit (by omega) hno (by omega)).symm), ho9⟩) dX0_placeInOrder_26
  exact L_7 _ 0 0  rfl (by omega) (fun j h => absurd h (Nat.not_lt_zero _)) (Nat.lt_succ_self _) _ _ _ hG (lv_sub hl [0, 1, 2, 3] rfl)
