set_option maxHeartbeats 4000000 in
set_option maxRecDepth 100000 in
theorem c_X5_isOwner (l : Launch) (G : gG) (M : Nat → Nat → Int) (a : Int) (ha : -2147483648 ≤ a ∧ a < 2147483648) : gMi l yX5_isOwner wsX5_isOwner ({ frames := 0, cells := 0, slots := 0, locals := 0 } : Room) G M [.int (iZ a)] (fun z M1 => z = (if 0 ≤ a ∧ a ≤ 5 then 1 else 0) ∧ M1 = M) := by
  refine gMi_of (cc := cX5_isOwner) (maxL := 1) (ret := some .boolean) (by decide) rfl (Nat.le_of_ble_eq_true rfl) ?_
  intro p e s m below meth c ls hx hb hr hml hown hts hlocks hl hG
  have hown : s.vm.findClass RX5 = some m.cls := hown
  have hl : lv_has ls 1 [(0, .int (iZ a))] := hl
  refine lv_iload_n hx hb dX5_isOwner_0 rfl (lv_at hl 0 rfl) ?_
  refine z_if_lt (tgt := 14) hx hb (by omega) dX5_isOwner_1 (by decide) (fun c_1 => ?_) (fun c_1 => ?_)
  · skip
    refine lv_iconst (v := iZ 0) hx hb dX5_isOwner_14 rfl ?_
    exact g_zret (post := fun z M1 => z = (if 0 ≤ a ∧ a ≤ 5 then 1 else 0) ∧ M1 = M) (z := 0) hx hb hr hG hlocks (Or.inl rfl) (⟨by first | (rw [if_pos (by omega)]) | (rw [if_neg (by omega)]), rfl⟩) dX5_isOwner_15
  · skip
    refine lv_iload_n hx hb dX5_isOwner_4 rfl (lv_at hl 0 rfl) ?_
    refine lv_bipush (v := iZ (6)) hx hb dX5_isOwner_5 (by decide) ?_
    refine z_icmp_ge (tgt := 14) hx hb (by omega) (by decide) dX5_isOwner_7 (by decide) (fun c_7 => ?_) (fun c_7 => ?_)
    · skip
      refine lv_iconst (v := iZ 0) hx hb dX5_isOwner_14 rfl ?_
      exact g_zret (post := fun z M1 => z = (if 0 ≤ a ∧ a ≤ 5 then 1 else 0) ∧ M1 = M) (z := 0) hx hb hr hG hlocks (Or.inl rfl) (⟨by first | (rw [if_pos (by omega)]) | (rw [if_neg (by omega)]), rfl⟩) dX5_isOwner_15
    · skip
      refine lv_iconst (v := iZ 1) hx hb dX5_isOwner_10 rfl ?_
      refine lv_goto (tgt := 15) hx hb dX5_isOwner_11 (by decide) ?_
      exact g_zret (post := fun z M1 => z = (if 0 ≤ a ∧ a ≤ 5 then 1 else 0) ∧ M1 = M) (z := 1) hx hb hr hG hlocks (Or.inr rfl) (⟨by first | (rw [if_pos (by omega)]) | (rw [if_neg (by omega)]), rfl⟩) dX5_isOwner_15
set_option maxHeartbeats 4000000 in
set_option maxRecDepth 100000 in
theorem c_X5_isPhase (l : Launch) (G : gG) (M : Nat → Nat → Int) (a : Int) (ha : -2147483648 ≤ a ∧ a < 2147483648) : gMi l yX5_isPhase wsX5_isPhase ({ frames := 0, cells := 0, slots := 0, locals := 0 } : Room) G M [.int (iZ a)] (fun z M1 => z = (if 0 ≤ a ∧ a ≤ 5 then 1 else 0) ∧ M1 = M) := by
  refine gMi_of (cc := cX5_isPhase) (maxL := 1) (ret := some .boolean) (by decide) rfl (Nat.le_of_ble_eq_true rfl) ?_
  intro p e s m below meth c ls hx hb hr hml hown hts hlocks hl hG
  have hown : s.vm.findClass RX5 = some m.cls := hown
  have hl : lv_has ls 1 [(0, .int (iZ a))] := hl
  refine lv_iload_n hx hb dX5_isPhase_0 rfl (lv_at hl 0 rfl) ?_
  refine z_if_lt (tgt := 14) hx hb (by omega) dX5_isPhase_1 (by decide) (fun c_1 => ?_) (fun c_1 => ?_)
  · skip
    refine lv_iconst (v := iZ 0) hx hb dX5_isPhase_14 rfl ?_
    exact g_zret (post := fun z M1 => z = (if 0 ≤ a ∧ a ≤ 5 then 1 else 0) ∧ M1 = M) (z := 0) hx hb hr hG hlocks (Or.inl rfl) (⟨by first | (rw [if_pos (by omega)]) | (rw [if_neg (by omega)]), rfl⟩) dX5_isPhase_15
  · skip
    refine lv_iload_n hx hb dX5_isPhase_4 rfl (lv_at hl 0 rfl) ?_
    refine lv_bipush (v := iZ (6)) hx hb dX5_isPhase_5 (by decide) ?_
    refine z_icmp_ge (tgt := 14) hx hb (by omega) (by decide) dX5_isPhase_7 (by decide) (fun c_7 => ?_) (fun c_7 => ?_)
    · skip
      refine lv_iconst (v := iZ 0) hx hb dX5_isPhase_14 rfl ?_
      exact g_zret (post := fun z M1 => z = (if 0 ≤ a ∧ a ≤ 5 then 1 else 0) ∧ M1 = M) (z := 0) hx hb hr hG hlocks (Or.inl rfl) (⟨by first | (rw [if_pos (by omega)]) | (rw [if_neg (by omega)]), rfl⟩) dX5_isPhase_15
    · skip
      refine lv_iconst (v := iZ 1) hx hb dX5_isPhase_10 rfl ?_
      refine lv_goto (tgt := 15) hx hb dX5_isPhase_11 (by decide) ?_
      exact g_zret (post := fun z M1 => z = (if 0 ≤ a ∧ a ≤ 5 then 1 else 0) ∧ M1 = M) (z := 1) hx hb hr hG hlocks (Or.inr rfl) (⟨by first | (rw [if_pos (by omega)]) | (rw [if_neg (by omega)]), rfl⟩) dX5_isPhase_15
set_option maxHeartbeats 4000000 in
set_option maxRecDepth 100000 in
theorem c_X5_isDraw (l : Launch) (G : gG) (M : Nat → Nat → Int) (a : Int) (ha : -2147483648 ≤ a ∧ a < 2147483648) : gMi l yX5_isDraw wsX5_isDraw ({ frames := 0, cells := 0, slots := 0, locals := 0 } : Room) G M [.int (iZ a)] (fun z M1 => z = (if 1 ≤ a ∧ a ≤ 99 then 1 else 0) ∧ M1 = M) := by
  refine gMi_of (cc := cX5_isDraw) (maxL := 1) (ret := some .boolean) (by decide) rfl (Nat.le_of_ble_eq_true rfl) ?_
  intro p e s m below meth c ls hx hb hr hml hown hts hlocks hl hG
  have hown : s.vm.findClass RX5 = some m.cls := hown
  have hl : lv_has ls 1 [(0, .int (iZ a))] := hl
  refine lv_iload_n hx hb dX5_isDraw_0 rfl (lv_at hl 0 rfl) ?_
  refine lv_iconst (v := iZ 1) hx hb dX5_isDraw_1 rfl ?_
  refine z_icmp_lt (tgt := 15) hx hb (by omega) (by decide) dX5_isDraw_2 (by decide) (fun c_2 => ?_) (fun c_2 => ?_)
  · skip
    refine lv_iconst (v := iZ 0) hx hb dX5_isDraw_15 rfl ?_
    exact g_zret (post := fun z M1 => z = (if 1 ≤ a ∧ a ≤ 99 then 1 else 0) ∧ M1 = M) (z := 0) hx hb hr hG hlocks (Or.inl rfl) (⟨by first | (rw [if_pos (by omega)]) | (rw [if_neg (by omega)]), rfl⟩) dX5_isDraw_16
  · skip
    refine lv_iload_n hx hb dX5_isDraw_5 rfl (lv_at hl 0 rfl) ?_
    refine lv_bipush (v := iZ (99)) hx hb dX5_isDraw_6 (by decide) ?_
    refine z_icmp_gt (tgt := 15) hx hb (by omega) (by decide) dX5_isDraw_8 (by decide) (fun c_8 => ?_) (fun c_8 => ?_)
    · skip
      refine lv_iconst (v := iZ 0) hx hb dX5_isDraw_15 rfl ?_
      exact g_zret (post := fun z M1 => z = (if 1 ≤ a ∧ a ≤ 99 then 1 else 0) ∧ M1 = M) (z := 0) hx hb hr hG hlocks (Or.inl rfl) (⟨by first | (rw [if_pos (by omega)]) | (rw [if_neg (by omega)]), rfl⟩) dX5_isDraw_16
    · skip
      refine lv_iconst (v := iZ 1) hx hb dX5_isDraw_11 rfl ?_
      refine lv_goto (tgt := 16) hx hb dX5_isDraw_12 (by decide) ?_
      exact g_zret (post := fun z M1 => z = (if 1 ≤ a ∧ a ≤ 99 then 1 else 0) ∧ M1 = M) (z := 1) hx hb hr hG hlocks (Or.inr rfl) (⟨by first | (rw [if_pos (by omega)]) | (rw [if_neg (by omega)]), rfl⟩) dX5_isDraw_16
set_option maxHeartbeats 4000000 in
set_option maxRecDepth 100000 in
theorem c_X5_isMinutes (l : Launch) (G : gG) (M : Nat → Nat → Int) (a : Int) (ha : -2147483648 ≤ a ∧ a < 2147483648) : gMi l yX5_isMinutes wsX5_isMinutes ({ frames := 0, cells := 0, slots := 0, locals := 0 } : Room) G M [.int (iZ a)] (fun z M1 => z = (if 1 ≤ a ∧ a ≤ 30 then 1 else 0) ∧ M1 = M) := by
  refine gMi_of (cc := cX5_isMinutes) (maxL := 1) (ret := some .boolean) (by decide) rfl (Nat.le_of_ble_eq_true rfl) ?_
  intro p e s m below meth c ls hx hb hr hml hown hts hlocks hl hG
  have hown : s.vm.findClass RX5 = some m.cls := hown
  have hl : lv_has ls 1 [(0, .int (iZ a))] := hl
  refine lv_iload_n hx hb dX5_isMinutes_0 rfl (lv_at hl 0 rfl) ?_
  refine lv_iconst (v := iZ 1) hx hb dX5_isMinutes_1 rfl ?_
  refine z_icmp_lt (tgt := 15) hx hb (by omega) (by decide) dX5_isMinutes_2 (by decide) (fun c_2 => ?_) (fun c_2 => ?_)
  · skip
    refine lv_iconst (v := iZ 0) hx hb dX5_isMinutes_15 rfl ?_
    exact g_zret (post := fun z M1 => z = (if 1 ≤ a ∧ a ≤ 30 then 1 else 0) ∧ M1 = M) (z := 0) hx hb hr hG hlocks (Or.inl rfl) (⟨by first | (rw [if_pos (by omega)]) | (rw [if_neg (by omega)]), rfl⟩) dX5_isMinutes_16
  · skip
    refine lv_iload_n hx hb dX5_isMinutes_5 rfl (lv_at hl 0 rfl) ?_
    refine lv_bipush (v := iZ (30)) hx hb dX5_isMinutes_6 (by decide) ?_
    refine z_icmp_gt (tgt := 15) hx hb (by omega) (by decide) dX5_isMinutes_8 (by decide) (fun c_8 => ?_) (fun c_8 => ?_)
    · skip
      refine lv_iconst (v := iZ 0) hx hb dX5_isMinutes_15 rfl ?_
      exact g_zret (post := fun z M1 => z = (if 1 ≤ a ∧ a ≤ 30 then 1 else 0) ∧ M1 = M) (z := 0) hx hb hr hG hlocks (Or.inl rfl) (⟨by first | (rw [if_pos (by omega)]) | (rw [if_neg (by omega)]), rfl⟩) dX5_isMinutes_16
    · skip
      refine lv_iconst (v := iZ 1) hx hb dX5_isMinutes_11 rfl ?_
      refine lv_goto (tgt := 16) hx hb dX5_isMinutes_12 (by decide) ?_
      exact g_zret (post := fun z M1 => z = (if 1 ≤ a ∧ a ≤ 30 then 1 else 0) ∧ M1 = M) (z := 1) hx hb hr hG hlocks (Or.inr rfl) (⟨by first | (rw [if_pos (by omega)]) | (rw [if_neg (by omega)]), rfl⟩) dX5_isMinutes_16
set_option maxHeartbeats 4000000 in
set_option maxRecDepth 100000 in
theorem c_X5_isSunset (l : Launch) (G : gG) (M : Nat → Nat → Int) (a : Int) (ha : -2147483648 ≤ a ∧ a < 2147483648) : gMi l yX5_isSunset wsX5_isSunset ({ frames := 0, cells := 0, slots := 0, locals := 0 } : Room) G M [.int (iZ a)] (fun z M1 => z = (if 60 ≤ a ∧ a ≤ 600 then 1 else 0) ∧ M1 = M) := by
  refine gMi_of (cc := cX5_isSunset) (maxL := 1) (ret := some .boolean) (by decide) rfl (Nat.le_of_ble_eq_true rfl) ?_
  intro p e s m below meth c ls hx hb hr hml hown hts hlocks hl hG
  have hown : s.vm.findClass RX5 = some m.cls := hown
  have hl : lv_has ls 1 [(0, .int (iZ a))] := hl
  refine lv_iload_n hx hb dX5_isSunset_0 rfl (lv_at hl 0 rfl) ?_
  refine lv_bipush (v := iZ (60)) hx hb dX5_isSunset_1 (by decide) ?_
  refine z_icmp_lt (tgt := 17) hx hb (by omega) (by decide) dX5_isSunset_3 (by decide) (fun c_3 => ?_) (fun c_3 => ?_)
  · skip
    refine lv_iconst (v := iZ 0) hx hb dX5_isSunset_17 rfl ?_
    exact g_zret (post := fun z M1 => z = (if 60 ≤ a ∧ a ≤ 600 then 1 else 0) ∧ M1 = M) (z := 0) hx hb hr hG hlocks (Or.inl rfl) (⟨by first | (rw [if_pos (by omega)]) | (rw [if_neg (by omega)]), rfl⟩) dX5_isSunset_18
  · skip
    refine lv_iload_n hx hb dX5_isSunset_6 rfl (lv_at hl 0 rfl) ?_
    refine lv_sipush (v := iZ (600)) hx hb dX5_isSunset_7 (by decide) ?_
    refine z_icmp_gt (tgt := 17) hx hb (by omega) (by decide) dX5_isSunset_10 (by decide) (fun c_10 => ?_) (fun c_10 => ?_)
    · skip
      refine lv_iconst (v := iZ 0) hx hb dX5_isSunset_17 rfl ?_
      exact g_zret (post := fun z M1 => z = (if 60 ≤ a ∧ a ≤ 600 then 1 else 0) ∧ M1 = M) (z := 0) hx hb hr hG hlocks (Or.inl rfl) (⟨by first | (rw [if_pos (by omega)]) | (rw [if_neg (by omega)]), rfl⟩) dX5_isSunset_18
    · skip
      refine lv_iconst (v := iZ 1) hx hb dX5_isSunset_13 rfl ?_
      refine lv_goto (tgt := 18) hx hb dX5_isSunset_14 (by decide) ?_
      exact g_zret (post := fun z M1 => z = (if 60 ≤ a ∧ a ≤ 600 then 1 else 0) ∧ M1 = M) (z := 1) hx hb hr hG hlocks (Or.inr rfl) (⟨by first | (rw [if_pos (by omega)]) | (rw [if_neg (by omega)]), rfl⟩) dX5_isSunset_18
set_option maxHeartbeats 4000000 in
set_option maxRecDepth 100000 in
theorem c_X0_nextDog (l : Launch) (G : gG) (M : Nat → Nat → Int) (hdm : ∀ k, k < 169 → gdm G k) (q : Nat) (hC : isC q) (t : Nat) (hT : isT t) (R : Nat → Int) (hR : q_tr M t R) (hI : q_inv R) (pl : Nat → Bool) (hpl : ∀ i : Nat, (i : Int) < q_nd R → M (q + 2) i = if pl i = true then 1 else 0) (st o : Int) (hst : 0 ≤ st ∧ st ≤ 2) (ho : -9 ≤ o ∧ o ≤ 5) : gMi l yX0_nextDog wsX0_nextDog ({ frames := 0, cells := 0, slots := 0, locals := 0 } : Room) G M [.ref (gad G q), .ref (gad G t), .int (iZ st), .int (iZ o)] (fun z M1 => z = q_nx R pl st o ∧ M1 = M) := by
  refine gMi_of (cc := cX0_nextDog) (maxL := 8) (ret := some .int) (by decide) rfl (Nat.le_of_ble_eq_true rfl) ?_
  intro p e s m below meth c ls hx hb hr hml hown hts hlocks hl hG
  have hown : s.vm.findClass RX0 = some m.cls := hown
  have hl : lv_has ls 8 [(0, .ref (gad G q)), (1, .ref (gad G t)), (2, .int (iZ st)), (3, .int (iZ o))] := hl
  have hd_t : ∀ r, r < 8 → gdm G (t + r) := fun r hr => hdm _ (by have h1 := (hT).1; have h2 := (hT).2; omega)
  have hdc_q : ∀ r, r < 4 → gdm G (q + r) := fun r hr => hdm _ (by rcases hC with h | h <;> omega)
  have hinX0 : ∀ w ∈ u_ws RX0 TX0 4, w ∈ wsX0_nextDog := by decide +kernel
  have hinX3 : ∀ w ∈ u_ws RX3 TX3 15, w ∈ wsX0_nextDog := by decide +kernel
  have f15 := hts (.fieldLink RX0 15 "DogTrials$Course" "placed" "[Z") (by decide +kernel)
  have f36 := hts (.fieldLink RX0 36 "DogTrials$Trial" "dogs" "I") (by decide +kernel)
  have f43 := hts (.fieldLink RX0 43 "DogTrials$Trial" "owners" "[I") (by decide +kernel)
  have f46 := hts (.fieldLink RX0 46 "DogTrials$Trial" "draws" "[I") (by decide +kernel)
  have f49 := hts (.fieldLink RX0 49 "DogTrials$Trial" "states" "[I") (by decide +kernel)
  have hnd := hI.1
  refine lv_aload_n hx hb dX0_nextDog_0 rfl (lv_at hl 1 rfl) ?_
  refine g_get hx hb hts hinX3 hown hG (o := t) (hd_t 0 (by decide)) (gE_T hT G _) rfl 2 (by decide) f46 (fun _ h => h) rfl dX0_nextDog_1 ?_
  refine lv_astore (lv' := [(4, .ref (gad G (t + 2))), (0, .ref (gad G q)), (1, .ref (gad G t)), (2, .int (iZ st)), (3, .int (iZ o))]) hx hb dX0_nextDog_4 hl (by decide) rfl (fun ls hl => ?_)
  refine lv_bipush (v := iZ (-9)) hx hb dX0_nextDog_6 (by decide) ?_
  refine lv_istore (lv' := [(5, .int (iZ (-9))), (4, .ref (gad G (t + 2))), (0, .ref (gad G q)), (1, .ref (gad G t)), (2, .int (iZ st)), (3, .int (iZ o))]) hx hb dX0_nextDog_8 hl (by decide) rfl (fun ls hl => ?_)
  refine lv_bipush (v := iZ (-9)) hx hb dX0_nextDog_10 (by decide) ?_
  refine lv_istore (lv' := [(6, .int (iZ (-9))), (5, .int (iZ (-9))), (4, .ref (gad G (t + 2))), (0, .ref (gad G q)), (1, .ref (gad G t)), (2, .int (iZ st)), (3, .int (iZ o))]) hx hb dX0_nextDog_12 hl (by decide) rfl (fun ls hl => ?_)
  refine lv_iconst (v := iZ 0) hx hb dX0_nextDog_14 rfl ?_
  refine lv_istore (lv' := [(7, .int (iZ 0)), (6, .int (iZ (-9))), (5, .int (iZ (-9))), (4, .ref (gad G (t + 2))), (0, .ref (gad G q)), (1, .ref (gad G t)), (2, .int (iZ st)), (3, .int (iZ o))]) hx hb dX0_nextDog_15 hl (by decide) rfl (fun ls hl => ?_)
  have L_17 : ∀ (n_17 : Nat) (k : Nat) (x_i : Int) (x_o : Int) (x_a : Int), (x_i = (k : Int)) → (x_o = (q_nx2 R pl st o k).2) → (x_a = (q_nx2 R pl st o k).1) → ((k : Int) ≤ q_nd R) → 12 - k < n_17 → ∀ (H : Heap) (locs : List Loc) (ls : Array Slot), gH G M s H locs → lv_has ls 8 [(7, .int (iZ x_i)), (6, .int (iZ x_o)), (5, .int (iZ x_a)), (4, .ref (gad G (t + 2))), (0, .ref (gad G q)), (1, .ref (gad G t)), (2, .int (iZ st)), (3, .int (iZ o))] → W p l e ({ frames := 0, cells := 0, slots := 0, locals := 0 } : Room) s m [.ref (gad G q), .ref (gad G t), .int (iZ st), .int (iZ o)].toArray below meth c H locs 0 0 (MQ below (va_Qi (fun r (u : Int × (Nat → Nat → Int)) => r = iZ u.1 ∧ (fun z M1 => z = q_nx R pl st o ∧ M1 = M) u.1 u.2) (fun u U => gB G u.2 U) (gA G)) [.ref (gad G q), .ref (gad G t), .int (iZ st), .int (iZ o)].toArray s 0 0 (gA G)) (F0 m 17 ls []) := by
    intro n_17
    induction n_17 with
    | zero => intro k x_i x_o x_a he_x_i he_x_o he_x_a hk hm_17; exact absurd hm_17 (Nat.not_lt_zero _)
    | succ n_17 ih_17 =>
      intro k x_i x_o x_a he_x_i he_x_o he_x_a hk hm_17 H locs ls hG hl
      subst he_x_i
      subst he_x_o
      subst he_x_a
      have hnx := q_nx2_rg (R := R) (pl := pl) (st := st) (o := o) k
      refine lv_iload hx hb dX0_nextDog_17 (lv_at hl 0 rfl) ?_
      refine lv_aload_n hx hb dX0_nextDog_19 rfl (lv_at hl 5 rfl) ?_
      refine g_geti (z := (q_nd R)) hx hb hts hinX3 hown hG (o := t) (hd_t 0 (by decide)) (gE_T hT G _) rfl 0 (by decide) f36 (fun _ h => h) rfl (tr_nd hR) dX0_nextDog_20 ?_
      refine z_icmp_ge (tgt := 111) hx hb (by omega) (by omega) dX0_nextDog_23 (by decide) (fun c_23 => ?_) (fun c_23 => ?_)
      · skip
        refine lv_iload hx hb dX0_nextDog_111 (lv_at hl 1 rfl) ?_
        refine lv_bipush (v := iZ (-9)) hx hb dX0_nextDog_113 (by decide) ?_
        refine z_icmp_ne (tgt := 123) hx hb (by omega) (by decide) dX0_nextDog_115 (by decide) (fun c_115 => ?_) (fun c_115 => ?_)
        · skip
          refine lv_iload hx hb dX0_nextDog_123 (lv_at hl 1 rfl) ?_
          exact g_iret (post := fun z M1 => z = q_nx R pl st o ∧ M1 = M) (z := (q_nx2 R pl st o k).2) hx hb hr hG hlocks (⟨by unfold q_nx; rw [show (q_nd R).toNat = k by omega]; first | (rw [if_pos (by omega)]; done) | (rw [if_neg (by omega)]; done), rfl⟩) dX0_nextDog_125
        · skip
          refine lv_iload hx hb dX0_nextDog_118 (lv_at hl 2 rfl) ?_
          refine lv_goto (tgt := 125) hx hb dX0_nextDog_120 (by decide) ?_
          exact g_iret (post := fun z M1 => z = q_nx R pl st o ∧ M1 = M) (z := (q_nx2 R pl st o k).1) hx hb hr hG hlocks (⟨by unfold q_nx; rw [show (q_nd R).toNat = k by omega]; first | (rw [if_pos (by omega)]; done) | (rw [if_neg (by omega)]; done), rfl⟩) dX0_nextDog_125
      · skip
        have hkl : (k : Int) < q_nd R := by omega
        have hdo := dok5 hI k hkl
        refine lv_aload_n hx hb dX0_nextDog_26 rfl (lv_at hl 4 rfl) ?_
        refine g_get hx hb hts hinX0 hown hG (o := q) (hdc_q 0 (by decide)) (gE_C hC G _) rfl 1 (by decide) f15 (fun _ h => h) rfl dX0_nextDog_27 ?_
        refine lv_iload hx hb dX0_nextDog_30 (lv_at hl 0 rfl) ?_
        refine g_zald (z := (if pl k = true then 1 else 0)) (j := k) hx hb hG (o := (q + 2)) (hdc_q 2 (by decide)) (gE_c2 hC G _) (by omega) (by omega) (by omega) (hpl k (by omega)) dX0_nextDog_32 ?_
        refine z_ifP_ne (tgt := 105) hx hb dX0_nextDog_33 (by decide) (fun c_33 => ?_) (fun c_33 => ?_)
        · skip
          refine z_iinc (z := ((k : Int) + 1)) (lv' := [(7, .int (iZ ((k : Int) + 1))), (6, .int (iZ (q_nx2 R pl st o k).2)), (5, .int (iZ (q_nx2 R pl st o k).1)), (4, .ref (gad G (t + 2))), (0, .ref (gad G q)), (1, .ref (gad G t)), (2, .int (iZ st)), (3, .int (iZ o))]) hx hb dX0_nextDog_105 hl (k := 0) rfl (by omega) (by decide) rfl (fun ls hl => ?_)
          refine lv_goto (tgt := 17) hx hb dX0_nextDog_108 (by decide) ?_
          exact ih_17 (k + 1) ((k : Int) + 1) ((q_nx2 R pl st o k).2) ((q_nx2 R pl st o k).1)  (by omega) (by rw [q_nx2]; first | (rw [if_neg (fun h9 => absurd h9.1 (by show ¬ (pl k = false); rw [c_33]; decide))]; done) | (rw [if_neg (fun h9 => by have h8 := h9.2; omega)]; done) | (rw [if_pos ⟨Bool.eq_false_iff.mpr c_33, by omega⟩]; dsimp only; first | (rw [if_pos (by omega)]; done) | (rw [if_neg (by omega)]; done))) (by rw [q_nx2]; first | (rw [if_neg (fun h9 => absurd h9.1 (by show ¬ (pl k = false); rw [c_33]; decide))]; done) | (rw [if_neg (fun h9 => by have h8 := h9.2; omega)]; done) | (rw [if_pos ⟨Bool.eq_false_iff.mpr c_33, by omega⟩]; dsimp only; first | (rw [if_pos (by omega)]; done) | (rw [if_neg (by omega)]; done))) (by omega) (by omega) _ _ _ hG (lv_sub hl [0, 1, 2, 3, 4, 5, 6, 7] rfl)
        · skip
          refine lv_aload_n hx hb dX0_nextDog_36 rfl (lv_at hl 5 rfl) ?_
          refine g_get hx hb hts hinX3 hown hG (o := t) (hd_t 0 (by decide)) (gE_T hT G _) rfl 3 (by decide) f49 (fun _ h => h) rfl dX0_nextDog_37 ?_
          refine lv_iload hx hb dX0_nextDog_40 (lv_at hl 0 rfl) ?_
          refine g_iald (z := (q_sa R k)) (j := k) hx hb hG (o := (t + 3)) (hd_t 3 (by decide)) (gE_tI hT 3 (by decide) G _) (by omega) (by omega) (by omega) (tr_sa hR (i := k) (by omega)) dX0_nextDog_42 ?_
          refine lv_iload_n hx hb dX0_nextDog_43 rfl (lv_at hl 6 rfl) ?_
          refine z_icmp_eq (tgt := 50) hx hb (by omega) (by omega) dX0_nextDog_44 (by decide) (fun c_44 => ?_) (fun c_44 => ?_)
          · skip
            refine lv_iload hx hb dX0_nextDog_50 (lv_at hl 2 rfl) ?_
            refine z_if_lt (tgt := 68) hx hb (by omega) dX0_nextDog_52 (by decide) (fun c_52 => ?_) (fun c_52 => ?_)
            · skip
              refine lv_iload hx hb dX0_nextDog_68 (lv_at hl 0 rfl) ?_
              refine lv_istore (lv' := [(5, .int (iZ (k : Int))), (7, .int (iZ (k : Int))), (6, .int (iZ (q_nx2 R pl st o k).2)), (4, .ref (gad G (t + 2))), (0, .ref (gad G q)), (1, .ref (gad G t)), (2, .int (iZ st)), (3, .int (iZ o))]) hx hb dX0_nextDog_70 hl (by decide) rfl (fun ls hl => ?_)
              refine lv_aload_n hx hb dX0_nextDog_72 rfl (lv_at hl 5 rfl) ?_
              refine g_get hx hb hts hinX3 hown hG (o := t) (hd_t 0 (by decide)) (gE_T hT G _) rfl 1 (by decide) f43 (fun _ h => h) rfl dX0_nextDog_73 ?_
              refine lv_iload hx hb dX0_nextDog_76 (lv_at hl 1 rfl) ?_
              refine g_iald (z := (q_ow R k)) (j := k) hx hb hG (o := (t + 1)) (hd_t 1 (by decide)) (gE_tI hT 1 (by decide) G _) (by omega) (by omega) (by omega) (tr_ow hR (i := k) (by omega)) dX0_nextDog_78 ?_
              refine lv_iload_n hx hb dX0_nextDog_79 rfl (lv_at hl 7 rfl) ?_
              refine z_icmp_eq (tgt := 105) hx hb (by omega) (by omega) dX0_nextDog_80 (by decide) (fun c_80 => ?_) (fun c_80 => ?_)
              · skip
                refine z_iinc (z := ((k : Int) + 1)) (lv' := [(7, .int (iZ ((k : Int) + 1))), (5, .int (iZ (k : Int))), (6, .int (iZ (q_nx2 R pl st o k).2)), (4, .ref (gad G (t + 2))), (0, .ref (gad G q)), (1, .ref (gad G t)), (2, .int (iZ st)), (3, .int (iZ o))]) hx hb dX0_nextDog_105 hl (k := 1) rfl (by omega) (by decide) rfl (fun ls hl => ?_)
                refine lv_goto (tgt := 17) hx hb dX0_nextDog_108 (by decide) ?_
                exact ih_17 (k + 1) ((k : Int) + 1) ((q_nx2 R pl st o k).2) (k : Int)  (by omega) (by rw [q_nx2]; first | (rw [if_neg (fun h9 => absurd h9.1 (by show ¬ (pl k = false); rw [c_33]; decide))]; done) | (rw [if_neg (fun h9 => by have h8 := h9.2; omega)]; done) | (rw [if_pos ⟨Bool.eq_false_iff.mpr c_33, by omega⟩]; dsimp only; first | (rw [if_pos (by omega)]; done) | (rw [if_neg (by omega)]; done))) (by rw [q_nx2]; first | (rw [if_neg (fun h9 => absurd h9.1 (by show ¬ (pl k = false); rw [c_33]; decide))]; done) | (rw [if_neg (fun h9 => by have h8 := h9.2; omega)]; done) | (rw [if_pos ⟨Bool.eq_false_iff.mpr c_33, by omega⟩]; dsimp only; first | (rw [if_pos (by omega)]; done) | (rw [if_neg (by omega)]; done))) (by omega) (by omega) _ _ _ hG (lv_sub hl [0, 2, 1, 3, 4, 5, 6, 7] rfl)
              · skip
                refine lv_iload hx hb dX0_nextDog_83 (lv_at hl 2 rfl) ?_
                refine z_if_lt (tgt := 101) hx hb (by omega) dX0_nextDog_85 (by decide) (fun c_85 => ?_) (fun c_85 => ?_)
                · skip
                  refine lv_iload hx hb dX0_nextDog_101 (lv_at hl 1 rfl) ?_
                  refine lv_istore (lv' := [(6, .int (iZ (k : Int))), (5, .int (iZ (k : Int))), (7, .int (iZ (k : Int))), (4, .ref (gad G (t + 2))), (0, .ref (gad G q)), (1, .ref (gad G t)), (2, .int (iZ st)), (3, .int (iZ o))]) hx hb dX0_nextDog_103 hl (by decide) rfl (fun ls hl => ?_)
                  refine z_iinc (z := ((k : Int) + 1)) (lv' := [(7, .int (iZ ((k : Int) + 1))), (6, .int (iZ (k : Int))), (5, .int (iZ (k : Int))), (4, .ref (gad G (t + 2))), (0, .ref (gad G q)), (1, .ref (gad G t)), (2, .int (iZ st)), (3, .int (iZ o))]) hx hb dX0_nextDog_105 hl (k := 2) rfl (by omega) (by decide) rfl (fun ls hl => ?_)
                  refine lv_goto (tgt := 17) hx hb dX0_nextDog_108 (by decide) ?_
                  exact ih_17 (k + 1) ((k : Int) + 1) (k : Int) (k : Int)  (by omega) (by rw [q_nx2]; first | (rw [if_neg (fun h9 => absurd h9.1 (by show ¬ (pl k = false); rw [c_33]; decide))]; done) | (rw [if_neg (fun h9 => by have h8 := h9.2; omega)]; done) | (rw [if_pos ⟨Bool.eq_false_iff.mpr c_33, by omega⟩]; dsimp only; first | (rw [if_pos (by omega)]; done) | (rw [if_neg (by omega)]; done))) (by rw [q_nx2]; first | (rw [if_neg (fun h9 => absurd h9.1 (by show ¬ (pl k = false); rw [c_33]; decide))]; done) | (rw [if_neg (fun h9 => by have h8 := h9.2; omega)]; done) | (rw [if_pos ⟨Bool.eq_false_iff.mpr c_33, by omega⟩]; dsimp only; first | (rw [if_pos (by omega)]; done) | (rw [if_neg (by omega)]; done))) (by omega) (by omega) _ _ _ hG (lv_sub hl [0, 1, 2, 3, 4, 5, 6, 7] rfl)
                · skip
                  have hdb := dok5 hI ((q_nx2 R pl st o k).2.toNat) (by omega)
                  refine lv_aload hx hb dX0_nextDog_88 (lv_at hl 3 rfl) ?_
                  refine lv_iload hx hb dX0_nextDog_90 (lv_at hl 1 rfl) ?_
                  refine g_iald (z := (q_dr R k)) (j := k) hx hb hG (o := (t + 2)) (hd_t 2 (by decide)) (gE_tI hT 2 (by decide) G _) (by omega) (by omega) (by omega) (tr_dr hR (i := k) (by omega)) dX0_nextDog_92 ?_
                  refine lv_aload hx hb dX0_nextDog_93 (lv_at hl 3 rfl) ?_
                  refine lv_iload hx hb dX0_nextDog_95 (lv_at hl 2 rfl) ?_
                  refine g_iald (z := (q_dr R (((q_nx2 R pl st o k).2.toNat)))) (j := (((q_nx2 R pl st o k).2.toNat))) hx hb hG (o := (t + 2)) (hd_t 2 (by decide)) (gE_tI hT 2 (by decide) G _) (by omega) (by omega) (by omega) (tr_dr hR (i := (((q_nx2 R pl st o k).2.toNat))) (by omega)) dX0_nextDog_97 ?_
                  refine z_icmp_ge (tgt := 105) hx hb (by omega) (by omega) dX0_nextDog_98 (by decide) (fun c_98 => ?_) (fun c_98 => ?_)
                  · skip
                    refine z_iinc (z := ((k : Int) + 1)) (lv' := [(7, .int (iZ ((k : Int) + 1))), (5, .int (iZ (k : Int))), (6, .int (iZ (q_nx2 R pl st o k).2)), (4, .ref (gad G (t + 2))), (0, .ref (gad G q)), (1, .ref (gad G t)), (2, .int (iZ st)), (3, .int (iZ o))]) hx hb dX0_nextDog_105 hl (k := 1) rfl (by omega) (by decide) rfl (fun ls hl => ?_)
                    refine lv_goto (tgt := 17) hx hb dX0_nextDog_108 (by decide) ?_
                    exact ih_17 (k + 1) ((k : Int) + 1) ((q_nx2 R pl st o k).2) (k : Int)  (by omega) (by rw [q_nx2]; first | (rw [if_neg (fun h9 => absurd h9.1 (by show ¬ (pl k = false); rw [c_33]; decide))]; done) | (rw [if_neg (fun h9 => by have h8 := h9.2; omega)]; done) | (rw [if_pos ⟨Bool.eq_false_iff.mpr c_33, by omega⟩]; dsimp only; first | (rw [if_pos (by omega)]; done) | (rw [if_neg (by omega)]; done))) (by rw [q_nx2]; first | (rw [if_neg (fun h9 => absurd h9.1 (by show ¬ (pl k = false); rw [c_33]; decide))]; done) | (rw [if_neg (fun h9 => by have h8 := h9.2; omega)]; done) | (rw [if_pos ⟨Bool.eq_false_iff.mpr c_33, by omega⟩]; dsimp only; first | (rw [if_pos (by omega)]; done) | (rw [if_neg (by omega)]; done))) (by omega) (by omega) _ _ _ hG (lv_sub hl [0, 2, 1, 3, 4, 5, 6, 7] rfl)
                  · skip
                    refine lv_iload hx hb dX0_nextDog_101 (lv_at hl 1 rfl) ?_
                    refine lv_istore (lv' := [(6, .int (iZ (k : Int))), (5, .int (iZ (k : Int))), (7, .int (iZ (k : Int))), (4, .ref (gad G (t + 2))), (0, .ref (gad G q)), (1, .ref (gad G t)), (2, .int (iZ st)), (3, .int (iZ o))]) hx hb dX0_nextDog_103 hl (by decide) rfl (fun ls hl => ?_)
                    refine z_iinc (z := ((k : Int) + 1)) (lv' := [(7, .int (iZ ((k : Int) + 1))), (6, .int (iZ (k : Int))), (5, .int (iZ (k : Int))), (4, .ref (gad G (t + 2))), (0, .ref (gad G q)), (1, .ref (gad G t)), (2, .int (iZ st)), (3, .int (iZ o))]) hx hb dX0_nextDog_105 hl (k := 2) rfl (by omega) (by decide) rfl (fun ls hl => ?_)
                    refine lv_goto (tgt := 17) hx hb dX0_nextDog_108 (by decide) ?_
                    exact ih_17 (k + 1) ((k : Int) + 1) (k : Int) (k : Int)  (by omega) (by rw [q_nx2]; first | (rw [if_neg (fun h9 => absurd h9.1 (by show ¬ (pl k = false); rw [c_33]; decide))]; done) | (rw [if_neg (fun h9 => by have h8 := h9.2; omega)]; done) | (rw [if_pos ⟨Bool.eq_false_iff.mpr c_33, by omega⟩]; dsimp only; first | (rw [if_pos (by omega)]; done) | (rw [if_neg (by omega)]; done))) (by rw [q_nx2]; first | (rw [if_neg (fun h9 => absurd h9.1 (by show ¬ (pl k = false); rw [c_33]; decide))]; done) | (rw [if_neg (fun h9 => by have h8 := h9.2; omega)]; done) | (rw [if_pos ⟨Bool.eq_false_iff.mpr c_33, by omega⟩]; dsimp only; first | (rw [if_pos (by omega)]; done) | (rw [if_neg (by omega)]; done))) (by omega) (by omega) _ _ _ hG (lv_sub hl [0, 1, 2, 3, 4, 5, 6, 7] rfl)
            · skip
              have hda := dok5 hI ((q_nx2 R pl st o k).1.toNat) (by omega)
              refine lv_aload hx hb dX0_nextDog_55 (lv_at hl 3 rfl) ?_
              refine lv_iload hx hb dX0_nextDog_57 (lv_at hl 0 rfl) ?_
              refine g_iald (z := (q_dr R k)) (j := k) hx hb hG (o := (t + 2)) (hd_t 2 (by decide)) (gE_tI hT 2 (by decide) G _) (by omega) (by omega) (by omega) (tr_dr hR (i := k) (by omega)) dX0_nextDog_59 ?_
              refine lv_aload hx hb dX0_nextDog_60 (lv_at hl 3 rfl) ?_
              refine lv_iload hx hb dX0_nextDog_62 (lv_at hl 2 rfl) ?_
              refine g_iald (z := (q_dr R (((q_nx2 R pl st o k).1.toNat)))) (j := (((q_nx2 R pl st o k).1.toNat))) hx hb hG (o := (t + 2)) (hd_t 2 (by decide)) (gE_tI hT 2 (by decide) G _) (by omega) (by omega) (by omega) (tr_dr hR (i := (((q_nx2 R pl st o k).1.toNat))) (by omega)) dX0_nextDog_64 ?_
              refine z_icmp_ge (tgt := 72) hx hb (by omega) (by omega) dX0_nextDog_65 (by decide) (fun c_65 => ?_) (fun c_65 => ?_)
              · skip
                refine lv_aload_n hx hb dX0_nextDog_72 rfl (lv_at hl 5 rfl) ?_
                refine g_get hx hb hts hinX3 hown hG (o := t) (hd_t 0 (by decide)) (gE_T hT G _) rfl 1 (by decide) f43 (fun _ h => h) rfl dX0_nextDog_73 ?_
                refine lv_iload hx hb dX0_nextDog_76 (lv_at hl 0 rfl) ?_
                refine g_iald (z := (q_ow R k)) (j := k) hx hb hG (o := (t + 1)) (hd_t 1 (by decide)) (gE_tI hT 1 (by decide) G _) (by omega) (by omega) (by omega) (tr_ow hR (i := k) (by omega)) dX0_nextDog_78 ?_
                refine lv_iload_n hx hb dX0_nextDog_79 rfl (lv_at hl 7 rfl) ?_
                refine z_icmp_eq (tgt := 105) hx hb (by omega) (by omega) dX0_nextDog_80 (by decide) (fun c_80 => ?_) (fun c_80 => ?_)
                · skip
                  refine z_iinc (z := ((k : Int) + 1)) (lv' := [(7, .int (iZ ((k : Int) + 1))), (6, .int (iZ (q_nx2 R pl st o k).2)), (5, .int (iZ (q_nx2 R pl st o k).1)), (4, .ref (gad G (t + 2))), (0, .ref (gad G q)), (1, .ref (gad G t)), (2, .int (iZ st)), (3, .int (iZ o))]) hx hb dX0_nextDog_105 hl (k := 0) rfl (by omega) (by decide) rfl (fun ls hl => ?_)
                  refine lv_goto (tgt := 17) hx hb dX0_nextDog_108 (by decide) ?_
                  exact ih_17 (k + 1) ((k : Int) + 1) ((q_nx2 R pl st o k).2) ((q_nx2 R pl st o k).1)  (by omega) (by rw [q_nx2]; first | (rw [if_neg (fun h9 => absurd h9.1 (by show ¬ (pl k = false); rw [c_33]; decide))]; done) | (rw [if_neg (fun h9 => by have h8 := h9.2; omega)]; done) | (rw [if_pos ⟨Bool.eq_false_iff.mpr c_33, by omega⟩]; dsimp only; first | (rw [if_pos (by omega)]; done) | (rw [if_neg (by omega)]; done))) (by rw [q_nx2]; first | (rw [if_neg (fun h9 => absurd h9.1 (by show ¬ (pl k = false); rw [c_33]; decide))]; done) | (rw [if_neg (fun h9 => by have h8 := h9.2; omega)]; done) | (rw [if_pos ⟨Bool.eq_false_iff.mpr c_33, by omega⟩]; dsimp only; first | (rw [if_pos (by omega)]; done) | (rw [if_neg (by omega)]; done))) (by omega) (by omega) _ _ _ hG (lv_sub hl [0, 1, 2, 3, 4, 5, 6, 7] rfl)
                · skip
                  refine lv_iload hx hb dX0_nextDog_83 (lv_at hl 1 rfl) ?_
                  refine z_if_lt (tgt := 101) hx hb (by omega) dX0_nextDog_85 (by decide) (fun c_85 => ?_) (fun c_85 => ?_)
                  · skip
                    refine lv_iload hx hb dX0_nextDog_101 (lv_at hl 0 rfl) ?_
                    refine lv_istore (lv' := [(6, .int (iZ (k : Int))), (7, .int (iZ (k : Int))), (5, .int (iZ (q_nx2 R pl st o k).1)), (4, .ref (gad G (t + 2))), (0, .ref (gad G q)), (1, .ref (gad G t)), (2, .int (iZ st)), (3, .int (iZ o))]) hx hb dX0_nextDog_103 hl (by decide) rfl (fun ls hl => ?_)
                    refine z_iinc (z := ((k : Int) + 1)) (lv' := [(7, .int (iZ ((k : Int) + 1))), (6, .int (iZ (k : Int))), (5, .int (iZ (q_nx2 R pl st o k).1)), (4, .ref (gad G (t + 2))), (0, .ref (gad G q)), (1, .ref (gad G t)), (2, .int (iZ st)), (3, .int (iZ o))]) hx hb dX0_nextDog_105 hl (k := 1) rfl (by omega) (by decide) rfl (fun ls hl => ?_)
                    refine lv_goto (tgt := 17) hx hb dX0_nextDog_108 (by decide) ?_
                    exact ih_17 (k + 1) ((k : Int) + 1) (k : Int) ((q_nx2 R pl st o k).1)  (by omega) (by rw [q_nx2]; first | (rw [if_neg (fun h9 => absurd h9.1 (by show ¬ (pl k = false); rw [c_33]; decide))]; done) | (rw [if_neg (fun h9 => by have h8 := h9.2; omega)]; done) | (rw [if_pos ⟨Bool.eq_false_iff.mpr c_33, by omega⟩]; dsimp only; first | (rw [if_pos (by omega)]; done) | (rw [if_neg (by omega)]; done))) (by rw [q_nx2]; first | (rw [if_neg (fun h9 => absurd h9.1 (by show ¬ (pl k = false); rw [c_33]; decide))]; done) | (rw [if_neg (fun h9 => by have h8 := h9.2; omega)]; done) | (rw [if_pos ⟨Bool.eq_false_iff.mpr c_33, by omega⟩]; dsimp only; first | (rw [if_pos (by omega)]; done) | (rw [if_neg (by omega)]; done))) (by omega) (by omega) _ _ _ hG (lv_sub hl [0, 1, 2, 3, 4, 5, 6, 7] rfl)
                  · skip
                    have hdb := dok5 hI ((q_nx2 R pl st o k).2.toNat) (by omega)
                    refine lv_aload hx hb dX0_nextDog_88 (lv_at hl 3 rfl) ?_
                    refine lv_iload hx hb dX0_nextDog_90 (lv_at hl 0 rfl) ?_
                    refine g_iald (z := (q_dr R k)) (j := k) hx hb hG (o := (t + 2)) (hd_t 2 (by decide)) (gE_tI hT 2 (by decide) G _) (by omega) (by omega) (by omega) (tr_dr hR (i := k) (by omega)) dX0_nextDog_92 ?_
                    refine lv_aload hx hb dX0_nextDog_93 (lv_at hl 3 rfl) ?_
                    refine lv_iload hx hb dX0_nextDog_95 (lv_at hl 1 rfl) ?_
                    refine g_iald (z := (q_dr R (((q_nx2 R pl st o k).2.toNat)))) (j := (((q_nx2 R pl st o k).2.toNat))) hx hb hG (o := (t + 2)) (hd_t 2 (by decide)) (gE_tI hT 2 (by decide) G _) (by omega) (by omega) (by omega) (tr_dr hR (i := (((q_nx2 R pl st o k).2.toNat))) (by omega)) dX0_nextDog_97 ?_
                    refine z_icmp_ge (tgt := 105) hx hb (by omega) (by omega) dX0_nextDog_98 (by decide) (fun c_98 => ?_) (fun c_98 => ?_)
                    · skip
                      refine z_iinc (z := ((k : Int) + 1)) (lv' := [(7, .int (iZ ((k : Int) + 1))), (6, .int (iZ (q_nx2 R pl st o k).2)), (5, .int (iZ (q_nx2 R pl st o k).1)), (4, .ref (gad G (t + 2))), (0, .ref (gad G q)), (1, .ref (gad G t)), (2, .int (iZ st)), (3, .int (iZ o))]) hx hb dX0_nextDog_105 hl (k := 0) rfl (by omega) (by decide) rfl (fun ls hl => ?_)
                      refine lv_goto (tgt := 17) hx hb dX0_nextDog_108 (by decide) ?_
                      exact ih_17 (k + 1) ((k : Int) + 1) ((q_nx2 R pl st o k).2) ((q_nx2 R pl st o k).1)  (by omega) (by rw [q_nx2]; first | (rw [if_neg (fun h9 => absurd h9.1 (by show ¬ (pl k = false); rw [c_33]; decide))]; done) | (rw [if_neg (fun h9 => by have h8 := h9.2; omega)]; done) | (rw [if_pos ⟨Bool.eq_false_iff.mpr c_33, by omega⟩]; dsimp only; first | (rw [if_pos (by omega)]; done) | (rw [if_neg (by omega)]; done))) (by rw [q_nx2]; first | (rw [if_neg (fun h9 => absurd h9.1 (by show ¬ (pl k = false); rw [c_33]; decide))]; done) | (rw [if_neg (fun h9 => by have h8 := h9.2; omega)]; done) | (rw [if_pos ⟨Bool.eq_false_iff.mpr c_33, by omega⟩]; dsimp only; first | (rw [if_pos (by omega)]; done) | (rw [if_neg (by omega)]; done))) (by omega) (by omega) _ _ _ hG (lv_sub hl [0, 1, 2, 3, 4, 5, 6, 7] rfl)
                    · skip
                      refine lv_iload hx hb dX0_nextDog_101 (lv_at hl 0 rfl) ?_
                      refine lv_istore (lv' := [(6, .int (iZ (k : Int))), (7, .int (iZ (k : Int))), (5, .int (iZ (q_nx2 R pl st o k).1)), (4, .ref (gad G (t + 2))), (0, .ref (gad G q)), (1, .ref (gad G t)), (2, .int (iZ st)), (3, .int (iZ o))]) hx hb dX0_nextDog_103 hl (by decide) rfl (fun ls hl => ?_)
                      refine z_iinc (z := ((k : Int) + 1)) (lv' := [(7, .int (iZ ((k : Int) + 1))), (6, .int (iZ (k : Int))), (5, .int (iZ (q_nx2 R pl st o k).1)), (4, .ref (gad G (t + 2))), (0, .ref (gad G q)), (1, .ref (gad G t)), (2, .int (iZ st)), (3, .int (iZ o))]) hx hb dX0_nextDog_105 hl (k := 1) rfl (by omega) (by decide) rfl (fun ls hl => ?_)
                      refine lv_goto (tgt := 17) hx hb dX0_nextDog_108 (by decide) ?_
                      exact ih_17 (k + 1) ((k : Int) + 1) (k : Int) ((q_nx2 R pl st o k).1)  (by omega) (by rw [q_nx2]; first | (rw [if_neg (fun h9 => absurd h9.1 (by show ¬ (pl k = false); rw [c_33]; decide))]; done) | (rw [if_neg (fun h9 => by have h8 := h9.2; omega)]; done) | (rw [if_pos ⟨Bool.eq_false_iff.mpr c_33, by omega⟩]; dsimp only; first | (rw [if_pos (by omega)]; done) | (rw [if_neg (by omega)]; done))) (by rw [q_nx2]; first | (rw [if_neg (fun h9 => absurd h9.1 (by show ¬ (pl k = false); rw [c_33]; decide))]; done) | (rw [if_neg (fun h9 => by have h8 := h9.2; omega)]; done) | (rw [if_pos ⟨Bool.eq_false_iff.mpr c_33, by omega⟩]; dsimp only; first | (rw [if_pos (by omega)]; done) | (rw [if_neg (by omega)]; done))) (by omega) (by omega) _ _ _ hG (lv_sub hl [0, 1, 2, 3, 4, 5, 6, 7] rfl)
              · skip
                refine lv_iload hx hb dX0_nextDog_68 (lv_at hl 0 rfl) ?_
                refine lv_istore (lv' := [(5, .int (iZ (k : Int))), (7, .int (iZ (k : Int))), (6, .int (iZ (q_nx2 R pl st o k).2)), (4, .ref (gad G (t + 2))), (0, .ref (gad G q)), (1, .ref (gad G t)), (2, .int (iZ st)), (3, .int (iZ o))]) hx hb dX0_nextDog_70 hl (by decide) rfl (fun ls hl => ?_)
                refine lv_aload_n hx hb dX0_nextDog_72 rfl (lv_at hl 5 rfl) ?_
                refine g_get hx hb hts hinX3 hown hG (o := t) (hd_t 0 (by decide)) (gE_T hT G _) rfl 1 (by decide) f43 (fun _ h => h) rfl dX0_nextDog_73 ?_
                refine lv_iload hx hb dX0_nextDog_76 (lv_at hl 1 rfl) ?_
                refine g_iald (z := (q_ow R k)) (j := k) hx hb hG (o := (t + 1)) (hd_t 1 (by decide)) (gE_tI hT 1 (by decide) G _) (by omega) (by omega) (by omega) (tr_ow hR (i := k) (by omega)) dX0_nextDog_78 ?_
                refine lv_iload_n hx hb dX0_nextDog_79 rfl (lv_at hl 7 rfl) ?_
                refine z_icmp_eq (tgt := 105) hx hb (by omega) (by omega) dX0_nextDog_80 (by decide) (fun c_80 => ?_) (fun c_80 => ?_)
                · skip
                  refine z_iinc (z := ((k : Int) + 1)) (lv' := [(7, .int (iZ ((k : Int) + 1))), (5, .int (iZ (k : Int))), (6, .int (iZ (q_nx2 R pl st o k).2)), (4, .ref (gad G (t + 2))), (0, .ref (gad G q)), (1, .ref (gad G t)), (2, .int (iZ st)), (3, .int (iZ o))]) hx hb dX0_nextDog_105 hl (k := 1) rfl (by omega) (by decide) rfl (fun ls hl => ?_)
                  refine lv_goto (tgt := 17) hx hb dX0_nextDog_108 (by decide) ?_
                  exact ih_17 (k + 1) ((k : Int) + 1) ((q_nx2 R pl st o k).2) (k : Int)  (by omega) (by rw [q_nx2]; first | (rw [if_neg (fun h9 => absurd h9.1 (by show ¬ (pl k = false); rw [c_33]; decide))]; done) | (rw [if_neg (fun h9 => by have h8 := h9.2; omega)]; done) | (rw [if_pos ⟨Bool.eq_false_iff.mpr c_33, by omega⟩]; dsimp only; first | (rw [if_pos (by omega)]; done) | (rw [if_neg (by omega)]; done))) (by rw [q_nx2]; first | (rw [if_neg (fun h9 => absurd h9.1 (by show ¬ (pl k = false); rw [c_33]; decide))]; done) | (rw [if_neg (fun h9 => by have h8 := h9.2; omega)]; done) | (rw [if_pos ⟨Bool.eq_false_iff.mpr c_33, by omega⟩]; dsimp only; first | (rw [if_pos (by omega)]; done) | (rw [if_neg (by omega)]; done))) (by omega) (by omega) _ _ _ hG (lv_sub hl [0, 2, 1, 3, 4, 5, 6, 7] rfl)
                · skip
                  refine lv_iload hx hb dX0_nextDog_83 (lv_at hl 2 rfl) ?_
                  refine z_if_lt (tgt := 101) hx hb (by omega) dX0_nextDog_85 (by decide) (fun c_85 => ?_) (fun c_85 => ?_)
                  · skip
                    refine lv_iload hx hb dX0_nextDog_101 (lv_at hl 1 rfl) ?_
                    refine lv_istore (lv' := [(6, .int (iZ (k : Int))), (5, .int (iZ (k : Int))), (7, .int (iZ (k : Int))), (4, .ref (gad G (t + 2))), (0, .ref (gad G q)), (1, .ref (gad G t)), (2, .int (iZ st)), (3, .int (iZ o))]) hx hb dX0_nextDog_103 hl (by decide) rfl (fun ls hl => ?_)
                    refine z_iinc (z := ((k : Int) + 1)) (lv' := [(7, .int (iZ ((k : Int) + 1))), (6, .int (iZ (k : Int))), (5, .int (iZ (k : Int))), (4, .ref (gad G (t + 2))), (0, .ref (gad G q)), (1, .ref (gad G t)), (2, .int (iZ st)), (3, .int (iZ o))]) hx hb dX0_nextDog_105 hl (k := 2) rfl (by omega) (by decide) rfl (fun ls hl => ?_)
                    refine lv_goto (tgt := 17) hx hb dX0_nextDog_108 (by decide) ?_
                    exact ih_17 (k + 1) ((k : Int) + 1) (k : Int) (k : Int)  (by omega) (by rw [q_nx2]; first | (rw [if_neg (fun h9 => absurd h9.1 (by show ¬ (pl k = false); rw [c_33]; decide))]; done) | (rw [if_neg (fun h9 => by have h8 := h9.2; omega)]; done) | (rw [if_pos ⟨Bool.eq_false_iff.mpr c_33, by omega⟩]; dsimp only; first | (rw [if_pos (by omega)]; done) | (rw [if_neg (by omega)]; done))) (by rw [q_nx2]; first | (rw [if_neg (fun h9 => absurd h9.1 (by show ¬ (pl k = false); rw [c_33]; decide))]; done) | (rw [if_neg (fun h9 => by have h8 := h9.2; omega)]; done) | (rw [if_pos ⟨Bool.eq_false_iff.mpr c_33, by omega⟩]; dsimp only; first | (rw [if_pos (by omega)]; done) | (rw [if_neg (by omega)]; done))) (by omega) (by omega) _ _ _ hG (lv_sub hl [0, 1, 2, 3, 4, 5, 6, 7] rfl)
                  · skip
                    have hdb := dok5 hI ((q_nx2 R pl st o k).2.toNat) (by omega)
                    refine lv_aload hx hb dX0_nextDog_88 (lv_at hl 3 rfl) ?_
                    refine lv_iload hx hb dX0_nextDog_90 (lv_at hl 1 rfl) ?_
                    refine g_iald (z := (q_dr R k)) (j := k) hx hb hG (o := (t + 2)) (hd_t 2 (by decide)) (gE_tI hT 2 (by decide) G _) (by omega) (by omega) (by omega) (tr_dr hR (i := k) (by omega)) dX0_nextDog_92 ?_
                    refine lv_aload hx hb dX0_nextDog_93 (lv_at hl 3 rfl) ?_
                    refine lv_iload hx hb dX0_nextDog_95 (lv_at hl 2 rfl) ?_
                    refine g_iald (z := (q_dr R (((q_nx2 R pl st o k).2.toNat)))) (j := (((q_nx2 R pl st o k).2.toNat))) hx hb hG (o := (t + 2)) (hd_t 2 (by decide)) (gE_tI hT 2 (by decide) G _) (by omega) (by omega) (by omega) (tr_dr hR (i := (((q_nx2 R pl st o k).2.toNat))) (by omega)) dX0_nextDog_97 ?_
                    refine z_icmp_ge (tgt := 105) hx hb (by omega) (by omega) dX0_nextDog_98 (by decide) (fun c_98 => ?_) (fun c_98 => ?_)
                    · skip
                      refine z_iinc (z := ((k : Int) + 1)) (lv' := [(7, .int (iZ ((k : Int) + 1))), (5, .int (iZ (k : Int))), (6, .int (iZ (q_nx2 R pl st o k).2)), (4, .ref (gad G (t + 2))), (0, .ref (gad G q)), (1, .ref (gad G t)), (2, .int (iZ st)), (3, .int (iZ o))]) hx hb dX0_nextDog_105 hl (k := 1) rfl (by omega) (by decide) rfl (fun ls hl => ?_)
                      refine lv_goto (tgt := 17) hx hb dX0_nextDog_108 (by decide) ?_
                      exact ih_17 (k + 1) ((k : Int) + 1) ((q_nx2 R pl st o k).2) (k : Int)  (by omega) (by rw [q_nx2]; first | (rw [if_neg (fun h9 => absurd h9.1 (by show ¬ (pl k = false); rw [c_33]; decide))]; done) | (rw [if_neg (fun h9 => by have h8 := h9.2; omega)]; done) | (rw [if_pos ⟨Bool.eq_false_iff.mpr c_33, by omega⟩]; dsimp only; first | (rw [if_pos (by omega)]; done) | (rw [if_neg (by omega)]; done))) (by rw [q_nx2]; first | (rw [if_neg (fun h9 => absurd h9.1 (by show ¬ (pl k = false); rw [c_33]; decide))]; done) | (rw [if_neg (fun h9 => by have h8 := h9.2; omega)]; done) | (rw [if_pos ⟨Bool.eq_false_iff.mpr c_33, by omega⟩]; dsimp only; first | (rw [if_pos (by omega)]; done) | (rw [if_neg (by omega)]; done))) (by omega) (by omega) _ _ _ hG (lv_sub hl [0, 2, 1, 3, 4, 5, 6, 7] rfl)
                    · skip
                      refine lv_iload hx hb dX0_nextDog_101 (lv_at hl 1 rfl) ?_
                      refine lv_istore (lv' := [(6, .int (iZ (k : Int))), (5, .int (iZ (k : Int))), (7, .int (iZ (k : Int))), (4, .ref (gad G (t + 2))), (0, .ref (gad G q)), (1, .ref (gad G t)), (2, .int (iZ st)), (3, .int (iZ o))]) hx hb dX0_nextDog_103 hl (by decide) rfl (fun ls hl => ?_)
                      refine z_iinc (z := ((k : Int) + 1)) (lv' := [(7, .int (iZ ((k : Int) + 1))), (6, .int (iZ (k : Int))), (5, .int (iZ (k : Int))), (4, .ref (gad G (t + 2))), (0, .ref (gad G q)), (1, .ref (gad G t)), (2, .int (iZ st)), (3, .int (iZ o))]) hx hb dX0_nextDog_105 hl (k := 2) rfl (by omega) (by decide) rfl (fun ls hl => ?_)
                      refine lv_goto (tgt := 17) hx hb dX0_nextDog_108 (by decide) ?_
                      exact ih_17 (k + 1) ((k : Int) + 1) (k : Int) (k : Int)  (by omega) (by rw [q_nx2]; first | (rw [if_neg (fun h9 => absurd h9.1 (by show ¬ (pl k = false); rw [c_33]; decide))]; done) | (rw [if_neg (fun h9 => by have h8 := h9.2; omega)]; done) | (rw [if_pos ⟨Bool.eq_false_iff.mpr c_33, by omega⟩]; dsimp only; first | (rw [if_pos (by omega)]; done) | (rw [if_neg (by omega)]; done))) (by rw [q_nx2]; first | (rw [if_neg (fun h9 => absurd h9.1 (by show ¬ (pl k = false); rw [c_33]; decide))]; done) | (rw [if_neg (fun h9 => by have h8 := h9.2; omega)]; done) | (rw [if_pos ⟨Bool.eq_false_iff.mpr c_33, by omega⟩]; dsimp only; first | (rw [if_pos (by omega)]; done) | (rw [if_neg (by omega)]; done))) (by omega) (by omega) _ _ _ hG (lv_sub hl [0, 1, 2, 3, 4, 5, 6, 7] rfl)
          · skip
            refine lv_goto (tgt := 105) hx hb dX0_nextDog_47 (by decide) ?_
            refine z_iinc (z := ((k : Int) + 1)) (lv' := [(7, .int (iZ ((k : Int) + 1))), (6, .int (iZ (q_nx2 R pl st o k).2)), (5, .int (iZ (q_nx2 R pl st o k).1)), (4, .ref (gad G (t + 2))), (0, .ref (gad G q)), (1, .ref (gad G t)), (2, .int (iZ st)), (3, .int (iZ o))]) hx hb dX0_nextDog_105 hl (k := 0) rfl (by omega) (by decide) rfl (fun ls hl => ?_)
            refine lv_goto (tgt := 17) hx hb dX0_nextDog_108 (by decide) ?_
            exact ih_17 (k + 1) ((k : Int) + 1) ((q_nx2 R pl st o k).2) ((q_nx2 R pl st o k).1)  (by omega) (by rw [q_nx2]; first | (rw [if_neg (fun h9 => absurd h9.1 (by show ¬ (pl k = false); rw [c_33]; decide))]; done) | (rw [if_neg (fun h9 => by have h8 := h9.2; omega)]; done) | (rw [if_pos ⟨Bool.eq_false_iff.mpr c_33, by omega⟩]; dsimp only; first | (rw [if_pos (by omega)]; done) | (rw [if_neg (by omega)]; done))) (by rw [q_nx2]; first | (rw [if_neg (fun h9 => absurd h9.1 (by show ¬ (pl k = false); rw [c_33]; decide))]; done) | (rw [if_neg (fun h9 => by have h8 := h9.2; omega)]; done) | (rw [if_pos ⟨Bool.eq_false_iff.mpr c_33, by omega⟩]; dsimp only; first | (rw [if_pos (by omega)]; done) | (rw [if_neg (by omega)]; done))) (by omega) (by omega) _ _ _ hG (lv_sub hl [0, 1, 2, 3, 4, 5, 6, 7] rfl)
  exact L_17 _ 0 0 (-9) (-9)  rfl rfl rfl (by omega) (Nat.lt_succ_self _) _ _ _ hG (lv_sub hl [0, 1, 2, 3, 4, 5, 6, 7] rfl)
