set_option maxHeartbeats 4000000 in
set_option maxRecDepth 100000 in
theorem c_X3_hasDog (l : Launch) (G : gG) (M : Nat → Nat → Int) (hdm : ∀ k, k < 169 → gdm G k) (t : Nat) (hT : isT t) (R : Nat → Int) (hR : q_tr M t R) (hI : q_inv R) (a : Int) (ha : -2147483648 ≤ a ∧ a < 2147483648) : gMi l yX3_hasDog wsX3_hasDog ({ frames := 0, cells := 0, slots := 0, locals := 0 } : Room) G M [.ref (gad G t), .int (iZ a)] (fun z M1 => z = (if 0 ≤ a ∧ a < q_nd R then 1 else 0) ∧ M1 = M) := by
  refine gMi_of (cc := cX3_hasDog) (maxL := 2) (ret := some .boolean) (by decide) rfl (Nat.le_of_ble_eq_true rfl) ?_
  intro p e s m below meth c ls hx hb hr hml hown hts hlocks hl hG
  have hown : s.vm.findClass RX3 = some m.cls := hown
  have hl : lv_has ls 2 [(0, .ref (gad G t)), (1, .int (iZ a))] := hl
  have hd_t : ∀ r, r < 8 → gdm G (t + r) := fun r hr => hdm _ (by have h1 := (hT).1; have h2 := (hT).2; omega)
  have hinX3 : ∀ w ∈ u_ws RX3 TX3 15, w ∈ wsX3_hasDog := by decide +kernel
  have f37 := hts (.fieldLink RX3 37 "DogTrials$Trial" "dogs" "I") (by decide +kernel)
  have hnd := hI.1
  refine lv_iload_n hx hb dX3_hasDog_0 rfl (lv_at hl 1 rfl) ?_
  refine z_if_lt (tgt := 16) hx hb (by omega) dX3_hasDog_1 (by decide) (fun c_1 => ?_) (fun c_1 => ?_)
  · skip
    refine lv_iconst (v := iZ 0) hx hb dX3_hasDog_16 rfl ?_
    exact g_zret (post := fun z M1 => z = (if 0 ≤ a ∧ a < q_nd R then 1 else 0) ∧ M1 = M) (z := 0) hx hb hr hG hlocks (Or.inl rfl) (⟨by first | (rw [if_pos (by omega)]) | (rw [if_neg (by omega)]), rfl⟩) dX3_hasDog_17
  · skip
    refine lv_iload_n hx hb dX3_hasDog_4 rfl (lv_at hl 1 rfl) ?_
    refine lv_aload_n hx hb dX3_hasDog_5 rfl (lv_at hl 0 rfl) ?_
    refine g_geti (z := (q_nd R)) hx hb hts hinX3 hown hG (o := t) (hd_t 0 (by decide)) (gE_T hT G _) rfl 0 (by decide) f37 (fun _ h => h) rfl (tr_nd hR) dX3_hasDog_6 ?_
    refine z_icmp_ge (tgt := 16) hx hb (by omega) (by omega) dX3_hasDog_9 (by decide) (fun c_9 => ?_) (fun c_9 => ?_)
    · skip
      refine lv_iconst (v := iZ 0) hx hb dX3_hasDog_16 rfl ?_
      exact g_zret (post := fun z M1 => z = (if 0 ≤ a ∧ a < q_nd R then 1 else 0) ∧ M1 = M) (z := 0) hx hb hr hG hlocks (Or.inl rfl) (⟨by first | (rw [if_pos (by omega)]) | (rw [if_neg (by omega)]), rfl⟩) dX3_hasDog_17
    · skip
      refine lv_iconst (v := iZ 1) hx hb dX3_hasDog_12 rfl ?_
      refine lv_goto (tgt := 17) hx hb dX3_hasDog_13 (by decide) ?_
      exact g_zret (post := fun z M1 => z = (if 0 ≤ a ∧ a < q_nd R then 1 else 0) ∧ M1 = M) (z := 1) hx hb hr hG hlocks (Or.inr rfl) (⟨by first | (rw [if_pos (by omega)]) | (rw [if_neg (by omega)]), rfl⟩) dX3_hasDog_17
set_option maxHeartbeats 4000000 in
set_option maxRecDepth 100000 in
theorem c_X3_isToRun (l : Launch) (G : gG) (M : Nat → Nat → Int) (hdm : ∀ k, k < 169 → gdm G k) (t : Nat) (hT : isT t) (R : Nat → Int) (hR : q_tr M t R) (hI : q_inv R) (i : Nat) (hi : (i : Int) < q_nd R) : gMi l yX3_isToRun wsX3_isToRun ({ frames := 0, cells := 0, slots := 0, locals := 0 } : Room) G M [.ref (gad G t), .int (iZ (i : Int))] (fun z M1 => z = (if q_torun R i = true then 1 else 0) ∧ M1 = M) := by
  refine gMi_of (cc := cX3_isToRun) (maxL := 2) (ret := some .boolean) (by decide) rfl (Nat.le_of_ble_eq_true rfl) ?_
  intro p e s m below meth c ls hx hb hr hml hown hts hlocks hl hG
  have hown : s.vm.findClass RX3 = some m.cls := hown
  have hl : lv_has ls 2 [(0, .ref (gad G t)), (1, .int (iZ (i : Int)))] := hl
  have hd_t : ∀ r, r < 8 → gdm G (t + r) := fun r hr => hdm _ (by have h1 := (hT).1; have h2 := (hT).2; omega)
  have hinX3 : ∀ w ∈ u_ws RX3 TX3 15, w ∈ wsX3_isToRun := by decide +kernel
  have f18 := hts (.fieldLink RX3 18 "DogTrials$Trial" "states" "[I") (by decide +kernel)
  have hnd := hI.1
  have hdo := hI.2.1 i hi
  unfold q_dogok at hdo
  refine lv_aload_n hx hb dX3_isToRun_0 rfl (lv_at hl 0 rfl) ?_
  refine g_get hx hb hts hinX3 hown hG (o := t) (hd_t 0 (by decide)) (gE_T hT G _) rfl 3 (by decide) f18 (fun _ h => h) rfl dX3_isToRun_1 ?_
  refine lv_iload_n hx hb dX3_isToRun_4 rfl (lv_at hl 1 rfl) ?_
  refine g_iald (z := (q_sa R i)) (j := i) hx hb hG (o := (t + 3)) (hd_t 3 (by decide)) (gE_tI hT 3 (by decide) G _) (by omega) (by omega) (by omega) (tr_sa hR (i := i) (by omega)) dX3_isToRun_5 ?_
  refine z_if_eq (tgt := 19) hx hb (by omega) dX3_isToRun_6 (by decide) (fun c_6 => ?_) (fun c_6 => ?_)
  · skip
    refine lv_iconst (v := iZ 1) hx hb dX3_isToRun_19 rfl ?_
    refine lv_goto (tgt := 24) hx hb dX3_isToRun_20 (by decide) ?_
    exact g_zret (post := fun z M1 => z = (if q_torun R i = true then 1 else 0) ∧ M1 = M) (z := 1) hx hb hr hG hlocks (Or.inr rfl) (⟨by unfold q_torun; first | (rw [if_pos (decide_eq_true (by omega))]) | (rw [if_neg (fun h => by have h9 := of_decide_eq_true h; omega)]), rfl⟩) dX3_isToRun_24
  · skip
    refine lv_aload_n hx hb dX3_isToRun_9 rfl (lv_at hl 0 rfl) ?_
    refine g_get hx hb hts hinX3 hown hG (o := t) (hd_t 0 (by decide)) (gE_T hT G _) rfl 3 (by decide) f18 (fun _ h => h) rfl dX3_isToRun_10 ?_
    refine lv_iload_n hx hb dX3_isToRun_13 rfl (lv_at hl 1 rfl) ?_
    refine g_iald (z := (q_sa R i)) (j := i) hx hb hG (o := (t + 3)) (hd_t 3 (by decide)) (gE_tI hT 3 (by decide) G _) (by omega) (by omega) (by omega) (tr_sa hR (i := i) (by omega)) dX3_isToRun_14 ?_
    refine lv_iconst (v := iZ 2) hx hb dX3_isToRun_15 rfl ?_
    refine z_icmp_ne (tgt := 23) hx hb (by omega) (by decide) dX3_isToRun_16 (by decide) (fun c_16 => ?_) (fun c_16 => ?_)
    · skip
      refine lv_iconst (v := iZ 0) hx hb dX3_isToRun_23 rfl ?_
      exact g_zret (post := fun z M1 => z = (if q_torun R i = true then 1 else 0) ∧ M1 = M) (z := 0) hx hb hr hG hlocks (Or.inl rfl) (⟨by unfold q_torun; first | (rw [if_pos (decide_eq_true (by omega))]) | (rw [if_neg (fun h => by have h9 := of_decide_eq_true h; omega)]), rfl⟩) dX3_isToRun_24
    · skip
      refine lv_iconst (v := iZ 1) hx hb dX3_isToRun_19 rfl ?_
      refine lv_goto (tgt := 24) hx hb dX3_isToRun_20 (by decide) ?_
      exact g_zret (post := fun z M1 => z = (if q_torun R i = true then 1 else 0) ∧ M1 = M) (z := 1) hx hb hr hG hlocks (Or.inr rfl) (⟨by unfold q_torun; first | (rw [if_pos (decide_eq_true (by omega))]) | (rw [if_neg (fun h => by have h9 := of_decide_eq_true h; omega)]), rfl⟩) dX3_isToRun_24
set_option maxHeartbeats 4000000 in
set_option maxRecDepth 100000 in
theorem c_X3_lossOf (l : Launch) (G : gG) (M : Nat → Nat → Int) (hdm : ∀ k, k < 169 → gdm G k) (t : Nat) (hT : isT t) (R : Nat → Int) (hR : q_tr M t R) (hI : q_inv R) (i : Nat) (hi : (i : Int) < q_nd R) (p0 : Nat) (hp : p0 < 6) (hh : q_hs R i = 1) : gMi l yX3_lossOf wsX3_lossOf ({ frames := 0, cells := 0, slots := 0, locals := 0 } : Room) G M [.ref (gad G t), .int (iZ (i : Int)), .int (iZ (p0 : Int))] (fun z M1 => z = q_lo R i p0 ∧ M1 = M) := by
  refine gMi_of (cc := cX3_lossOf) (maxL := 3) (ret := some .int) (by decide) rfl (Nat.le_of_ble_eq_true rfl) ?_
  intro p e s m below meth c ls hx hb hr hml hown hts hlocks hl hG
  have hown : s.vm.findClass RX3 = some m.cls := hown
  have hl : lv_has ls 3 [(0, .ref (gad G t)), (1, .int (iZ (i : Int))), (2, .int (iZ (p0 : Int)))] := hl
  have hd_t : ∀ r, r < 8 → gdm G (t + r) := fun r hr => hdm _ (by have h1 := (hT).1; have h2 := (hT).2; omega)
  have hinX3 : ∀ w ∈ u_ws RX3 TX3 15, w ∈ wsX3_lossOf := by decide +kernel
  have f25 := hts (.fieldLink RX3 25 "DogTrials$Trial" "anew" "[I") (by decide +kernel)
  have f28 := hts (.fieldLink RX3 28 "DogTrials$Trial" "noted" "[I") (by decide +kernel)
  have hnd := hI.1
  have hdo := hI.2.1 i hi
  unfold q_dogok at hdo
  refine lv_iload_n hx hb dX3_lossOf_0 rfl (lv_at hl 2 rfl) ?_
  refine lv_aload_n hx hb dX3_lossOf_1 rfl (lv_at hl 0 rfl) ?_
  refine g_get hx hb hts hinX3 hown hG (o := t) (hd_t 0 (by decide)) (gE_T hT G _) rfl 5 (by decide) f25 (fun _ h => h) rfl dX3_lossOf_2 ?_
  refine lv_iload_n hx hb dX3_lossOf_5 rfl (lv_at hl 1 rfl) ?_
  refine g_iald (z := (q_fr R i)) (j := i) hx hb hG (o := (t + 5)) (hd_t 5 (by decide)) (gE_tI hT 5 (by decide) G _) (by omega) (by omega) (by omega) (tr_fr hR (i := i) (by omega)) dX3_lossOf_6 ?_
  refine z_icmp_ge (tgt := 24) hx hb (by omega) (by omega) dX3_lossOf_7 (by decide) (fun c_7 => ?_) (fun c_7 => ?_)
  · skip
    refine g_worth hx hb hG hown hG.2.1.2.2.2.2.2.2.1 dX3_lossOf_24 ?_
    refine lv_iload_n hx hb dX3_lossOf_27 rfl (lv_at hl 2 rfl) ?_
    refine g_wald (j := p0) hx hb hG (by omega) (by omega) dX3_lossOf_28 ?_
    exact g_iret (post := fun z M1 => z = q_lo R i p0 ∧ M1 = M) (z := (q_wth p0)) hx hb hr hG hlocks (⟨by unfold q_lo; first | (rw [if_pos (by omega)]) | (rw [if_neg (by omega)]), rfl⟩) dX3_lossOf_29
  · skip
    refine lv_aload_n hx hb dX3_lossOf_10 rfl (lv_at hl 0 rfl) ?_
    refine g_get hx hb hts hinX3 hown hG (o := t) (hd_t 0 (by decide)) (gE_T hT G _) rfl 6 (by decide) f28 (fun _ h => h) rfl dX3_lossOf_11 ?_
    refine lv_iload_n hx hb dX3_lossOf_14 rfl (lv_at hl 1 rfl) ?_
    refine lv_bipush (v := iZ (6)) hx hb dX3_lossOf_15 (by decide) ?_
    refine z_imul (z := (6 * (i : Int))) hx hb (by omega) dX3_lossOf_17 ?_
    refine lv_iload_n hx hb dX3_lossOf_18 rfl (lv_at hl 2 rfl) ?_
    refine z_iadd (z := (6 * (i : Int) + (p0 : Int))) hx hb (by omega) dX3_lossOf_19 ?_
    refine g_iald (z := (q_ls R i p0)) (j := (6 * i + p0)) hx hb hG (o := (t + 6)) (hd_t 6 (by decide)) (gE_t6 hT G _) (by omega) (by omega) (by omega) (tr_ls hR (i := i) (p := p0) (by omega) (by assumption) (by omega)) dX3_lossOf_20 ?_
    refine lv_goto (tgt := 29) hx hb dX3_lossOf_21 (by decide) ?_
    exact g_iret (post := fun z M1 => z = q_lo R i p0 ∧ M1 = M) (z := (q_ls R i p0)) hx hb hr hG hlocks (⟨by unfold q_lo; first | (rw [if_pos (by omega)]) | (rw [if_neg (by omega)]), rfl⟩) dX3_lossOf_29
def q_fp (R : Nat → Int) (i : Nat) : Int := if q_sa R i = 2 then q_fr R i else 0
set_option maxHeartbeats 4000000 in
set_option maxRecDepth 100000 in
theorem c_X3_firstPhaseToRun (l : Launch) (G : gG) (M : Nat → Nat → Int) (hdm : ∀ k, k < 169 → gdm G k) (t : Nat) (hT : isT t) (R : Nat → Int) (hR : q_tr M t R) (hI : q_inv R) (i : Nat) (hi : (i : Int) < q_nd R) : gMi l yX3_firstPhaseToRun wsX3_firstPhaseToRun ({ frames := 0, cells := 0, slots := 0, locals := 0 } : Room) G M [.ref (gad G t), .int (iZ (i : Int))] (fun z M1 => z = q_fp R i ∧ M1 = M) := by
  refine gMi_of (cc := cX3_firstPhaseToRun) (maxL := 2) (ret := some .int) (by decide) rfl (Nat.le_of_ble_eq_true rfl) ?_
  intro p e s m below meth c ls hx hb hr hml hown hts hlocks hl hG
  have hown : s.vm.findClass RX3 = some m.cls := hown
  have hl : lv_has ls 2 [(0, .ref (gad G t)), (1, .int (iZ (i : Int)))] := hl
  have hd_t : ∀ r, r < 8 → gdm G (t + r) := fun r hr => hdm _ (by have h1 := (hT).1; have h2 := (hT).2; omega)
  have hinX3 : ∀ w ∈ u_ws RX3 TX3 15, w ∈ wsX3_firstPhaseToRun := by decide +kernel
  have f18 := hts (.fieldLink RX3 18 "DogTrials$Trial" "states" "[I") (by decide +kernel)
  have f25 := hts (.fieldLink RX3 25 "DogTrials$Trial" "anew" "[I") (by decide +kernel)
  have hnd := hI.1
  have hdo := hI.2.1 i hi
  unfold q_dogok at hdo
  refine lv_aload_n hx hb dX3_firstPhaseToRun_0 rfl (lv_at hl 0 rfl) ?_
  refine g_get hx hb hts hinX3 hown hG (o := t) (hd_t 0 (by decide)) (gE_T hT G _) rfl 3 (by decide) f18 (fun _ h => h) rfl dX3_firstPhaseToRun_1 ?_
  refine lv_iload_n hx hb dX3_firstPhaseToRun_4 rfl (lv_at hl 1 rfl) ?_
  refine g_iald (z := (q_sa R i)) (j := i) hx hb hG (o := (t + 3)) (hd_t 3 (by decide)) (gE_tI hT 3 (by decide) G _) (by omega) (by omega) (by omega) (tr_sa hR (i := i) (by omega)) dX3_firstPhaseToRun_5 ?_
  refine lv_iconst (v := iZ 2) hx hb dX3_firstPhaseToRun_6 rfl ?_
  refine z_icmp_ne (tgt := 19) hx hb (by omega) (by decide) dX3_firstPhaseToRun_7 (by decide) (fun c_7 => ?_) (fun c_7 => ?_)
  · skip
    refine lv_iconst (v := iZ 0) hx hb dX3_firstPhaseToRun_19 rfl ?_
    exact g_iret (post := fun z M1 => z = q_fp R i ∧ M1 = M) (z := 0) hx hb hr hG hlocks (⟨by unfold q_fp; first | (rw [if_pos (by omega)]) | (rw [if_neg (by omega)]), rfl⟩) dX3_firstPhaseToRun_20
  · skip
    refine lv_aload_n hx hb dX3_firstPhaseToRun_10 rfl (lv_at hl 0 rfl) ?_
    refine g_get hx hb hts hinX3 hown hG (o := t) (hd_t 0 (by decide)) (gE_T hT G _) rfl 5 (by decide) f25 (fun _ h => h) rfl dX3_firstPhaseToRun_11 ?_
    refine lv_iload_n hx hb dX3_firstPhaseToRun_14 rfl (lv_at hl 1 rfl) ?_
    refine g_iald (z := (q_fr R i)) (j := i) hx hb hG (o := (t + 5)) (hd_t 5 (by decide)) (gE_tI hT 5 (by decide) G _) (by omega) (by omega) (by omega) (tr_fr hR (i := i) (by omega)) dX3_firstPhaseToRun_15 ?_
    refine lv_goto (tgt := 20) hx hb dX3_firstPhaseToRun_16 (by decide) ?_
    exact g_iret (post := fun z M1 => z = q_fp R i ∧ M1 = M) (z := (q_fr R i)) hx hb hr hG hlocks (⟨by unfold q_fp; first | (rw [if_pos (by omega)]) | (rw [if_neg (by omega)]), rfl⟩) dX3_firstPhaseToRun_20
set_option maxHeartbeats 4000000 in
set_option maxRecDepth 100000 in
theorem c_X3_dogsToRun (l : Launch) (G : gG) (M : Nat → Nat → Int) (hdm : ∀ k, k < 169 → gdm G k) (t : Nat) (hT : isT t) (R : Nat → Int) (hR : q_tr M t R) (hI : q_inv R) : gMi l yX3_dogsToRun wsX3_dogsToRun ({ frames := 1, cells := 0, slots := 0, locals := 21 } : Room) G M [.ref (gad G t)] (fun z M1 => z = q_nwait R ∧ M1 = M) := by
  refine gMi_of (cc := cX3_dogsToRun) (maxL := 3) (ret := some .int) (by decide) rfl (Nat.le_of_ble_eq_true rfl) ?_
  intro p e s m below meth c ls hx hb hr hml hown hts hlocks hl hG
  have hown : s.vm.findClass RX3 = some m.cls := hown
  have hl : lv_has ls 3 [(0, .ref (gad G t))] := hl
  have hd_t : ∀ r, r < 8 → gdm G (t + r) := fun r hr => hdm _ (by have h1 := (hT).1; have h2 := (hT).2; omega)
  have hinX3 : ∀ w ∈ u_ws RX3 TX3 15, w ∈ wsX3_dogsToRun := by decide +kernel
  have f37 := hts (.fieldLink RX3 37 "DogTrials$Trial" "dogs" "I") (by decide +kernel)
  have hnd := hI.1
  refine lv_iconst (v := iZ 0) hx hb dX3_dogsToRun_0 rfl ?_
  refine lv_istore_n (lv' := [(1, .int (iZ 0)), (0, .ref (gad G t))]) hx hb dX3_dogsToRun_1 rfl hl (by decide) rfl (fun ls hl => ?_)
  refine lv_iconst (v := iZ 0) hx hb dX3_dogsToRun_2 rfl ?_
  refine lv_istore_n (lv' := [(2, .int (iZ 0)), (1, .int (iZ 0)), (0, .ref (gad G t))]) hx hb dX3_dogsToRun_3 rfl hl (by decide) rfl (fun ls hl => ?_)
  have L_4 : ∀ (n_4 : Nat) (k : Nat) (x_i : Int) (x_c : Int), (x_i = (k : Int)) → (x_c = (q_ct (q_torun R) k)) → ((k : Int) ≤ q_nd R) → 12 - k < n_4 → ∀ (H : Heap) (locs : List Loc) (ls : Array Slot), gH G M s H locs → lv_has ls 3 [(2, .int (iZ x_i)), (1, .int (iZ x_c)), (0, .ref (gad G t))] → W p l e ({ frames := 1, cells := 0, slots := 0, locals := 21 } : Room) s m [.ref (gad G t)].toArray below meth c H locs 0 0 (MQ below (va_Qi (fun r (u : Int × (Nat → Nat → Int)) => r = iZ u.1 ∧ (fun z M1 => z = q_nwait R ∧ M1 = M) u.1 u.2) (fun u U => gB G u.2 U) (gA G)) [.ref (gad G t)].toArray s 0 0 (gA G)) (F0 m 4 ls []) := by
    intro n_4
    induction n_4 with
    | zero => intro k x_i x_c he_x_i he_x_c hk hm_4; exact absurd hm_4 (Nat.not_lt_zero _)
    | succ n_4 ih_4 =>
      intro k x_i x_c he_x_i he_x_c hk hm_4 H locs ls hG hl
      subst he_x_i
      subst he_x_c
      have hck := ct_in (q_torun R) k
      have hdk : (k : Int) < q_nd R → q_dogok R k := hI.2.1 k
      have hdok := dok hI k
      refine lv_iload_n hx hb dX3_dogsToRun_4 rfl (lv_at hl 0 rfl) ?_
      refine lv_aload_n hx hb dX3_dogsToRun_5 rfl (lv_at hl 2 rfl) ?_
      refine g_geti (z := (q_nd R)) hx hb hts hinX3 hown hG (o := t) (hd_t 0 (by decide)) (gE_T hT G _) rfl 0 (by decide) f37 (fun _ h => h) rfl (tr_nd hR) dX3_dogsToRun_6 ?_
      refine z_icmp_ge (tgt := 29) hx hb (by omega) (by omega) dX3_dogsToRun_9 (by decide) (fun c_9 => ?_) (fun c_9 => ?_)
      · skip
        refine lv_iload_n hx hb dX3_dogsToRun_29 rfl (lv_at hl 1 rfl) ?_
        exact g_iret (post := fun z M1 => z = q_nwait R ∧ M1 = M) (z := (q_ct (q_torun R) k)) hx hb hr hG hlocks (⟨by unfold q_nwait; congr 1; omega, rfl⟩) dX3_dogsToRun_30
      · skip
        refine lv_aload_n hx hb dX3_dogsToRun_12 rfl (lv_at hl 2 rfl) ?_
        refine lv_iload_n hx hb dX3_dogsToRun_13 rfl (lv_at hl 0 rfl) ?_
        refine g_callV (b := t) (As := [.int (iZ (k : Int))]) (rest := []) ⟨hx, hb, hml, hown, hts⟩ (c_X3_isToRun l G M hdm t hT R hR hI k (by omega)) (cwV 1 hts gX3_dogsToRun_X3_isToRun rfl rfl rfl (by decide +kernel) ⟨Nat.le_of_ble_eq_true rfl, Nat.le_of_ble_eq_true rfl⟩) hG (g_recv hG (b := t) (hd_t 0 (by decide)) (gE_T hT G _) rfl) rfl hl.1 rfl (Nat.le_of_ble_eq_true rfl) dX3_dogsToRun_14 ⟨Nat.zero_le _, Nat.zero_le _⟩ (fun z1 M2 H locs hp_14 hG => ?_)
        obtain ⟨hz_14, hM_14⟩ := hp_14; replace hz_14 := hz_14.symm; subst hz_14; replace hM_14 := hM_14.symm; subst hM_14
        refine z_ifP_eq (tgt := 23) hx hb dX3_dogsToRun_17 (by decide) (fun c_17 => ?_) (fun c_17 => ?_)
        · skip
          refine z_iinc (z := ((k : Int) + 1)) (lv' := [(2, .int (iZ ((k : Int) + 1))), (1, .int (iZ (q_ct (q_torun R) k))), (0, .ref (gad G t))]) hx hb dX3_dogsToRun_23 hl (k := 0) rfl (by omega) (by decide) rfl (fun ls hl => ?_)
          refine lv_goto (tgt := 4) hx hb dX3_dogsToRun_26 (by decide) ?_
          exact ih_4 (k + 1) ((k : Int) + 1) (q_ct (q_torun R) k)  (by omega) (by rw [q_ct]; first | (rw [if_pos (by first | assumption | exact decide_eq_true (by omega) | (simp_all; done))] <;> omega) | (rw [if_neg (by first | assumption | (intro h9; have h8 := of_decide_eq_true h9; omega) | (simp_all; done))] <;> omega)) (by omega) (by omega) _ _ _ hG (lv_sub hl [0, 1, 2] rfl)
        · skip
          refine z_iinc (z := ((q_ct (q_torun R) k) + 1)) (lv' := [(1, .int (iZ ((q_ct (q_torun R) k) + 1))), (2, .int (iZ (k : Int))), (0, .ref (gad G t))]) hx hb dX3_dogsToRun_20 hl (k := 1) rfl (by omega) (by decide) rfl (fun ls hl => ?_)
          refine z_iinc (z := ((k : Int) + 1)) (lv' := [(2, .int (iZ ((k : Int) + 1))), (1, .int (iZ ((q_ct (q_torun R) k) + 1))), (0, .ref (gad G t))]) hx hb dX3_dogsToRun_23 hl (k := 1) rfl (by omega) (by decide) rfl (fun ls hl => ?_)
          refine lv_goto (tgt := 4) hx hb dX3_dogsToRun_26 (by decide) ?_
          exact ih_4 (k + 1) ((k : Int) + 1) ((q_ct (q_torun R) k) + 1)  (by omega) (by rw [q_ct]; first | (rw [if_pos (by first | assumption | exact decide_eq_true (by omega) | (simp_all; done))] <;> omega) | (rw [if_neg (by first | assumption | (intro h9; have h8 := of_decide_eq_true h9; omega) | (simp_all; done))] <;> omega)) (by omega) (by omega) _ _ _ hG (lv_sub hl [0, 1, 2] rfl)
  exact L_4 _ 0 0 0  rfl rfl (by omega) (Nat.lt_succ_self _) _ _ _ hG (lv_sub hl [0, 1, 2] rfl)
set_option maxHeartbeats 4000000 in
set_option maxRecDepth 100000 in
theorem c_X3_dogsWithRun (l : Launch) (G : gG) (M : Nat → Nat → Int) (hdm : ∀ k, k < 169 → gdm G k) (t : Nat) (hT : isT t) (R : Nat → Int) (hR : q_tr M t R) (hI : q_inv R) : gMi l yX3_dogsWithRun wsX3_dogsWithRun ({ frames := 0, cells := 0, slots := 0, locals := 0 } : Room) G M [.ref (gad G t)] (fun z M1 => z = q_nrun R ∧ M1 = M) := by
  refine gMi_of (cc := cX3_dogsWithRun) (maxL := 3) (ret := some .int) (by decide) rfl (Nat.le_of_ble_eq_true rfl) ?_
  intro p e s m below meth c ls hx hb hr hml hown hts hlocks hl hG
  have hown : s.vm.findClass RX3 = some m.cls := hown
  have hl : lv_has ls 3 [(0, .ref (gad G t))] := hl
  have hd_t : ∀ r, r < 8 → gdm G (t + r) := fun r hr => hdm _ (by have h1 := (hT).1; have h2 := (hT).2; omega)
  have hinX3 : ∀ w ∈ u_ws RX3 TX3 15, w ∈ wsX3_dogsWithRun := by decide +kernel
  have f21 := hts (.fieldLink RX3 21 "DogTrials$Trial" "ran" "[Z") (by decide +kernel)
  have f37 := hts (.fieldLink RX3 37 "DogTrials$Trial" "dogs" "I") (by decide +kernel)
  have hnd := hI.1
  refine lv_iconst (v := iZ 0) hx hb dX3_dogsWithRun_0 rfl ?_
  refine lv_istore_n (lv' := [(1, .int (iZ 0)), (0, .ref (gad G t))]) hx hb dX3_dogsWithRun_1 rfl hl (by decide) rfl (fun ls hl => ?_)
  refine lv_iconst (v := iZ 0) hx hb dX3_dogsWithRun_2 rfl ?_
  refine lv_istore_n (lv' := [(2, .int (iZ 0)), (1, .int (iZ 0)), (0, .ref (gad G t))]) hx hb dX3_dogsWithRun_3 rfl hl (by decide) rfl (fun ls hl => ?_)
  have L_4 : ∀ (n_4 : Nat) (k : Nat) (x_i : Int) (x_c : Int), (x_i = (k : Int)) → (x_c = (q_ct (fun i => decide (q_hs R i = 1)) k)) → ((k : Int) ≤ q_nd R) → 12 - k < n_4 → ∀ (H : Heap) (locs : List Loc) (ls : Array Slot), gH G M s H locs → lv_has ls 3 [(2, .int (iZ x_i)), (1, .int (iZ x_c)), (0, .ref (gad G t))] → W p l e ({ frames := 0, cells := 0, slots := 0, locals := 0 } : Room) s m [.ref (gad G t)].toArray below meth c H locs 0 0 (MQ below (va_Qi (fun r (u : Int × (Nat → Nat → Int)) => r = iZ u.1 ∧ (fun z M1 => z = q_nrun R ∧ M1 = M) u.1 u.2) (fun u U => gB G u.2 U) (gA G)) [.ref (gad G t)].toArray s 0 0 (gA G)) (F0 m 4 ls []) := by
    intro n_4
    induction n_4 with
    | zero => intro k x_i x_c he_x_i he_x_c hk hm_4; exact absurd hm_4 (Nat.not_lt_zero _)
    | succ n_4 ih_4 =>
      intro k x_i x_c he_x_i he_x_c hk hm_4 H locs ls hG hl
      subst he_x_i
      subst he_x_c
      have hck := ct_in (fun i => decide (q_hs R i = 1)) k
      have hdk : (k : Int) < q_nd R → q_dogok R k := hI.2.1 k
      have hdok := dok hI k
      refine lv_iload_n hx hb dX3_dogsWithRun_4 rfl (lv_at hl 0 rfl) ?_
      refine lv_aload_n hx hb dX3_dogsWithRun_5 rfl (lv_at hl 2 rfl) ?_
      refine g_geti (z := (q_nd R)) hx hb hts hinX3 hown hG (o := t) (hd_t 0 (by decide)) (gE_T hT G _) rfl 0 (by decide) f37 (fun _ h => h) rfl (tr_nd hR) dX3_dogsWithRun_6 ?_
      refine z_icmp_ge (tgt := 30) hx hb (by omega) (by omega) dX3_dogsWithRun_9 (by decide) (fun c_9 => ?_) (fun c_9 => ?_)
      · skip
        refine lv_iload_n hx hb dX3_dogsWithRun_30 rfl (lv_at hl 1 rfl) ?_
        exact g_iret (post := fun z M1 => z = q_nrun R ∧ M1 = M) (z := (q_ct (fun i => decide (q_hs R i = 1)) k)) hx hb hr hG hlocks (⟨by unfold q_nrun; congr 1; omega, rfl⟩) dX3_dogsWithRun_31
      · skip
        refine lv_aload_n hx hb dX3_dogsWithRun_12 rfl (lv_at hl 2 rfl) ?_
        have hdo := hdk (by omega)
        unfold q_dogok at hdo
        refine g_get hx hb hts hinX3 hown hG (o := t) (hd_t 0 (by decide)) (gE_T hT G _) rfl 4 (by decide) f21 (fun _ h => h) rfl dX3_dogsWithRun_13 ?_
        refine lv_iload_n hx hb dX3_dogsWithRun_16 rfl (lv_at hl 0 rfl) ?_
        refine g_zald (z := (q_hs R k)) (j := k) hx hb hG (o := (t + 4)) (hd_t 4 (by decide)) (gE_tZ hT G _) (by omega) (by omega) (by omega) (tr_hs hR (i := k) (by omega)) dX3_dogsWithRun_17 ?_
        refine z_if_eq (tgt := 24) hx hb (by omega) dX3_dogsWithRun_18 (by decide) (fun c_18 => ?_) (fun c_18 => ?_)
        · skip
          refine z_iinc (z := ((k : Int) + 1)) (lv' := [(2, .int (iZ ((k : Int) + 1))), (1, .int (iZ (q_ct (fun i => decide (q_hs R i = 1)) k))), (0, .ref (gad G t))]) hx hb dX3_dogsWithRun_24 hl (k := 0) rfl (by omega) (by decide) rfl (fun ls hl => ?_)
          refine lv_goto (tgt := 4) hx hb dX3_dogsWithRun_27 (by decide) ?_
          exact ih_4 (k + 1) ((k : Int) + 1) (q_ct (fun i => decide (q_hs R i = 1)) k)  (by omega) (by rw [q_ct]; first | (rw [if_pos (by first | assumption | exact decide_eq_true (by omega) | (simp_all; done))] <;> omega) | (rw [if_neg (by first | assumption | (intro h9; have h8 := of_decide_eq_true h9; omega) | (simp_all; done))] <;> omega)) (by omega) (by omega) _ _ _ hG (lv_sub hl [0, 1, 2] rfl)
        · skip
          refine z_iinc (z := ((q_ct (fun i => decide (q_hs R i = 1)) k) + 1)) (lv' := [(1, .int (iZ ((q_ct (fun i => decide (q_hs R i = 1)) k) + 1))), (2, .int (iZ (k : Int))), (0, .ref (gad G t))]) hx hb dX3_dogsWithRun_21 hl (k := 1) rfl (by omega) (by decide) rfl (fun ls hl => ?_)
          refine z_iinc (z := ((k : Int) + 1)) (lv' := [(2, .int (iZ ((k : Int) + 1))), (1, .int (iZ ((q_ct (fun i => decide (q_hs R i = 1)) k) + 1))), (0, .ref (gad G t))]) hx hb dX3_dogsWithRun_24 hl (k := 1) rfl (by omega) (by decide) rfl (fun ls hl => ?_)
          refine lv_goto (tgt := 4) hx hb dX3_dogsWithRun_27 (by decide) ?_
          exact ih_4 (k + 1) ((k : Int) + 1) ((q_ct (fun i => decide (q_hs R i = 1)) k) + 1)  (by omega) (by rw [q_ct]; first | (rw [if_pos (by first | assumption | exact decide_eq_true (by omega) | (simp_all; done))] <;> omega) | (rw [if_neg (by first | assumption | (intro h9; have h8 := of_decide_eq_true h9; omega) | (simp_all; done))] <;> omega)) (by omega) (by omega) _ _ _ hG (lv_sub hl [0, 1, 2] rfl)
  exact L_4 _ 0 0 0  rfl rfl (by omega) (Nat.lt_succ_self _) _ _ _ hG (lv_sub hl [0, 1, 2] rfl)
set_option maxHeartbeats 4000000 in
set_option maxRecDepth 100000 in
theorem c_X3_dogsWithdrawn (l : Launch) (G : gG) (M : Nat → Nat → Int) (hdm : ∀ k, k < 169 → gdm G k) (t : Nat) (hT : isT t) (R : Nat → Int) (hR : q_tr M t R) (hI : q_inv R) : gMi l yX3_dogsWithdrawn wsX3_dogsWithdrawn ({ frames := 0, cells := 0, slots := 0, locals := 0 } : Room) G M [.ref (gad G t)] (fun z M1 => z = q_ngone R ∧ M1 = M) := by
  refine gMi_of (cc := cX3_dogsWithdrawn) (maxL := 3) (ret := some .int) (by decide) rfl (Nat.le_of_ble_eq_true rfl) ?_
  intro p e s m below meth c ls hx hb hr hml hown hts hlocks hl hG
  have hown : s.vm.findClass RX3 = some m.cls := hown
  have hl : lv_has ls 3 [(0, .ref (gad G t))] := hl
  have hd_t : ∀ r, r < 8 → gdm G (t + r) := fun r hr => hdm _ (by have h1 := (hT).1; have h2 := (hT).2; omega)
  have hinX3 : ∀ w ∈ u_ws RX3 TX3 15, w ∈ wsX3_dogsWithdrawn := by decide +kernel
  have f18 := hts (.fieldLink RX3 18 "DogTrials$Trial" "states" "[I") (by decide +kernel)
  have f37 := hts (.fieldLink RX3 37 "DogTrials$Trial" "dogs" "I") (by decide +kernel)
  have hnd := hI.1
  refine lv_iconst (v := iZ 0) hx hb dX3_dogsWithdrawn_0 rfl ?_
  refine lv_istore_n (lv' := [(1, .int (iZ 0)), (0, .ref (gad G t))]) hx hb dX3_dogsWithdrawn_1 rfl hl (by decide) rfl (fun ls hl => ?_)
  refine lv_iconst (v := iZ 0) hx hb dX3_dogsWithdrawn_2 rfl ?_
  refine lv_istore_n (lv' := [(2, .int (iZ 0)), (1, .int (iZ 0)), (0, .ref (gad G t))]) hx hb dX3_dogsWithdrawn_3 rfl hl (by decide) rfl (fun ls hl => ?_)
  have L_4 : ∀ (n_4 : Nat) (k : Nat) (x_i : Int) (x_c : Int), (x_i = (k : Int)) → (x_c = (q_ct (fun i => decide (q_sa R i = 3)) k)) → ((k : Int) ≤ q_nd R) → 12 - k < n_4 → ∀ (H : Heap) (locs : List Loc) (ls : Array Slot), gH G M s H locs → lv_has ls 3 [(2, .int (iZ x_i)), (1, .int (iZ x_c)), (0, .ref (gad G t))] → W p l e ({ frames := 0, cells := 0, slots := 0, locals := 0 } : Room) s m [.ref (gad G t)].toArray below meth c H locs 0 0 (MQ below (va_Qi (fun r (u : Int × (Nat → Nat → Int)) => r = iZ u.1 ∧ (fun z M1 => z = q_ngone R ∧ M1 = M) u.1 u.2) (fun u U => gB G u.2 U) (gA G)) [.ref (gad G t)].toArray s 0 0 (gA G)) (F0 m 4 ls []) := by
    intro n_4
    induction n_4 with
    | zero => intro k x_i x_c he_x_i he_x_c hk hm_4; exact absurd hm_4 (Nat.not_lt_zero _)
    | succ n_4 ih_4 =>
      intro k x_i x_c he_x_i he_x_c hk hm_4 H locs ls hG hl
      subst he_x_i
      subst he_x_c
      have hck := ct_in (fun i => decide (q_sa R i = 3)) k
      have hdk : (k : Int) < q_nd R → q_dogok R k := hI.2.1 k
      have hdok := dok hI k
      refine lv_iload_n hx hb dX3_dogsWithdrawn_4 rfl (lv_at hl 0 rfl) ?_
      refine lv_aload_n hx hb dX3_dogsWithdrawn_5 rfl (lv_at hl 2 rfl) ?_
      refine g_geti (z := (q_nd R)) hx hb hts hinX3 hown hG (o := t) (hd_t 0 (by decide)) (gE_T hT G _) rfl 0 (by decide) f37 (fun _ h => h) rfl (tr_nd hR) dX3_dogsWithdrawn_6 ?_
      refine z_icmp_ge (tgt := 31) hx hb (by omega) (by omega) dX3_dogsWithdrawn_9 (by decide) (fun c_9 => ?_) (fun c_9 => ?_)
      · skip
        refine lv_iload_n hx hb dX3_dogsWithdrawn_31 rfl (lv_at hl 1 rfl) ?_
        exact g_iret (post := fun z M1 => z = q_ngone R ∧ M1 = M) (z := (q_ct (fun i => decide (q_sa R i = 3)) k)) hx hb hr hG hlocks (⟨by unfold q_ngone; congr 1; omega, rfl⟩) dX3_dogsWithdrawn_32
      · skip
        refine lv_aload_n hx hb dX3_dogsWithdrawn_12 rfl (lv_at hl 2 rfl) ?_
        refine g_get hx hb hts hinX3 hown hG (o := t) (hd_t 0 (by decide)) (gE_T hT G _) rfl 3 (by decide) f18 (fun _ h => h) rfl dX3_dogsWithdrawn_13 ?_
        refine lv_iload_n hx hb dX3_dogsWithdrawn_16 rfl (lv_at hl 0 rfl) ?_
        refine g_iald (z := (q_sa R k)) (j := k) hx hb hG (o := (t + 3)) (hd_t 3 (by decide)) (gE_tI hT 3 (by decide) G _) (by omega) (by omega) (by omega) (tr_sa hR (i := k) (by omega)) dX3_dogsWithdrawn_17 ?_
        refine lv_iconst (v := iZ 3) hx hb dX3_dogsWithdrawn_18 rfl ?_
        refine z_icmp_ne (tgt := 25) hx hb (by omega) (by decide) dX3_dogsWithdrawn_19 (by decide) (fun c_19 => ?_) (fun c_19 => ?_)
        · skip
          refine z_iinc (z := ((k : Int) + 1)) (lv' := [(2, .int (iZ ((k : Int) + 1))), (1, .int (iZ (q_ct (fun i => decide (q_sa R i = 3)) k))), (0, .ref (gad G t))]) hx hb dX3_dogsWithdrawn_25 hl (k := 0) rfl (by omega) (by decide) rfl (fun ls hl => ?_)
          refine lv_goto (tgt := 4) hx hb dX3_dogsWithdrawn_28 (by decide) ?_
          exact ih_4 (k + 1) ((k : Int) + 1) (q_ct (fun i => decide (q_sa R i = 3)) k)  (by omega) (by rw [q_ct]; first | (rw [if_pos (by first | assumption | exact decide_eq_true (by omega) | (simp_all; done))] <;> omega) | (rw [if_neg (by first | assumption | (intro h9; have h8 := of_decide_eq_true h9; omega) | (simp_all; done))] <;> omega)) (by omega) (by omega) _ _ _ hG (lv_sub hl [0, 1, 2] rfl)
        · skip
          refine z_iinc (z := ((q_ct (fun i => decide (q_sa R i = 3)) k) + 1)) (lv' := [(1, .int (iZ ((q_ct (fun i => decide (q_sa R i = 3)) k) + 1))), (2, .int (iZ (k : Int))), (0, .ref (gad G t))]) hx hb dX3_dogsWithdrawn_22 hl (k := 1) rfl (by omega) (by decide) rfl (fun ls hl => ?_)
          refine z_iinc (z := ((k : Int) + 1)) (lv' := [(2, .int (iZ ((k : Int) + 1))), (1, .int (iZ ((q_ct (fun i => decide (q_sa R i = 3)) k) + 1))), (0, .ref (gad G t))]) hx hb dX3_dogsWithdrawn_25 hl (k := 1) rfl (by omega) (by decide) rfl (fun ls hl => ?_)
          refine lv_goto (tgt := 4) hx hb dX3_dogsWithdrawn_28 (by decide) ?_
          exact ih_4 (k + 1) ((k : Int) + 1) ((q_ct (fun i => decide (q_sa R i = 3)) k) + 1)  (by omega) (by rw [q_ct]; first | (rw [if_pos (by first | assumption | exact decide_eq_true (by omega) | (simp_all; done))] <;> omega) | (rw [if_neg (by first | assumption | (intro h9; have h8 := of_decide_eq_true h9; omega) | (simp_all; done))] <;> omega)) (by omega) (by omega) _ _ _ hG (lv_sub hl [0, 1, 2] rfl)
  exact L_4 _ 0 0 0  rfl rfl (by omega) (Nat.lt_succ_self _) _ _ _ hG (lv_sub hl [0, 1, 2] rfl)
set_option maxHeartbeats 4000000 in
set_option maxRecDepth 100000 in
theorem c_X3_scoreOf (l : Launch) (G : gG) (M : Nat → Nat → Int) (hdm : ∀ k, k < 169 → gdm G k) (t : Nat) (hT : isT t) (R : Nat → Int) (hR : q_tr M t R) (hI : q_inv R) (i : Nat) (hi : (i : Int) < q_nd R) : gMi l yX3_scoreOf wsX3_scoreOf ({ frames := 1, cells := 0, slots := 0, locals := 22 } : Room) G M [.ref (gad G t), .int (iZ (i : Int))] (fun z M1 => z = q_sc R i ∧ M1 = M) := by
  refine gMi_of (cc := cX3_scoreOf) (maxL := 4) (ret := some .int) (by decide) rfl (Nat.le_of_ble_eq_true rfl) ?_
  intro p e s m below meth c ls hx hb hr hml hown hts hlocks hl hG
  have hown : s.vm.findClass RX3 = some m.cls := hown
  have hl : lv_has ls 4 [(0, .ref (gad G t)), (1, .int (iZ (i : Int)))] := hl
  have hd_t : ∀ r, r < 8 → gdm G (t + r) := fun r hr => hdm _ (by have h1 := (hT).1; have h2 := (hT).2; omega)
  have hinX3 : ∀ w ∈ u_ws RX3 TX3 15, w ∈ wsX3_scoreOf := by decide +kernel
  have f21 := hts (.fieldLink RX3 21 "DogTrials$Trial" "ran" "[Z") (by decide +kernel)
  have hnd := hI.1
  have hdo := hI.2.1 i hi
  unfold q_dogok at hdo
  refine lv_aload_n hx hb dX3_scoreOf_0 rfl (lv_at hl 0 rfl) ?_
  refine g_get hx hb hts hinX3 hown hG (o := t) (hd_t 0 (by decide)) (gE_T hT G _) rfl 4 (by decide) f21 (fun _ h => h) rfl dX3_scoreOf_1 ?_
  refine lv_iload_n hx hb dX3_scoreOf_4 rfl (lv_at hl 1 rfl) ?_
  refine g_zald (z := (q_hs R i)) (j := i) hx hb hG (o := (t + 4)) (hd_t 4 (by decide)) (gE_tZ hT G _) (by omega) (by omega) (by omega) (tr_hs hR (i := i) (by omega)) dX3_scoreOf_5 ?_
  refine z_if_ne (tgt := 11) hx hb (by omega) dX3_scoreOf_6 (by decide) (fun c_6 => ?_) (fun c_6 => ?_)
  · skip
    refine lv_bipush (v := iZ (100)) hx hb dX3_scoreOf_11 (by decide) ?_
    refine lv_istore_n (lv' := [(2, .int (iZ 100)), (0, .ref (gad G t)), (1, .int (iZ (i : Int)))]) hx hb dX3_scoreOf_13 rfl hl (by decide) rfl (fun ls hl => ?_)
    refine lv_iconst (v := iZ 0) hx hb dX3_scoreOf_14 rfl ?_
    refine lv_istore_n (lv' := [(3, .int (iZ 0)), (2, .int (iZ 100)), (0, .ref (gad G t)), (1, .int (iZ (i : Int)))]) hx hb dX3_scoreOf_15 rfl hl (by decide) rfl (fun ls hl => ?_)
    have L_16 : ∀ (n_16 : Nat) (k : Nat) (x_i : Int) (x_c : Int), (x_i = (k : Int)) → (x_c = (100 - (q_sm (q_lo R i) k))) → (k ≤ 6) → 6 - k < n_16 → ∀ (H : Heap) (locs : List Loc) (ls : Array Slot), gH G M s H locs → lv_has ls 4 [(3, .int (iZ x_i)), (2, .int (iZ x_c)), (0, .ref (gad G t)), (1, .int (iZ (i : Int)))] → W p l e ({ frames := 1, cells := 0, slots := 0, locals := 22 } : Room) s m [.ref (gad G t), .int (iZ (i : Int))].toArray below meth c H locs 0 0 (MQ below (va_Qi (fun r (u : Int × (Nat → Nat → Int)) => r = iZ u.1 ∧ (fun z M1 => z = q_sc R i ∧ M1 = M) u.1 u.2) (fun u U => gB G u.2 U) (gA G)) [.ref (gad G t), .int (iZ (i : Int))].toArray s 0 0 (gA G)) (F0 m 16 ls []) := by
      intro n_16
      induction n_16 with
      | zero => intro k x_i x_c he_x_i he_x_c hk hm_16; exact absurd hm_16 (Nat.not_lt_zero _)
      | succ n_16 ih_16 =>
        intro k x_i x_c he_x_i he_x_c hk hm_16 H locs ls hG hl
        subst he_x_i
        subst he_x_c
        have hlk : k < 6 → 0 ≤ q_lo R i k ∧ q_lo R i k ≤ 30 := fun h => by have h1 := lo_in (hI.2.1 i hi) h; have h2 := wth_in k; omega
        have hsm := lo6 (hI.2.1 i hi) hk
        have hs6 : q_sm q_wth k ≤ 100 := by have h2 := wth6; by_cases h : k < 6; (have h1 := q_smw k h; omega); (have h3 : k = 6 := (by omega); subst h3; omega)
        refine lv_iload_n hx hb dX3_scoreOf_16 rfl (lv_at hl 0 rfl) ?_
        refine lv_bipush (v := iZ (6)) hx hb dX3_scoreOf_17 (by decide) ?_
        refine z_icmp_ge (tgt := 37) hx hb (by omega) (by decide) dX3_scoreOf_19 (by decide) (fun c_19 => ?_) (fun c_19 => ?_)
        · skip
          refine lv_iload_n hx hb dX3_scoreOf_37 rfl (lv_at hl 1 rfl) ?_
          exact g_iret (post := fun z M1 => z = q_sc R i ∧ M1 = M) (z := (100 - (q_sm (q_lo R i) k))) hx hb hr hG hlocks (⟨by unfold q_sc; rw [if_pos (by omega), show k = 6 by omega], rfl⟩) dX3_scoreOf_38
        · skip
          refine lv_iload_n hx hb dX3_scoreOf_22 rfl (lv_at hl 1 rfl) ?_
          refine lv_aload_n hx hb dX3_scoreOf_23 rfl (lv_at hl 2 rfl) ?_
          refine lv_iload_n hx hb dX3_scoreOf_24 rfl (lv_at hl 3 rfl) ?_
          refine lv_iload_n hx hb dX3_scoreOf_25 rfl (lv_at hl 0 rfl) ?_
          refine g_callV (b := t) (As := [.int (iZ (i : Int)), .int (iZ (k : Int))]) (rest := [.int (iZ (100 - (q_sm (q_lo R i) k)))]) ⟨hx, hb, hml, hown, hts⟩ (c_X3_lossOf l G M hdm t hT R hR hI i (by omega) k (by omega) (by first | assumption | omega)) (cwV 2 hts gX3_scoreOf_X3_lossOf rfl rfl rfl (by decide +kernel) ⟨Nat.le_of_ble_eq_true rfl, Nat.le_of_ble_eq_true rfl⟩) hG (g_recv hG (b := t) (hd_t 0 (by decide)) (gE_T hT G _) rfl) rfl hl.1 rfl (Nat.le_of_ble_eq_true rfl) dX3_scoreOf_26 ⟨Nat.zero_le _, Nat.zero_le _⟩ (fun z1 M2 H locs hp_26 hG => ?_)
          obtain ⟨hz_26, hM_26⟩ := hp_26; replace hz_26 := hz_26.symm; subst hz_26; replace hM_26 := hM_26.symm; subst hM_26
          refine z_isub (z := (100 - (q_sm (q_lo R i) k) - (q_lo R i k))) hx hb (by omega) dX3_scoreOf_29 ?_
          refine lv_istore_n (lv' := [(2, .int (iZ (100 - (q_sm (q_lo R i) k) - (q_lo R i k)))), (3, .int (iZ (k : Int))), (0, .ref (gad G t)), (1, .int (iZ (i : Int)))]) hx hb dX3_scoreOf_30 rfl hl (by decide) rfl (fun ls hl => ?_)
          refine z_iinc (z := ((k : Int) + 1)) (lv' := [(3, .int (iZ ((k : Int) + 1))), (2, .int (iZ (100 - (q_sm (q_lo R i) k) - (q_lo R i k)))), (0, .ref (gad G t)), (1, .int (iZ (i : Int)))]) hx hb dX3_scoreOf_31 hl (k := 1) rfl (by omega) (by decide) rfl (fun ls hl => ?_)
          refine lv_goto (tgt := 16) hx hb dX3_scoreOf_34 (by decide) ?_
          exact ih_16 (k + 1) ((k : Int) + 1) (100 - (q_sm (q_lo R i) k) - (q_lo R i k))  (by omega) (by rw [q_sm]; omega) (by omega) (by omega) _ _ _ hG (lv_sub hl [0, 1, 2, 3] rfl)
    exact L_16 _ 0 0 100  rfl rfl (by omega) (Nat.lt_succ_self _) _ _ _ hG (lv_sub hl [0, 1, 2, 3] rfl)
  · skip
    refine lv_iconst (v := iZ 0) hx hb dX3_scoreOf_9 rfl ?_
    exact g_iret (post := fun z M1 => z = q_sc R i ∧ M1 = M) (z := 0) hx hb hr hG hlocks (⟨by unfold q_sc; rw [if_neg (by omega)], rfl⟩) dX3_scoreOf_10
set_option maxHeartbeats 4000000 in
set_option maxRecDepth 100000 in
theorem c_X3_isBetter (l : Launch) (G : gG) (M : Nat → Nat → Int) (hdm : ∀ k, k < 169 → gdm G k) (t : Nat) (hT : isT t) (R : Nat → Int) (hR : q_tr M t R) (hI : q_inv R) (a b : Nat) (ha : (a : Int) < q_nd R) (hbb : (b : Int) < q_nd R) (h1 : q_hs R a = 1) (h2 : q_hs R b = 1) : gMi l yX3_isBetter wsX3_isBetter ({ frames := 2, cells := 0, slots := 0, locals := 45 } : Room) G M [.ref (gad G t), .int (iZ (a : Int)), .int (iZ (b : Int))] (fun z M1 => z = (if q_bt R a b = true then 1 else 0) ∧ M1 = M) := by
  refine gMi_of (cc := cX3_isBetter) (maxL := 9) (ret := some .boolean) (by decide) rfl (Nat.le_of_ble_eq_true rfl) ?_
  intro p e s m below meth c ls hx hb hr hml hown hts hlocks hl hG
  have hown : s.vm.findClass RX3 = some m.cls := hown
  have hl : lv_has ls 9 [(0, .ref (gad G t)), (1, .int (iZ (a : Int))), (2, .int (iZ (b : Int)))] := hl
  have hd_t : ∀ r, r < 8 → gdm G (t + r) := fun r hr => hdm _ (by have h1 := (hT).1; have h2 := (hT).2; omega)
  have hinX3 : ∀ w ∈ u_ws RX3 TX3 15, w ∈ wsX3_isBetter := by decide +kernel
  have f31 := hts (.fieldLink RX3 31 "DogTrials$Trial" "rank" "[I") (by decide +kernel)
  have hnd := hI.1
  have hsa := sc_in (hI.2.1 a ha)
  have hsb := sc_in (hI.2.1 b hbb)
  refine lv_aload_n hx hb dX3_isBetter_0 rfl (lv_at hl 0 rfl) ?_
  refine lv_iload_n hx hb dX3_isBetter_1 rfl (lv_at hl 1 rfl) ?_
  refine g_callV (b := t) (As := [.int (iZ (a : Int))]) (rest := []) ⟨hx, hb, hml, hown, hts⟩ (c_X3_scoreOf l G M hdm t hT R hR hI a (by omega)) (cwV 1 hts gX3_isBetter_X3_scoreOf rfl rfl rfl (by decide +kernel) ⟨Nat.le_of_ble_eq_true rfl, Nat.le_of_ble_eq_true rfl⟩) hG (g_recv hG (b := t) (hd_t 0 (by decide)) (gE_T hT G _) rfl) rfl hl.1 rfl (Nat.le_of_ble_eq_true rfl) dX3_isBetter_2 ⟨Nat.zero_le _, Nat.zero_le _⟩ (fun z1 M2 H locs hp_2 hG => ?_)
  obtain ⟨hz_2, hM_2⟩ := hp_2; replace hz_2 := hz_2.symm; subst hz_2; replace hM_2 := hM_2.symm; subst hM_2
  refine lv_istore_n (lv' := [(3, .int (iZ (q_sc R a))), (0, .ref (gad G t)), (1, .int (iZ (a : Int))), (2, .int (iZ (b : Int)))]) hx hb dX3_isBetter_5 rfl hl (by decide) rfl (fun ls hl => ?_)
  refine lv_aload_n hx hb dX3_isBetter_6 rfl (lv_at hl 1 rfl) ?_
  refine lv_iload_n hx hb dX3_isBetter_7 rfl (lv_at hl 3 rfl) ?_
  refine g_callV (b := t) (As := [.int (iZ (b : Int))]) (rest := []) ⟨hx, hb, hml, hown, hts⟩ (c_X3_scoreOf l G M hdm t hT R hR hI b (by omega)) (cwV 1 hts gX3_isBetter_X3_scoreOf rfl rfl rfl (by decide +kernel) ⟨Nat.le_of_ble_eq_true rfl, Nat.le_of_ble_eq_true rfl⟩) hG (g_recv hG (b := t) (hd_t 0 (by decide)) (gE_T hT G _) rfl) rfl hl.1 rfl (Nat.le_of_ble_eq_true rfl) dX3_isBetter_8 ⟨Nat.zero_le _, Nat.zero_le _⟩ (fun z3 M4 H locs hp_8 hG => ?_)
  obtain ⟨hz_8, hM_8⟩ := hp_8; replace hz_8 := hz_8.symm; subst hz_8; replace hM_8 := hM_8.symm; subst hM_8
  refine lv_istore (lv' := [(4, .int (iZ (q_sc R b))), (3, .int (iZ (q_sc R a))), (0, .ref (gad G t)), (1, .int (iZ (a : Int))), (2, .int (iZ (b : Int)))]) hx hb dX3_isBetter_11 hl (by decide) rfl (fun ls hl => ?_)
  refine lv_iload_n hx hb dX3_isBetter_13 rfl (lv_at hl 1 rfl) ?_
  refine lv_iload hx hb dX3_isBetter_14 (lv_at hl 0 rfl) ?_
  refine z_icmp_eq (tgt := 31) hx hb (by omega) (by omega) dX3_isBetter_16 (by decide) (fun c_16 => ?_) (fun c_16 => ?_)
  · skip
    refine lv_iconst (v := iZ 0) hx hb dX3_isBetter_31 rfl ?_
    refine lv_istore (lv' := [(5, .int (iZ 0)), (4, .int (iZ (q_sc R b))), (3, .int (iZ (q_sc R a))), (0, .ref (gad G t)), (1, .int (iZ (a : Int))), (2, .int (iZ (b : Int)))]) hx hb dX3_isBetter_32 hl (by decide) rfl (fun ls hl => ?_)
    have L_34 : ∀ (n_34 : Nat) (k : Nat) (x_i : Int), (x_i = (k : Int)) → (k ≤ 6) → (q_ti R a b 6 = q_ti R a b (6 - k)) → 6 - k < n_34 → ∀ (H : Heap) (locs : List Loc) (ls : Array Slot), gH G M s H locs → lv_has ls 9 [(5, .int (iZ x_i)), (4, .int (iZ (q_sc R b))), (3, .int (iZ (q_sc R a))), (0, .ref (gad G t)), (1, .int (iZ (a : Int))), (2, .int (iZ (b : Int)))] → W p l e ({ frames := 2, cells := 0, slots := 0, locals := 45 } : Room) s m [.ref (gad G t), .int (iZ (a : Int)), .int (iZ (b : Int))].toArray below meth c H locs 0 0 (MQ below (va_Qi (fun r (u : Int × (Nat → Nat → Int)) => r = iZ u.1 ∧ (fun z M1 => z = (if q_bt R a b = true then 1 else 0) ∧ M1 = M) u.1 u.2) (fun u U => gB G u.2 U) (gA G)) [.ref (gad G t), .int (iZ (a : Int)), .int (iZ (b : Int))].toArray s 0 0 (gA G)) (F0 m 34 ls []) := by
      intro n_34
      induction n_34 with
      | zero => intro k x_i he_x_i hk hq hm_34; exact absurd hm_34 (Nat.not_lt_zero _)
      | succ n_34 ih_34 =>
        intro k x_i he_x_i hk hq hm_34 H locs ls hG hl
        subst he_x_i
        have hrk := q_rkn_eq hI (k := k)
        have hla : k < 6 → 0 ≤ q_lo R a (q_rkn R k) ∧ q_lo R a (q_rkn R k) ≤ 30 := fun h => by have h1 := lo_in (hI.2.1 a ha) (hrk h).2; have h2 := wth_in (q_rkn R k); omega
        have hlb : k < 6 → 0 ≤ q_lo R b (q_rkn R k) ∧ q_lo R b (q_rkn R k) ≤ 30 := fun h => by have h1 := lo_in (hI.2.1 b hbb) (hrk h).2; have h2 := wth_in (q_rkn R k); omega
        refine lv_iload hx hb dX3_isBetter_34 (lv_at hl 0 rfl) ?_
        refine lv_bipush (v := iZ (6)) hx hb dX3_isBetter_36 (by decide) ?_
        refine z_icmp_ge (tgt := 94) hx hb (by omega) (by decide) dX3_isBetter_38 (by decide) (fun c_38 => ?_) (fun c_38 => ?_)
        · skip
          refine lv_iconst (v := iZ 0) hx hb dX3_isBetter_94 rfl ?_
          exact g_zret (post := fun z M1 => z = (if q_bt R a b = true then 1 else 0) ∧ M1 = M) (z := 0) hx hb hr hG hlocks (Or.inl rfl) (⟨by rw [q_bt_eq (by omega), hq, show 6 - k = 0 by omega]; rfl, rfl⟩) dX3_isBetter_95
        · skip
          have hk6 : k < 6 := by omega
          have hrk6 := hrk hk6
          have hla6 := hla hk6
          have hlb6 := hlb hk6
          refine lv_aload_n hx hb dX3_isBetter_41 rfl (lv_at hl 3 rfl) ?_
          refine g_get hx hb hts hinX3 hown hG (o := t) (hd_t 0 (by decide)) (gE_T hT G _) rfl 7 (by decide) f31 (fun _ h => h) rfl dX3_isBetter_42 ?_
          refine lv_iload hx hb dX3_isBetter_45 (lv_at hl 0 rfl) ?_
          refine g_iald (z := ((q_rkn R k) : Int)) (j := k) hx hb hG (o := (t + 7)) (hd_t 7 (by decide)) (gE_t7 hT G _) (by omega) (by omega) (by omega) ((tr_rk hR (k := k) (by omega)).trans (hrk (by omega)).1) dX3_isBetter_47 ?_
          refine lv_istore (lv' := [(6, .int (iZ ((q_rkn R k) : Int))), (5, .int (iZ (k : Int))), (4, .int (iZ (q_sc R b))), (3, .int (iZ (q_sc R a))), (0, .ref (gad G t)), (1, .int (iZ (a : Int))), (2, .int (iZ (b : Int)))]) hx hb dX3_isBetter_48 hl (by decide) rfl (fun ls hl => ?_)
          refine lv_aload_n hx hb dX3_isBetter_50 rfl (lv_at hl 4 rfl) ?_
          refine lv_iload_n hx hb dX3_isBetter_51 rfl (lv_at hl 5 rfl) ?_
          refine lv_iload hx hb dX3_isBetter_52 (lv_at hl 0 rfl) ?_
          refine g_callV (b := t) (As := [.int (iZ (a : Int)), .int (iZ ((q_rkn R k) : Int))]) (rest := []) ⟨hx, hb, hml, hown, hts⟩ (c_X3_lossOf l G M hdm t hT R hR hI a (by omega) ((q_rkn R k)) (by omega) (by first | assumption | omega)) (cwV 2 hts gX3_isBetter_X3_lossOf rfl rfl rfl (by decide +kernel) ⟨Nat.le_of_ble_eq_true rfl, Nat.le_of_ble_eq_true rfl⟩) hG (g_recv hG (b := t) (hd_t 0 (by decide)) (gE_T hT G _) rfl) rfl hl.1 rfl (Nat.le_of_ble_eq_true rfl) dX3_isBetter_54 ⟨Nat.zero_le _, Nat.zero_le _⟩ (fun z5 M6 H locs hp_54 hG => ?_)
          obtain ⟨hz_54, hM_54⟩ := hp_54; replace hz_54 := hz_54.symm; subst hz_54; replace hM_54 := hM_54.symm; subst hM_54
          refine lv_istore (lv' := [(7, .int (iZ (q_lo R a ((q_rkn R k))))), (6, .int (iZ ((q_rkn R k) : Int))), (5, .int (iZ (k : Int))), (4, .int (iZ (q_sc R b))), (3, .int (iZ (q_sc R a))), (0, .ref (gad G t)), (1, .int (iZ (a : Int))), (2, .int (iZ (b : Int)))]) hx hb dX3_isBetter_57 hl (by decide) rfl (fun ls hl => ?_)
          refine lv_aload_n hx hb dX3_isBetter_59 rfl (lv_at hl 5 rfl) ?_
          refine lv_iload_n hx hb dX3_isBetter_60 rfl (lv_at hl 7 rfl) ?_
          refine lv_iload hx hb dX3_isBetter_61 (lv_at hl 1 rfl) ?_
          refine g_callV (b := t) (As := [.int (iZ (b : Int)), .int (iZ ((q_rkn R k) : Int))]) (rest := []) ⟨hx, hb, hml, hown, hts⟩ (c_X3_lossOf l G M hdm t hT R hR hI b (by omega) ((q_rkn R k)) (by omega) (by first | assumption | omega)) (cwV 2 hts gX3_isBetter_X3_lossOf rfl rfl rfl (by decide +kernel) ⟨Nat.le_of_ble_eq_true rfl, Nat.le_of_ble_eq_true rfl⟩) hG (g_recv hG (b := t) (hd_t 0 (by decide)) (gE_T hT G _) rfl) rfl hl.1 rfl (Nat.le_of_ble_eq_true rfl) dX3_isBetter_63 ⟨Nat.zero_le _, Nat.zero_le _⟩ (fun z7 M8 H locs hp_63 hG => ?_)
          obtain ⟨hz_63, hM_63⟩ := hp_63; replace hz_63 := hz_63.symm; subst hz_63; replace hM_63 := hM_63.symm; subst hM_63
          refine lv_istore (lv' := [(8, .int (iZ (q_lo R b ((q_rkn R k))))), (7, .int (iZ (q_lo R a ((q_rkn R k))))), (6, .int (iZ ((q_rkn R k) : Int))), (5, .int (iZ (k : Int))), (4, .int (iZ (q_sc R b))), (3, .int (iZ (q_sc R a))), (0, .ref (gad G t)), (1, .int (iZ (a : Int))), (2, .int (iZ (b : Int)))]) hx hb dX3_isBetter_66 hl (by decide) rfl (fun ls hl => ?_)
          refine lv_iload hx hb dX3_isBetter_68 (lv_at hl 1 rfl) ?_
          refine lv_iload hx hb dX3_isBetter_70 (lv_at hl 0 rfl) ?_
          refine z_icmp_eq (tgt := 88) hx hb (by omega) (by omega) dX3_isBetter_72 (by decide) (fun c_72 => ?_) (fun c_72 => ?_)
          · skip
            refine z_iinc (z := ((k : Int) + 1)) (lv' := [(5, .int (iZ ((k : Int) + 1))), (8, .int (iZ (q_lo R b ((q_rkn R k))))), (7, .int (iZ (q_lo R a ((q_rkn R k))))), (6, .int (iZ ((q_rkn R k) : Int))), (4, .int (iZ (q_sc R b))), (3, .int (iZ (q_sc R a))), (0, .ref (gad G t)), (1, .int (iZ (a : Int))), (2, .int (iZ (b : Int)))]) hx hb dX3_isBetter_88 hl (k := 3) rfl (by omega) (by decide) rfl (fun ls hl => ?_)
            refine lv_goto (tgt := 34) hx hb dX3_isBetter_91 (by decide) ?_
            exact ih_34 (k + 1) ((k : Int) + 1)  (by omega) (by omega) (by rw [hq, q_ti_step R a b (by omega), if_pos (show q_lo R a (q_rkn R k) = q_lo R b (q_rkn R k) by omega)]) (by omega) _ _ _ hG (lv_sub hl [0, 4, 5, 6, 7, 8] rfl)
          · skip
            refine lv_iload hx hb dX3_isBetter_75 (lv_at hl 1 rfl) ?_
            refine lv_iload hx hb dX3_isBetter_77 (lv_at hl 0 rfl) ?_
            refine z_icmp_ge (tgt := 86) hx hb (by omega) (by omega) dX3_isBetter_79 (by decide) (fun c_79 => ?_) (fun c_79 => ?_)
            · skip
              refine lv_iconst (v := iZ 0) hx hb dX3_isBetter_86 rfl ?_
              exact g_zret (post := fun z M1 => z = (if q_bt R a b = true then 1 else 0) ∧ M1 = M) (z := 0) hx hb hr hG hlocks (Or.inl rfl) (⟨by rw [q_bt_eq (by omega), hq, q_ti_step R a b (by omega), if_neg (show ¬ (q_lo R a (q_rkn R k) = q_lo R b (q_rkn R k)) by omega)]; first | (rw [if_pos (decide_eq_true (by omega))]) | (rw [if_neg (fun h => by have h9 := of_decide_eq_true h; omega)]), rfl⟩) dX3_isBetter_87
            · skip
              refine lv_iconst (v := iZ 1) hx hb dX3_isBetter_82 rfl ?_
              refine lv_goto (tgt := 87) hx hb dX3_isBetter_83 (by decide) ?_
              exact g_zret (post := fun z M1 => z = (if q_bt R a b = true then 1 else 0) ∧ M1 = M) (z := 1) hx hb hr hG hlocks (Or.inr rfl) (⟨by rw [q_bt_eq (by omega), hq, q_ti_step R a b (by omega), if_neg (show ¬ (q_lo R a (q_rkn R k) = q_lo R b (q_rkn R k)) by omega)]; first | (rw [if_pos (decide_eq_true (by omega))]) | (rw [if_neg (fun h => by have h9 := of_decide_eq_true h; omega)]), rfl⟩) dX3_isBetter_87
    exact L_34 _ 0 0  rfl (by omega) rfl (Nat.lt_succ_self _) _ _ _ hG (lv_sub hl [0, 1, 2, 3, 4, 5] rfl)
  · skip
    refine lv_iload_n hx hb dX3_isBetter_19 rfl (lv_at hl 1 rfl) ?_
    refine lv_iload hx hb dX3_isBetter_20 (lv_at hl 0 rfl) ?_
    refine z_icmp_le (tgt := 29) hx hb (by omega) (by omega) dX3_isBetter_22 (by decide) (fun c_22 => ?_) (fun c_22 => ?_)
    · skip
      refine lv_iconst (v := iZ 0) hx hb dX3_isBetter_29 rfl ?_
      exact g_zret (post := fun z M1 => z = (if q_bt R a b = true then 1 else 0) ∧ M1 = M) (z := 0) hx hb hr hG hlocks (Or.inl rfl) (⟨by rw [q_bt_ne (by omega)]; first | (rw [if_pos (decide_eq_true (by omega))]) | (rw [if_neg (fun h => by have h9 := of_decide_eq_true h; omega)]), rfl⟩) dX3_isBetter_30
    · skip
      refine lv_iconst (v := iZ 1) hx hb dX3_isBetter_25 rfl ?_
      refine lv_goto (tgt := 30) hx hb dX3_isBetter_26 (by decide) ?_
      exact g_zret (post := fun z M1 => z = (if q_bt R a b = true then 1 else 0) ∧ M1 = M) (z := 1) hx hb hr hG hlocks (Or.inr rfl) (⟨by rw [q_bt_ne (by omega)]; first | (rw [if_pos (decide_eq_true (by omega))]) | (rw [if_neg (fun h => by have h9 := of_decide_eq_true h; omega)]), rfl⟩) dX3_isBetter_30
set_option maxHeartbeats 4000000 in
set_option maxRecDepth 100000 in
theorem c_X3_placeOf (l : Launch) (G : gG) (M : Nat → Nat → Int) (hdm : ∀ k, k < 169 → gdm G k) (t : Nat) (hT : isT t) (R : Nat → Int) (hR : q_tr M t R) (hI : q_inv R) (i : Nat) (hi : (i : Int) < q_nd R) : gMi l yX3_placeOf wsX3_placeOf ({ frames := 3, cells := 0, slots := 0, locals := 73 } : Room) G M [.ref (gad G t), .int (iZ (i : Int))] (fun z M1 => z = q_pl R i ∧ M1 = M) := by
  refine gMi_of (cc := cX3_placeOf) (maxL := 4) (ret := some .int) (by decide) rfl (Nat.le_of_ble_eq_true rfl) ?_
  intro p e s m below meth c ls hx hb hr hml hown hts hlocks hl hG
  have hown : s.vm.findClass RX3 = some m.cls := hown
  have hl : lv_has ls 4 [(0, .ref (gad G t)), (1, .int (iZ (i : Int)))] := hl
  have hd_t : ∀ r, r < 8 → gdm G (t + r) := fun r hr => hdm _ (by have h1 := (hT).1; have h2 := (hT).2; omega)
  have hinX3 : ∀ w ∈ u_ws RX3 TX3 15, w ∈ wsX3_placeOf := by decide +kernel
  have f21 := hts (.fieldLink RX3 21 "DogTrials$Trial" "ran" "[Z") (by decide +kernel)
  have f37 := hts (.fieldLink RX3 37 "DogTrials$Trial" "dogs" "I") (by decide +kernel)
  have hnd := hI.1
  have hdo := hI.2.1 i hi
  unfold q_dogok at hdo
  refine lv_aload_n hx hb dX3_placeOf_0 rfl (lv_at hl 0 rfl) ?_
  refine g_get hx hb hts hinX3 hown hG (o := t) (hd_t 0 (by decide)) (gE_T hT G _) rfl 4 (by decide) f21 (fun _ h => h) rfl dX3_placeOf_1 ?_
  refine lv_iload_n hx hb dX3_placeOf_4 rfl (lv_at hl 1 rfl) ?_
  refine g_zald (z := (q_hs R i)) (j := i) hx hb hG (o := (t + 4)) (hd_t 4 (by decide)) (gE_tZ hT G _) (by omega) (by omega) (by omega) (tr_hs hR (i := i) (by omega)) dX3_placeOf_5 ?_
  refine z_if_ne (tgt := 12) hx hb (by omega) dX3_placeOf_6 (by decide) (fun c_6 => ?_) (fun c_6 => ?_)
  · skip
    refine lv_iconst (v := iZ 1) hx hb dX3_placeOf_12 rfl ?_
    refine lv_istore_n (lv' := [(2, .int (iZ 1)), (0, .ref (gad G t)), (1, .int (iZ (i : Int)))]) hx hb dX3_placeOf_13 rfl hl (by decide) rfl (fun ls hl => ?_)
    refine lv_iconst (v := iZ 0) hx hb dX3_placeOf_14 rfl ?_
    refine lv_istore_n (lv' := [(3, .int (iZ 0)), (2, .int (iZ 1)), (0, .ref (gad G t)), (1, .int (iZ (i : Int)))]) hx hb dX3_placeOf_15 rfl hl (by decide) rfl (fun ls hl => ?_)
    have L_16 : ∀ (n_16 : Nat) (k : Nat) (x_i : Int) (x_c : Int), (x_i = (k : Int)) → (x_c = ((q_ct (fun j => decide (q_hs R j = 1) && q_bt R j i) k) + 1)) → ((k : Int) ≤ q_nd R) → 12 - k < n_16 → ∀ (H : Heap) (locs : List Loc) (ls : Array Slot), gH G M s H locs → lv_has ls 4 [(3, .int (iZ x_i)), (2, .int (iZ x_c)), (0, .ref (gad G t)), (1, .int (iZ (i : Int)))] → W p l e ({ frames := 3, cells := 0, slots := 0, locals := 73 } : Room) s m [.ref (gad G t), .int (iZ (i : Int))].toArray below meth c H locs 0 0 (MQ below (va_Qi (fun r (u : Int × (Nat → Nat → Int)) => r = iZ u.1 ∧ (fun z M1 => z = q_pl R i ∧ M1 = M) u.1 u.2) (fun u U => gB G u.2 U) (gA G)) [.ref (gad G t), .int (iZ (i : Int))].toArray s 0 0 (gA G)) (F0 m 16 ls []) := by
      intro n_16
      induction n_16 with
      | zero => intro k x_i x_c he_x_i he_x_c hk hm_16; exact absurd hm_16 (Nat.not_lt_zero _)
      | succ n_16 ih_16 =>
        intro k x_i x_c he_x_i he_x_c hk hm_16 H locs ls hG hl
        subst he_x_i
        subst he_x_c
        have hck := ct_in (fun j => decide (q_hs R j = 1) && q_bt R j i) k
        have hdk : (k : Int) < q_nd R → q_dogok R k := hI.2.1 k
        have hdok := dok hI k
        refine lv_iload_n hx hb dX3_placeOf_16 rfl (lv_at hl 0 rfl) ?_
        refine lv_aload_n hx hb dX3_placeOf_17 rfl (lv_at hl 2 rfl) ?_
        refine g_geti (z := (q_nd R)) hx hb hts hinX3 hown hG (o := t) (hd_t 0 (by decide)) (gE_T hT G _) rfl 0 (by decide) f37 (fun _ h => h) rfl (tr_nd hR) dX3_placeOf_18 ?_
        refine z_icmp_ge (tgt := 51) hx hb (by omega) (by omega) dX3_placeOf_21 (by decide) (fun c_21 => ?_) (fun c_21 => ?_)
        · skip
          refine lv_iload_n hx hb dX3_placeOf_51 rfl (lv_at hl 1 rfl) ?_
          exact g_iret (post := fun z M1 => z = q_pl R i ∧ M1 = M) (z := ((q_ct (fun j => decide (q_hs R j = 1) && q_bt R j i) k) + 1)) hx hb hr hG hlocks (⟨by unfold q_pl; rw [if_pos (by omega), show (q_nd R).toNat = k by omega] <;> omega, rfl⟩) dX3_placeOf_52
        · skip
          have hdo2 := hdk (by omega)
          unfold q_dogok at hdo2
          refine lv_aload_n hx hb dX3_placeOf_24 rfl (lv_at hl 2 rfl) ?_
          refine g_get hx hb hts hinX3 hown hG (o := t) (hd_t 0 (by decide)) (gE_T hT G _) rfl 4 (by decide) f21 (fun _ h => h) rfl dX3_placeOf_25 ?_
          refine lv_iload_n hx hb dX3_placeOf_28 rfl (lv_at hl 0 rfl) ?_
          refine g_zald (z := (q_hs R k)) (j := k) hx hb hG (o := (t + 4)) (hd_t 4 (by decide)) (gE_tZ hT G _) (by omega) (by omega) (by omega) (tr_hs hR (i := k) (by omega)) dX3_placeOf_29 ?_
          refine z_if_eq (tgt := 45) hx hb (by omega) dX3_placeOf_30 (by decide) (fun c_30 => ?_) (fun c_30 => ?_)
          · skip
            refine z_iinc (z := ((k : Int) + 1)) (lv' := [(3, .int (iZ ((k : Int) + 1))), (2, .int (iZ ((q_ct (fun j => decide (q_hs R j = 1) && q_bt R j i) k) + 1))), (0, .ref (gad G t)), (1, .int (iZ (i : Int)))]) hx hb dX3_placeOf_45 hl (k := 0) rfl (by omega) (by decide) rfl (fun ls hl => ?_)
            refine lv_goto (tgt := 16) hx hb dX3_placeOf_48 (by decide) ?_
            exact ih_16 (k + 1) ((k : Int) + 1) ((q_ct (fun j => decide (q_hs R j = 1) && q_bt R j i) k) + 1)  (by omega) (by rw [q_ct]; first | (rw [if_pos (by first | assumption | exact decide_eq_true (by omega) | (simp_all; done))] <;> omega) | (rw [if_neg (by first | assumption | (intro h9; have h8 := of_decide_eq_true h9; omega) | (simp_all; done))] <;> omega)) (by omega) (by omega) _ _ _ hG (lv_sub hl [0, 1, 2, 3] rfl)
          · skip
            have hk1 : q_hs R k = 1 := by omega
            have hi1 : q_hs R i = 1 := by omega
            refine lv_aload_n hx hb dX3_placeOf_33 rfl (lv_at hl 2 rfl) ?_
            refine lv_iload_n hx hb dX3_placeOf_34 rfl (lv_at hl 0 rfl) ?_
            refine lv_iload_n hx hb dX3_placeOf_35 rfl (lv_at hl 3 rfl) ?_
            refine g_callV (b := t) (As := [.int (iZ (k : Int)), .int (iZ (i : Int))]) (rest := []) ⟨hx, hb, hml, hown, hts⟩ (c_X3_isBetter l G M hdm t hT R hR hI k i (by omega) (by omega) (by first | assumption | omega) (by first | assumption | omega)) (cwV 2 hts gX3_placeOf_X3_isBetter rfl rfl rfl (by decide +kernel) ⟨Nat.le_of_ble_eq_true rfl, Nat.le_of_ble_eq_true rfl⟩) hG (g_recv hG (b := t) (hd_t 0 (by decide)) (gE_T hT G _) rfl) rfl hl.1 rfl (Nat.le_of_ble_eq_true rfl) dX3_placeOf_36 ⟨Nat.zero_le _, Nat.zero_le _⟩ (fun z1 M2 H locs hp_36 hG => ?_)
            obtain ⟨hz_36, hM_36⟩ := hp_36; replace hz_36 := hz_36.symm; subst hz_36; replace hM_36 := hM_36.symm; subst hM_36
            refine z_ifP_eq (tgt := 45) hx hb dX3_placeOf_39 (by decide) (fun c_39 => ?_) (fun c_39 => ?_)
            · skip
              refine z_iinc (z := ((k : Int) + 1)) (lv' := [(3, .int (iZ ((k : Int) + 1))), (2, .int (iZ ((q_ct (fun j => decide (q_hs R j = 1) && q_bt R j i) k) + 1))), (0, .ref (gad G t)), (1, .int (iZ (i : Int)))]) hx hb dX3_placeOf_45 hl (k := 0) rfl (by omega) (by decide) rfl (fun ls hl => ?_)
              refine lv_goto (tgt := 16) hx hb dX3_placeOf_48 (by decide) ?_
              exact ih_16 (k + 1) ((k : Int) + 1) ((q_ct (fun j => decide (q_hs R j = 1) && q_bt R j i) k) + 1)  (by omega) (by rw [q_ct]; first | (rw [if_pos (by first | assumption | exact decide_eq_true (by omega) | (simp_all; done))] <;> omega) | (rw [if_neg (by first | assumption | (intro h9; have h8 := of_decide_eq_true h9; omega) | (simp_all; done))] <;> omega)) (by omega) (by omega) _ _ _ hG (lv_sub hl [0, 1, 2, 3] rfl)
            · skip
              refine z_iinc (z := ((q_ct (fun j => decide (q_hs R j = 1) && q_bt R j i) k) + 2)) (lv' := [(2, .int (iZ ((q_ct (fun j => decide (q_hs R j = 1) && q_bt R j i) k) + 2))), (3, .int (iZ (k : Int))), (0, .ref (gad G t)), (1, .int (iZ (i : Int)))]) hx hb dX3_placeOf_42 hl (k := 1) rfl (by omega) (by decide) rfl (fun ls hl => ?_)
              refine z_iinc (z := ((k : Int) + 1)) (lv' := [(3, .int (iZ ((k : Int) + 1))), (2, .int (iZ ((q_ct (fun j => decide (q_hs R j = 1) && q_bt R j i) k) + 2))), (0, .ref (gad G t)), (1, .int (iZ (i : Int)))]) hx hb dX3_placeOf_45 hl (k := 1) rfl (by omega) (by decide) rfl (fun ls hl => ?_)
              refine lv_goto (tgt := 16) hx hb dX3_placeOf_48 (by decide) ?_
              exact ih_16 (k + 1) ((k : Int) + 1) ((q_ct (fun j => decide (q_hs R j = 1) && q_bt R j i) k) + 2)  (by omega) (by rw [q_ct]; first | (rw [if_pos (by first | assumption | exact decide_eq_true (by omega) | (simp_all; done))] <;> omega) | (rw [if_neg (by first | assumption | (intro h9; have h8 := of_decide_eq_true h9; omega) | (simp_all; done))] <;> omega)) (by omega) (by omega) _ _ _ hG (lv_sub hl [0, 1, 2, 3] rfl)
    exact L_16 _ 0 0 1  rfl rfl (by omega) (Nat.lt_succ_self _) _ _ _ hG (lv_sub hl [0, 1, 2, 3] rfl)
  · skip
    refine lv_bipush (v := iZ (-9)) hx hb dX3_placeOf_9 (by decide) ?_
    exact g_iret (post := fun z M1 => z = q_pl R i ∧ M1 = M) (z := (-9)) hx hb hr hG hlocks (⟨by unfold q_pl; rw [if_neg (by omega)], rfl⟩) dX3_placeOf_11
set_option maxHeartbeats 4000000 in
set_option maxRecDepth 100000 in
theorem c_X3_obstacle (l : Launch) (G : gG) (M : Nat → Nat → Int) (hdm : ∀ k, k < 169 → gdm G k) (t : Nat) (hT : isT t) (R : Nat → Int) (hR : q_tr M t R) (hI : q_inv R) : gMi l yX3_obstacle wsX3_obstacle ({ frames := 2, cells := 0, slots := 0, locals := 43 } : Room) G M [.ref (gad G t)] (fun z M1 => z = q_ob R ∧ M1 = M) := by
  refine gMi_of (cc := cX3_obstacle) (maxL := 1) (ret := some .int) (by decide) rfl (Nat.le_of_ble_eq_true rfl) ?_
  intro p e s m below meth c ls hx hb hr hml hown hts hlocks hl hG
  have hown : s.vm.findClass RX3 = some m.cls := hown
  have hl : lv_has ls 1 [(0, .ref (gad G t))] := hl
  have hd_t : ∀ r, r < 8 → gdm G (t + r) := fun r hr => hdm _ (by have h1 := (hT).1; have h2 := (hT).2; omega)
  have hinX3 : ∀ w ∈ u_ws RX3 TX3 15, w ∈ wsX3_obstacle := by decide +kernel
  have f44 := hts (.fieldLink RX3 44 "DogTrials$Trial" "minute" "I") (by decide +kernel)
  have f47 := hts (.fieldLink RX3 47 "DogTrials$Trial" "sunset" "I") (by decide +kernel)
  have hnd := hI.1
  have hms := hI.2.2.2.1
  have hs6 := hI.2.2.2.2.1
  have hwt : 0 ≤ q_nwait R ∧ q_nwait R ≤ (q_nd R).toNat := ct_in _ _
  refine lv_aload_n hx hb dX3_obstacle_0 rfl (lv_at hl 0 rfl) ?_
  refine g_callV (b := t) (As := []) (rest := []) ⟨hx, hb, hml, hown, hts⟩ (c_X3_dogsToRun l G M hdm t hT R hR hI) (cwV 0 hts gX3_obstacle_X3_dogsToRun rfl rfl rfl (by decide +kernel) ⟨Nat.le_of_ble_eq_true rfl, Nat.le_of_ble_eq_true rfl⟩) hG (g_recv hG (b := t) (hd_t 0 (by decide)) (gE_T hT G _) rfl) rfl hl.1 rfl (Nat.le_of_ble_eq_true rfl) dX3_obstacle_1 ⟨Nat.zero_le _, Nat.zero_le _⟩ (fun z1 M2 H locs hp_1 hG => ?_)
  obtain ⟨hz_1, hM_1⟩ := hp_1; replace hz_1 := hz_1.symm; subst hz_1; replace hM_1 := hM_1.symm; subst hM_1
  refine z_if_ne (tgt := 9) hx hb (by omega) dX3_obstacle_4 (by decide) (fun c_4 => ?_) (fun c_4 => ?_)
  · skip
    refine lv_aload_n hx hb dX3_obstacle_9 rfl (lv_at hl 0 rfl) ?_
    refine g_geti (z := (R 1)) hx hb hts hinX3 hown hG (o := t) (hd_t 0 (by decide)) (gE_T hT G _) rfl 9 (by decide) f44 (fun _ h => h) rfl (tr_s9 hR) dX3_obstacle_10 ?_
    refine lv_aload_n hx hb dX3_obstacle_13 rfl (lv_at hl 0 rfl) ?_
    refine g_geti (z := (R 2)) hx hb hts hinX3 hown hG (o := t) (hd_t 0 (by decide)) (gE_T hT G _) rfl 10 (by decide) f47 (fun _ h => h) rfl (tr_s10 hR) dX3_obstacle_14 ?_
    refine z_icmp_lt (tgt := 24) hx hb (by omega) (by omega) dX3_obstacle_17 (by decide) (fun c_17 => ?_) (fun c_17 => ?_)
    · skip
      refine lv_iconst (v := iZ 0) hx hb dX3_obstacle_24 rfl ?_
      exact g_iret (post := fun z M1 => z = q_ob R ∧ M1 = M) (z := 0) hx hb hr hG hlocks (⟨by unfold q_ob; first | (rw [if_pos (by omega)]) | (rw [if_neg (by omega), if_pos (by omega)]) | (rw [if_neg (by omega), if_neg (by omega)]), rfl⟩) dX3_obstacle_25
    · skip
      refine lv_iconst (v := iZ 2) hx hb dX3_obstacle_20 rfl ?_
      refine lv_goto (tgt := 25) hx hb dX3_obstacle_21 (by decide) ?_
      exact g_iret (post := fun z M1 => z = q_ob R ∧ M1 = M) (z := 2) hx hb hr hG hlocks (⟨by unfold q_ob; first | (rw [if_pos (by omega)]) | (rw [if_neg (by omega), if_pos (by omega)]) | (rw [if_neg (by omega), if_neg (by omega)]), rfl⟩) dX3_obstacle_25
  · skip
    refine lv_iconst (v := iZ 1) hx hb dX3_obstacle_7 rfl ?_
    exact g_iret (post := fun z M1 => z = q_ob R ∧ M1 = M) (z := 1) hx hb hr hG hlocks (⟨by unfold q_ob; first | (rw [if_pos (by omega)]) | (rw [if_neg (by omega), if_pos (by omega)]) | (rw [if_neg (by omega), if_neg (by omega)]), rfl⟩) dX3_obstacle_8
set_option maxHeartbeats 4000000 in
set_option maxRecDepth 100000 in
theorem c_X3_ownerThatRanLast (l : Launch) (G : gG) (M : Nat → Nat → Int) (hdm : ∀ k, k < 169 → gdm G k) (t : Nat) (hT : isT t) (R : Nat → Int) (hR : q_tr M t R) (hI : q_inv R) : gMi l yX3_ownerThatRanLast wsX3_ownerThatRanLast ({ frames := 0, cells := 0, slots := 0, locals := 0 } : Room) G M [.ref (gad G t)] (fun z M1 => z = q_lw R ∧ M1 = M) := by
  refine gMi_of (cc := cX3_ownerThatRanLast) (maxL := 1) (ret := some .int) (by decide) rfl (Nat.le_of_ble_eq_true rfl) ?_
  intro p e s m below meth c ls hx hb hr hml hown hts hlocks hl hG
  have hown : s.vm.findClass RX3 = some m.cls := hown
  have hl : lv_has ls 1 [(0, .ref (gad G t))] := hl
  have hd_t : ∀ r, r < 8 → gdm G (t + r) := fun r hr => hdm _ (by have h1 := (hT).1; have h2 := (hT).2; omega)
  have hinX3 : ∀ w ∈ u_ws RX3 TX3 15, w ∈ wsX3_ownerThatRanLast := by decide +kernel
  have f9 := hts (.fieldLink RX3 9 "DogTrials$Trial" "owners" "[I") (by decide +kernel)
  have f37 := hts (.fieldLink RX3 37 "DogTrials$Trial" "dogs" "I") (by decide +kernel)
  have f50 := hts (.fieldLink RX3 50 "DogTrials$Trial" "last" "I") (by decide +kernel)
  have hnd := hI.1
  have h3 := hI.2.2.2.2.2.1
  refine lv_aload_n hx hb dX3_ownerThatRanLast_0 rfl (lv_at hl 0 rfl) ?_
  refine g_geti (z := (R 3)) hx hb hts hinX3 hown hG (o := t) (hd_t 0 (by decide)) (gE_T hT G _) rfl 11 (by decide) f50 (fun _ h => h) rfl (tr_s11 hR) dX3_ownerThatRanLast_1 ?_
  refine z_if_lt (tgt := 30) hx hb (by omega) dX3_ownerThatRanLast_4 (by decide) (fun c_4 => ?_) (fun c_4 => ?_)
  · skip
    refine lv_bipush (v := iZ (-9)) hx hb dX3_ownerThatRanLast_30 (by decide) ?_
    exact g_iret (post := fun z M1 => z = q_lw R ∧ M1 = M) (z := (-9)) hx hb hr hG hlocks (⟨by first | (exfalso; omega) | (unfold q_lw; first | (rw [if_pos (by omega)]) | (rw [if_neg (by omega)])), rfl⟩) dX3_ownerThatRanLast_32
  · skip
    refine lv_aload_n hx hb dX3_ownerThatRanLast_7 rfl (lv_at hl 0 rfl) ?_
    refine g_geti (z := (R 3)) hx hb hts hinX3 hown hG (o := t) (hd_t 0 (by decide)) (gE_T hT G _) rfl 11 (by decide) f50 (fun _ h => h) rfl (tr_s11 hR) dX3_ownerThatRanLast_8 ?_
    refine lv_aload_n hx hb dX3_ownerThatRanLast_11 rfl (lv_at hl 0 rfl) ?_
    refine g_geti (z := (q_nd R)) hx hb hts hinX3 hown hG (o := t) (hd_t 0 (by decide)) (gE_T hT G _) rfl 0 (by decide) f37 (fun _ h => h) rfl (tr_nd hR) dX3_ownerThatRanLast_12 ?_
    refine z_icmp_ge (tgt := 30) hx hb (by omega) (by omega) dX3_ownerThatRanLast_15 (by decide) (fun c_15 => ?_) (fun c_15 => ?_)
    · skip
      refine lv_bipush (v := iZ (-9)) hx hb dX3_ownerThatRanLast_30 (by decide) ?_
      exact g_iret (post := fun z M1 => z = q_lw R ∧ M1 = M) (z := (-9)) hx hb hr hG hlocks (⟨by first | (exfalso; omega) | (unfold q_lw; first | (rw [if_pos (by omega)]) | (rw [if_neg (by omega)])), rfl⟩) dX3_ownerThatRanLast_32
    · skip
      refine lv_aload_n hx hb dX3_ownerThatRanLast_18 rfl (lv_at hl 0 rfl) ?_
      refine g_get hx hb hts hinX3 hown hG (o := t) (hd_t 0 (by decide)) (gE_T hT G _) rfl 1 (by decide) f9 (fun _ h => h) rfl dX3_ownerThatRanLast_19 ?_
      refine lv_aload_n hx hb dX3_ownerThatRanLast_22 rfl (lv_at hl 0 rfl) ?_
      refine g_geti (z := (R 3)) hx hb hts hinX3 hown hG (o := t) (hd_t 0 (by decide)) (gE_T hT G _) rfl 11 (by decide) f50 (fun _ h => h) rfl (tr_s11 hR) dX3_ownerThatRanLast_23 ?_
      refine g_iald (z := (q_ow R (((R 3).toNat)))) (j := (((R 3).toNat))) hx hb hG (o := (t + 1)) (hd_t 1 (by decide)) (gE_tI hT 1 (by decide) G _) (by omega) (by omega) (by omega) (tr_ow hR (i := (((R 3).toNat))) (by omega)) dX3_ownerThatRanLast_26 ?_
      refine lv_goto (tgt := 32) hx hb dX3_ownerThatRanLast_27 (by decide) ?_
      exact g_iret (post := fun z M1 => z = q_lw R ∧ M1 = M) (z := (q_ow R (((R 3).toNat)))) hx hb hr hG hlocks (⟨by first | (exfalso; omega) | (unfold q_lw; first | (rw [if_pos (by omega)]) | (rw [if_neg (by omega)])), rfl⟩) dX3_ownerThatRanLast_32
set_option maxHeartbeats 4000000 in
set_option maxRecDepth 100000 in
theorem c_X3_sumOfScores (l : Launch) (G : gG) (M : Nat → Nat → Int) (hdm : ∀ k, k < 169 → gdm G k) (t : Nat) (hT : isT t) (R : Nat → Int) (hR : q_tr M t R) (hI : q_inv R) : gMi l yX3_sumOfScores wsX3_sumOfScores ({ frames := 2, cells := 0, slots := 0, locals := 45 } : Room) G M [.ref (gad G t)] (fun z M1 => z = q_sum R ∧ M1 = M) := by
  refine gMi_of (cc := cX3_sumOfScores) (maxL := 3) (ret := some .int) (by decide) rfl (Nat.le_of_ble_eq_true rfl) ?_
  intro p e s m below meth c ls hx hb hr hml hown hts hlocks hl hG
  have hown : s.vm.findClass RX3 = some m.cls := hown
  have hl : lv_has ls 3 [(0, .ref (gad G t))] := hl
  have hd_t : ∀ r, r < 8 → gdm G (t + r) := fun r hr => hdm _ (by have h1 := (hT).1; have h2 := (hT).2; omega)
  have hinX3 : ∀ w ∈ u_ws RX3 TX3 15, w ∈ wsX3_sumOfScores := by decide +kernel
  have f37 := hts (.fieldLink RX3 37 "DogTrials$Trial" "dogs" "I") (by decide +kernel)
  have hnd := hI.1
  refine lv_iconst (v := iZ 0) hx hb dX3_sumOfScores_0 rfl ?_
  refine lv_istore_n (lv' := [(1, .int (iZ 0)), (0, .ref (gad G t))]) hx hb dX3_sumOfScores_1 rfl hl (by decide) rfl (fun ls hl => ?_)
  refine lv_iconst (v := iZ 0) hx hb dX3_sumOfScores_2 rfl ?_
  refine lv_istore_n (lv' := [(2, .int (iZ 0)), (1, .int (iZ 0)), (0, .ref (gad G t))]) hx hb dX3_sumOfScores_3 rfl hl (by decide) rfl (fun ls hl => ?_)
  have L_4 : ∀ (n_4 : Nat) (k : Nat) (x_i : Int) (x_c : Int), (x_i = (k : Int)) → (x_c = (q_sm (q_sc R) k)) → ((k : Int) ≤ q_nd R) → 12 - k < n_4 → ∀ (H : Heap) (locs : List Loc) (ls : Array Slot), gH G M s H locs → lv_has ls 3 [(2, .int (iZ x_i)), (1, .int (iZ x_c)), (0, .ref (gad G t))] → W p l e ({ frames := 2, cells := 0, slots := 0, locals := 45 } : Room) s m [.ref (gad G t)].toArray below meth c H locs 0 0 (MQ below (va_Qi (fun r (u : Int × (Nat → Nat → Int)) => r = iZ u.1 ∧ (fun z M1 => z = q_sum R ∧ M1 = M) u.1 u.2) (fun u U => gB G u.2 U) (gA G)) [.ref (gad G t)].toArray s 0 0 (gA G)) (F0 m 4 ls []) := by
    intro n_4
    induction n_4 with
    | zero => intro k x_i x_c he_x_i he_x_c hk hm_4; exact absurd hm_4 (Nat.not_lt_zero _)
    | succ n_4 ih_4 =>
      intro k x_i x_c he_x_i he_x_c hk hm_4 H locs ls hG hl
      subst he_x_i
      subst he_x_c
      have hdk : (k : Int) < q_nd R → q_dogok R k := hI.2.1 k
      have hdok := dok hI k
      refine lv_iload_n hx hb dX3_sumOfScores_4 rfl (lv_at hl 0 rfl) ?_
      refine lv_aload_n hx hb dX3_sumOfScores_5 rfl (lv_at hl 2 rfl) ?_
      refine g_geti (z := (q_nd R)) hx hb hts hinX3 hown hG (o := t) (hd_t 0 (by decide)) (gE_T hT G _) rfl 0 (by decide) f37 (fun _ h => h) rfl (tr_nd hR) dX3_sumOfScores_6 ?_
      refine z_icmp_ge (tgt := 26) hx hb (by omega) (by omega) dX3_sumOfScores_9 (by decide) (fun c_9 => ?_) (fun c_9 => ?_)
      · skip
        refine lv_iload_n hx hb dX3_sumOfScores_26 rfl (lv_at hl 1 rfl) ?_
        exact g_iret (post := fun z M1 => z = q_sum R ∧ M1 = M) (z := (q_sm (q_sc R) k)) hx hb hr hG hlocks (⟨by unfold q_sum; congr 1; omega, rfl⟩) dX3_sumOfScores_27
      · skip
        refine lv_iload_n hx hb dX3_sumOfScores_12 rfl (lv_at hl 1 rfl) ?_
        refine lv_aload_n hx hb dX3_sumOfScores_13 rfl (lv_at hl 2 rfl) ?_
        refine lv_iload_n hx hb dX3_sumOfScores_14 rfl (lv_at hl 0 rfl) ?_
        refine g_callV (b := t) (As := [.int (iZ (k : Int))]) (rest := [.int (iZ (q_sm (q_sc R) k))]) ⟨hx, hb, hml, hown, hts⟩ (c_X3_scoreOf l G M hdm t hT R hR hI k (by omega)) (cwV 1 hts gX3_sumOfScores_X3_scoreOf rfl rfl rfl (by decide +kernel) ⟨Nat.le_of_ble_eq_true rfl, Nat.le_of_ble_eq_true rfl⟩) hG (g_recv hG (b := t) (hd_t 0 (by decide)) (gE_T hT G _) rfl) rfl hl.1 rfl (Nat.le_of_ble_eq_true rfl) dX3_sumOfScores_15 ⟨Nat.zero_le _, Nat.zero_le _⟩ (fun z1 M2 H locs hp_15 hG => ?_)
        obtain ⟨hz_15, hM_15⟩ := hp_15; replace hz_15 := hz_15.symm; subst hz_15; replace hM_15 := hM_15.symm; subst hM_15
        refine z_iadd (z := ((q_sm (q_sc R) k) + (q_sc R k))) hx hb (by omega) dX3_sumOfScores_18 ?_
        refine lv_istore_n (lv' := [(1, .int (iZ ((q_sm (q_sc R) k) + (q_sc R k)))), (2, .int (iZ (k : Int))), (0, .ref (gad G t))]) hx hb dX3_sumOfScores_19 rfl hl (by decide) rfl (fun ls hl => ?_)
        refine z_iinc (z := ((k : Int) + 1)) (lv' := [(2, .int (iZ ((k : Int) + 1))), (1, .int (iZ ((q_sm (q_sc R) k) + (q_sc R k)))), (0, .ref (gad G t))]) hx hb dX3_sumOfScores_20 hl (k := 1) rfl (by omega) (by decide) rfl (fun ls hl => ?_)
        refine lv_goto (tgt := 4) hx hb dX3_sumOfScores_23 (by decide) ?_
        exact ih_4 (k + 1) ((k : Int) + 1) ((q_sm (q_sc R) k) + (q_sc R k))  (by omega) (by rw [q_sm]) (by omega) (by omega) _ _ _ hG (lv_sub hl [0, 1, 2] rfl)
  exact L_4 _ 0 0 0  rfl rfl (by omega) (Nat.lt_succ_self _) _ _ _ hG (lv_sub hl [0, 1, 2] rfl)
set_option maxHeartbeats 4000000 in
set_option maxRecDepth 100000 in
theorem c_X3_scoreOfOwner (l : Launch) (G : gG) (M : Nat → Nat → Int) (hdm : ∀ k, k < 169 → gdm G k) (t : Nat) (hT : isT t) (R : Nat → Int) (hR : q_tr M t R) (hI : q_inv R) (o : Int) (ho : 0 ≤ o ∧ o ≤ 5) : gMi l yX3_scoreOfOwner wsX3_scoreOfOwner ({ frames := 2, cells := 0, slots := 0, locals := 45 } : Room) G M [.ref (gad G t), .int (iZ o)] (fun z M1 => z = q_os R o ∧ M1 = M) := by
  refine gMi_of (cc := cX3_scoreOfOwner) (maxL := 6) (ret := some .int) (by decide) rfl (Nat.le_of_ble_eq_true rfl) ?_
  intro p e s m below meth c ls hx hb hr hml hown hts hlocks hl hG
  have hown : s.vm.findClass RX3 = some m.cls := hown
  have hl : lv_has ls 6 [(0, .ref (gad G t)), (1, .int (iZ o))] := hl
  have hd_t : ∀ r, r < 8 → gdm G (t + r) := fun r hr => hdm _ (by have h1 := (hT).1; have h2 := (hT).2; omega)
  have hinX3 : ∀ w ∈ u_ws RX3 TX3 15, w ∈ wsX3_scoreOfOwner := by decide +kernel
  have f9 := hts (.fieldLink RX3 9 "DogTrials$Trial" "owners" "[I") (by decide +kernel)
  have f37 := hts (.fieldLink RX3 37 "DogTrials$Trial" "dogs" "I") (by decide +kernel)
  have hnd := hI.1
  refine lv_iconst (v := iZ 0) hx hb dX3_scoreOfOwner_0 rfl ?_
  refine lv_istore_n (lv' := [(2, .int (iZ 0)), (0, .ref (gad G t)), (1, .int (iZ o))]) hx hb dX3_scoreOfOwner_1 rfl hl (by decide) rfl (fun ls hl => ?_)
  refine lv_iconst (v := iZ 0) hx hb dX3_scoreOfOwner_2 rfl ?_
  refine lv_istore_n (lv' := [(3, .int (iZ 0)), (2, .int (iZ 0)), (0, .ref (gad G t)), (1, .int (iZ o))]) hx hb dX3_scoreOfOwner_3 rfl hl (by decide) rfl (fun ls hl => ?_)
  refine lv_iconst (v := iZ 0) hx hb dX3_scoreOfOwner_4 rfl ?_
  refine lv_istore (lv' := [(4, .int (iZ 0)), (3, .int (iZ 0)), (2, .int (iZ 0)), (0, .ref (gad G t)), (1, .int (iZ o))]) hx hb dX3_scoreOfOwner_5 hl (by decide) rfl (fun ls hl => ?_)
  have L_7 : ∀ (n_7 : Nat) (k : Nat) (x_i : Int) (x_s : Int) (x_b : Int), (x_i = (k : Int)) → (x_s = (q_b2 R o k).2) → (x_b = (q_b2 R o k).1) → ((k : Int) ≤ q_nd R) → 12 - k < n_7 → ∀ (H : Heap) (locs : List Loc) (ls : Array Slot), gH G M s H locs → lv_has ls 6 [(4, .int (iZ x_i)), (3, .int (iZ x_s)), (2, .int (iZ x_b)), (0, .ref (gad G t)), (1, .int (iZ o))] → W p l e ({ frames := 2, cells := 0, slots := 0, locals := 45 } : Room) s m [.ref (gad G t), .int (iZ o)].toArray below meth c H locs 0 0 (MQ below (va_Qi (fun r (u : Int × (Nat → Nat → Int)) => r = iZ u.1 ∧ (fun z M1 => z = q_os R o ∧ M1 = M) u.1 u.2) (fun u U => gB G u.2 U) (gA G)) [.ref (gad G t), .int (iZ o)].toArray s 0 0 (gA G)) (F0 m 7 ls []) := by
    intro n_7
    induction n_7 with
    | zero => intro k x_i x_s x_b he_x_i he_x_s he_x_b hk hm_7; exact absurd hm_7 (Nat.not_lt_zero _)
    | succ n_7 ih_7 =>
      intro k x_i x_s x_b he_x_i he_x_s he_x_b hk hm_7 H locs ls hG hl
      subst he_x_i
      subst he_x_s
      subst he_x_b
      have hdk : (k : Int) < q_nd R → q_dogok R k := hI.2.1 k
      have hdok := dok hI k
      have hb2 := q_b2_in hI o hk
      refine lv_iload hx hb dX3_scoreOfOwner_7 (lv_at hl 0 rfl) ?_
      refine lv_aload_n hx hb dX3_scoreOfOwner_9 rfl (lv_at hl 3 rfl) ?_
      refine g_geti (z := (q_nd R)) hx hb hts hinX3 hown hG (o := t) (hd_t 0 (by decide)) (gE_T hT G _) rfl 0 (by decide) f37 (fun _ h => h) rfl (tr_nd hR) dX3_scoreOfOwner_10 ?_
      refine z_icmp_ge (tgt := 59) hx hb (by omega) (by omega) dX3_scoreOfOwner_13 (by decide) (fun c_13 => ?_) (fun c_13 => ?_)
      · skip
        refine lv_iload_n hx hb dX3_scoreOfOwner_59 rfl (lv_at hl 2 rfl) ?_
        refine lv_iload_n hx hb dX3_scoreOfOwner_60 rfl (lv_at hl 1 rfl) ?_
        refine z_iadd (z := ((q_b2 R o k).1 + (q_b2 R o k).2)) hx hb (by omega) dX3_scoreOfOwner_61 ?_
        exact g_iret (post := fun z M1 => z = q_os R o ∧ M1 = M) (z := ((q_b2 R o k).1 + (q_b2 R o k).2)) hx hb hr hG hlocks (⟨by unfold q_os; rw [show (q_nd R).toNat = k by omega], rfl⟩) dX3_scoreOfOwner_62
      · skip
        have hdo := hdk (by omega)
        have hsk := sc_in hdo
        unfold q_dogok at hdo
        refine lv_aload_n hx hb dX3_scoreOfOwner_16 rfl (lv_at hl 3 rfl) ?_
        refine g_get hx hb hts hinX3 hown hG (o := t) (hd_t 0 (by decide)) (gE_T hT G _) rfl 1 (by decide) f9 (fun _ h => h) rfl dX3_scoreOfOwner_17 ?_
        refine lv_iload hx hb dX3_scoreOfOwner_20 (lv_at hl 0 rfl) ?_
        refine g_iald (z := (q_ow R k)) (j := k) hx hb hG (o := (t + 1)) (hd_t 1 (by decide)) (gE_tI hT 1 (by decide) G _) (by omega) (by omega) (by omega) (tr_ow hR (i := k) (by omega)) dX3_scoreOfOwner_22 ?_
        refine lv_iload_n hx hb dX3_scoreOfOwner_23 rfl (lv_at hl 4 rfl) ?_
        refine z_icmp_ne (tgt := 53) hx hb (by omega) (by omega) dX3_scoreOfOwner_24 (by decide) (fun c_24 => ?_) (fun c_24 => ?_)
        · skip
          refine z_iinc (z := ((k : Int) + 1)) (lv' := [(4, .int (iZ ((k : Int) + 1))), (3, .int (iZ (q_b2 R o k).2)), (2, .int (iZ (q_b2 R o k).1)), (0, .ref (gad G t)), (1, .int (iZ o))]) hx hb dX3_scoreOfOwner_53 hl (k := 0) rfl (by omega) (by decide) rfl (fun ls hl => ?_)
          refine lv_goto (tgt := 7) hx hb dX3_scoreOfOwner_56 (by decide) ?_
          exact ih_7 (k + 1) ((k : Int) + 1) ((q_b2 R o k).2) ((q_b2 R o k).1)  (by omega) (by rw [q_b2]; first | (rw [if_pos (by omega)]) | (rw [if_neg (by omega)])) (by rw [q_b2]; first | (rw [if_pos (by omega)]) | (rw [if_neg (by omega)])) (by omega) (by omega) _ _ _ hG (lv_sub hl [0, 1, 2, 3, 4] rfl)
        · skip
          refine lv_aload_n hx hb dX3_scoreOfOwner_27 rfl (lv_at hl 3 rfl) ?_
          refine lv_iload hx hb dX3_scoreOfOwner_28 (lv_at hl 0 rfl) ?_
          refine g_callV (b := t) (As := [.int (iZ (k : Int))]) (rest := []) ⟨hx, hb, hml, hown, hts⟩ (c_X3_scoreOf l G M hdm t hT R hR hI k (by omega)) (cwV 1 hts gX3_scoreOfOwner_X3_scoreOf rfl rfl rfl (by decide +kernel) ⟨Nat.le_of_ble_eq_true rfl, Nat.le_of_ble_eq_true rfl⟩) hG (g_recv hG (b := t) (hd_t 0 (by decide)) (gE_T hT G _) rfl) rfl hl.1 rfl (Nat.le_of_ble_eq_true rfl) dX3_scoreOfOwner_30 ⟨Nat.zero_le _, Nat.zero_le _⟩ (fun z1 M2 H locs hp_30 hG => ?_)
          obtain ⟨hz_30, hM_30⟩ := hp_30; replace hz_30 := hz_30.symm; subst hz_30; replace hM_30 := hM_30.symm; subst hM_30
          refine lv_istore (lv' := [(5, .int (iZ (q_sc R k))), (4, .int (iZ (k : Int))), (3, .int (iZ (q_b2 R o k).2)), (2, .int (iZ (q_b2 R o k).1)), (0, .ref (gad G t)), (1, .int (iZ o))]) hx hb dX3_scoreOfOwner_33 hl (by decide) rfl (fun ls hl => ?_)
          refine lv_iload_n hx hb dX3_scoreOfOwner_35 rfl (lv_at hl 2 rfl) ?_
          refine lv_iload_n hx hb dX3_scoreOfOwner_36 rfl (lv_at hl 3 rfl) ?_
          refine lv_iload hx hb dX3_scoreOfOwner_37 (lv_at hl 0 rfl) ?_
          refine g_mmin hx hb (hml.trans hl.1.symm) hown (hts (.methodLink RX3 83 Lib.Math.min.name) (by decide +kernel)) (hts (.static Lib.Math.min.name) (by decide +kernel)) (hts (.initialized "java/lang/Math") (by decide +kernel)) (hts (.code Lib.Math.min.name Lib.Math.min.code 2 (some .int)) (by decide +kernel)) (Nat.le_of_ble_eq_true rfl) (Nat.le_of_ble_eq_true rfl) (Nat.zero_le _) (Nat.zero_le _) (by omega) (by omega) dX3_scoreOfOwner_39 ?_
          refine g_mmax hx hb (hml.trans hl.1.symm) hown (hts (.methodLink RX3 88 Lib.Math.max.name) (by decide +kernel)) (hts (.static Lib.Math.max.name) (by decide +kernel)) (hts (.initialized "java/lang/Math") (by decide +kernel)) (hts (.code Lib.Math.max.name Lib.Math.max.code 2 (some .int)) (by decide +kernel)) (Nat.le_of_ble_eq_true rfl) (Nat.le_of_ble_eq_true rfl) (Nat.zero_le _) (Nat.zero_le _) (by omega) (by omega) dX3_scoreOfOwner_42 ?_
          refine lv_istore_n (lv' := [(3, .int (iZ (max ((q_b2 R o k).2) (min ((q_b2 R o k).1) (q_sc R k))))), (5, .int (iZ (q_sc R k))), (4, .int (iZ (k : Int))), (2, .int (iZ (q_b2 R o k).1)), (0, .ref (gad G t)), (1, .int (iZ o))]) hx hb dX3_scoreOfOwner_45 rfl hl (by decide) rfl (fun ls hl => ?_)
          refine lv_iload_n hx hb dX3_scoreOfOwner_46 rfl (lv_at hl 3 rfl) ?_
          refine lv_iload hx hb dX3_scoreOfOwner_47 (lv_at hl 1 rfl) ?_
          refine g_mmax hx hb (hml.trans hl.1.symm) hown (hts (.methodLink RX3 88 Lib.Math.max.name) (by decide +kernel)) (hts (.static Lib.Math.max.name) (by decide +kernel)) (hts (.initialized "java/lang/Math") (by decide +kernel)) (hts (.code Lib.Math.max.name Lib.Math.max.code 2 (some .int)) (by decide +kernel)) (Nat.le_of_ble_eq_true rfl) (Nat.le_of_ble_eq_true rfl) (Nat.zero_le _) (Nat.zero_le _) (by omega) (by omega) dX3_scoreOfOwner_49 ?_
          refine lv_istore_n (lv' := [(2, .int (iZ (max ((q_b2 R o k).1) (q_sc R k)))), (3, .int (iZ (max ((q_b2 R o k).2) (min ((q_b2 R o k).1) (q_sc R k))))), (5, .int (iZ (q_sc R k))), (4, .int (iZ (k : Int))), (0, .ref (gad G t)), (1, .int (iZ o))]) hx hb dX3_scoreOfOwner_52 rfl hl (by decide) rfl (fun ls hl => ?_)
          refine z_iinc (z := ((k : Int) + 1)) (lv' := [(4, .int (iZ ((k : Int) + 1))), (2, .int (iZ (max ((q_b2 R o k).1) (q_sc R k)))), (3, .int (iZ (max ((q_b2 R o k).2) (min ((q_b2 R o k).1) (q_sc R k))))), (5, .int (iZ (q_sc R k))), (0, .ref (gad G t)), (1, .int (iZ o))]) hx hb dX3_scoreOfOwner_53 hl (k := 3) rfl (by omega) (by decide) rfl (fun ls hl => ?_)
          refine lv_goto (tgt := 7) hx hb dX3_scoreOfOwner_56 (by decide) ?_
          exact ih_7 (k + 1) ((k : Int) + 1) (max ((q_b2 R o k).2) (min ((q_b2 R o k).1) (q_sc R k))) (max ((q_b2 R o k).1) (q_sc R k))  (by omega) (by rw [q_b2]; first | (rw [if_pos (by omega)]) | (rw [if_neg (by omega)])) (by rw [q_b2]; first | (rw [if_pos (by omega)]) | (rw [if_neg (by omega)])) (by omega) (by omega) _ _ _ hG (lv_sub hl [0, 2, 1, 4, 5] rfl)
  exact L_7 _ 0 0 0 0  rfl rfl rfl (by omega) (Nat.lt_succ_self _) _ _ _ hG (lv_sub hl [0, 1, 2, 3, 4] rfl)
def q_tw (R : Nat → Int) (i : Nat) : Int := q_sm q_wth 6 - q_sm q_wth (q_fp R i).toNat
set_option maxHeartbeats 4000000 in
set_option maxRecDepth 100000 in
theorem c_X3_worthToRun (l : Launch) (G : gG) (M : Nat → Nat → Int) (hdm : ∀ k, k < 169 → gdm G k) (t : Nat) (hT : isT t) (R : Nat → Int) (hR : q_tr M t R) (hI : q_inv R) (i : Nat) (hi : (i : Int) < q_nd R) : gMi l yX3_worthToRun wsX3_worthToRun ({ frames := 1, cells := 0, slots := 0, locals := 21 } : Room) G M [.ref (gad G t), .int (iZ (i : Int))] (fun z M1 => z = q_tw R i ∧ M1 = M) := by
  refine gMi_of (cc := cX3_worthToRun) (maxL := 4) (ret := some .int) (by decide) rfl (Nat.le_of_ble_eq_true rfl) ?_
  intro p e s m below meth c ls hx hb hr hml hown hts hlocks hl hG
  have hown : s.vm.findClass RX3 = some m.cls := hown
  have hl : lv_has ls 4 [(0, .ref (gad G t)), (1, .int (iZ (i : Int)))] := hl
  have hd_t : ∀ r, r < 8 → gdm G (t + r) := fun r hr => hdm _ (by have h1 := (hT).1; have h2 := (hT).2; omega)
  have hnd := hI.1
  have hdo := hI.2.1 i hi
  unfold q_dogok at hdo
  have hfp : 0 ≤ q_fp R i ∧ q_fp R i ≤ 6 := by unfold q_fp; split <;> omega
  refine lv_iconst (v := iZ 0) hx hb dX3_worthToRun_0 rfl ?_
  refine lv_istore_n (lv' := [(2, .int (iZ 0)), (0, .ref (gad G t)), (1, .int (iZ (i : Int)))]) hx hb dX3_worthToRun_1 rfl hl (by decide) rfl (fun ls hl => ?_)
  refine lv_aload_n hx hb dX3_worthToRun_2 rfl (lv_at hl 1 rfl) ?_
  refine lv_iload_n hx hb dX3_worthToRun_3 rfl (lv_at hl 2 rfl) ?_
  refine g_callV (b := t) (As := [.int (iZ (i : Int))]) (rest := []) ⟨hx, hb, hml, hown, hts⟩ (c_X3_firstPhaseToRun l G M hdm t hT R hR hI i (by omega)) (cwV 1 hts gX3_worthToRun_X3_firstPhaseToRun rfl rfl rfl (by decide +kernel) ⟨Nat.le_of_ble_eq_true rfl, Nat.le_of_ble_eq_true rfl⟩) hG (g_recv hG (b := t) (hd_t 0 (by decide)) (gE_T hT G _) rfl) rfl hl.1 rfl (Nat.le_of_ble_eq_true rfl) dX3_worthToRun_4 ⟨Nat.zero_le _, Nat.zero_le _⟩ (fun z1 M2 H locs hp_4 hG => ?_)
  obtain ⟨hz_4, hM_4⟩ := hp_4; replace hz_4 := hz_4.symm; subst hz_4; replace hM_4 := hM_4.symm; subst hM_4
  rw [show q_fp R i = (((q_fp R i).toNat) : Int) by omega]
  refine lv_istore_n (lv' := [(3, .int (iZ (((q_fp R i).toNat) : Int))), (2, .int (iZ 0)), (0, .ref (gad G t)), (1, .int (iZ (i : Int)))]) hx hb dX3_worthToRun_7 rfl hl (by decide) rfl (fun ls hl => ?_)
  have L_8 : ∀ (n_8 : Nat) (k : Nat) (x_i : Int) (x_c : Int), (x_i = (k : Int)) → (x_c = ((q_sm q_wth k) - (q_sm q_wth (q_fp R i).toNat))) → (k ≤ 6) → ((q_fp R i).toNat ≤ k) → 6 - k < n_8 → ∀ (H : Heap) (locs : List Loc) (ls : Array Slot), gH G M s H locs → lv_has ls 4 [(3, .int (iZ x_i)), (2, .int (iZ x_c)), (0, .ref (gad G t)), (1, .int (iZ (i : Int)))] → W p l e ({ frames := 1, cells := 0, slots := 0, locals := 21 } : Room) s m [.ref (gad G t), .int (iZ (i : Int))].toArray below meth c H locs 0 0 (MQ below (va_Qi (fun r (u : Int × (Nat → Nat → Int)) => r = iZ u.1 ∧ (fun z M1 => z = q_tw R i ∧ M1 = M) u.1 u.2) (fun u U => gB G u.2 U) (gA G)) [.ref (gad G t), .int (iZ (i : Int))].toArray s 0 0 (gA G)) (F0 m 8 ls []) := by
    intro n_8
    induction n_8 with
    | zero => intro k x_i x_c he_x_i he_x_c hk hk2 hm_8; exact absurd hm_8 (Nat.not_lt_zero _)
    | succ n_8 ih_8 =>
      intro k x_i x_c he_x_i he_x_c hk hk2 hm_8 H locs ls hG hl
      subst he_x_i
      subst he_x_c
      refine lv_iload_n hx hb dX3_worthToRun_8 rfl (lv_at hl 0 rfl) ?_
      refine lv_bipush (v := iZ (6)) hx hb dX3_worthToRun_9 (by decide) ?_
      refine z_icmp_ge (tgt := 28) hx hb (by omega) (by decide) dX3_worthToRun_11 (by decide) (fun c_11 => ?_) (fun c_11 => ?_)
      · skip
        refine lv_iload_n hx hb dX3_worthToRun_28 rfl (lv_at hl 1 rfl) ?_
        exact g_iret (post := fun z M1 => z = q_tw R i ∧ M1 = M) (z := ((q_sm q_wth k) - (q_sm q_wth (q_fp R i).toNat))) hx hb hr hG hlocks (⟨by unfold q_tw; rw [show (6 : Nat) = k by omega], rfl⟩) dX3_worthToRun_29
      · skip
        refine lv_iload_n hx hb dX3_worthToRun_14 rfl (lv_at hl 1 rfl) ?_
        refine g_worth hx hb hG hown hG.2.1.2.2.2.2.2.2.1 dX3_worthToRun_15 ?_
        refine lv_iload_n hx hb dX3_worthToRun_18 rfl (lv_at hl 0 rfl) ?_
        refine g_wald (j := k) hx hb hG (by omega) (by omega) dX3_worthToRun_19 ?_
        refine z_iadd (z := ((q_sm q_wth k) + (q_wth k) - (q_sm q_wth (q_fp R i).toNat))) hx hb (by omega) dX3_worthToRun_20 ?_
        refine lv_istore_n (lv' := [(2, .int (iZ ((q_sm q_wth k) + (q_wth k) - (q_sm q_wth (q_fp R i).toNat)))), (3, .int (iZ (k : Int))), (0, .ref (gad G t)), (1, .int (iZ (i : Int)))]) hx hb dX3_worthToRun_21 rfl hl (by decide) rfl (fun ls hl => ?_)
        refine z_iinc (z := ((k : Int) + 1)) (lv' := [(3, .int (iZ ((k : Int) + 1))), (2, .int (iZ ((q_sm q_wth k) + (q_wth k) - (q_sm q_wth (q_fp R i).toNat)))), (0, .ref (gad G t)), (1, .int (iZ (i : Int)))]) hx hb dX3_worthToRun_22 hl (k := 1) rfl (by omega) (by decide) rfl (fun ls hl => ?_)
        refine lv_goto (tgt := 8) hx hb dX3_worthToRun_25 (by decide) ?_
        exact ih_8 (k + 1) ((k : Int) + 1) ((q_sm q_wth k) + (q_wth k) - (q_sm q_wth (q_fp R i).toNat))  (by omega) (by rw [q_sm] <;> omega) (by omega) (by omega) (by omega) _ _ _ hG (lv_sub hl [0, 1, 2, 3] rfl)
  exact L_8 _ ((q_fp R i).toNat) (((q_fp R i).toNat) : Int) 0  rfl (by omega) (by omega) (by omega) (Nat.lt_succ_self _) _ _ _ hG (lv_sub hl [0, 1, 2, 3] rfl)
set_option maxHeartbeats 4000000 in
set_option maxRecDepth 100000 in
theorem c_X3_dogsWithScoreAbove (l : Launch) (G : gG) (M : Nat → Nat → Int) (hdm : ∀ k, k < 169 → gdm G k) (t : Nat) (hT : isT t) (R : Nat → Int) (hR : q_tr M t R) (hI : q_inv R) (v : Int) (hv : -1000 ≤ v ∧ v ≤ 1000) : gMi l yX3_dogsWithScoreAbove wsX3_dogsWithScoreAbove ({ frames := 2, cells := 0, slots := 0, locals := 45 } : Room) G M [.ref (gad G t), .int (iZ v)] (fun z M1 => z = q_ab R v ∧ M1 = M) := by
  refine gMi_of (cc := cX3_dogsWithScoreAbove) (maxL := 4) (ret := some .int) (by decide) rfl (Nat.le_of_ble_eq_true rfl) ?_
  intro p e s m below meth c ls hx hb hr hml hown hts hlocks hl hG
  have hown : s.vm.findClass RX3 = some m.cls := hown
  have hl : lv_has ls 4 [(0, .ref (gad G t)), (1, .int (iZ v))] := hl
  have hd_t : ∀ r, r < 8 → gdm G (t + r) := fun r hr => hdm _ (by have h1 := (hT).1; have h2 := (hT).2; omega)
  have hinX3 : ∀ w ∈ u_ws RX3 TX3 15, w ∈ wsX3_dogsWithScoreAbove := by decide +kernel
  have f37 := hts (.fieldLink RX3 37 "DogTrials$Trial" "dogs" "I") (by decide +kernel)
  have hnd := hI.1
  refine lv_iconst (v := iZ 0) hx hb dX3_dogsWithScoreAbove_0 rfl ?_
  refine lv_istore_n (lv' := [(2, .int (iZ 0)), (0, .ref (gad G t)), (1, .int (iZ v))]) hx hb dX3_dogsWithScoreAbove_1 rfl hl (by decide) rfl (fun ls hl => ?_)
  refine lv_iconst (v := iZ 0) hx hb dX3_dogsWithScoreAbove_2 rfl ?_
  refine lv_istore_n (lv' := [(3, .int (iZ 0)), (2, .int (iZ 0)), (0, .ref (gad G t)), (1, .int (iZ v))]) hx hb dX3_dogsWithScoreAbove_3 rfl hl (by decide) rfl (fun ls hl => ?_)
  have L_4 : ∀ (n_4 : Nat) (k : Nat) (x_i : Int) (x_c : Int), (x_i = (k : Int)) → (x_c = (q_ct (fun j => decide (v < q_sc R j)) k)) → ((k : Int) ≤ q_nd R) → 12 - k < n_4 → ∀ (H : Heap) (locs : List Loc) (ls : Array Slot), gH G M s H locs → lv_has ls 4 [(3, .int (iZ x_i)), (2, .int (iZ x_c)), (0, .ref (gad G t)), (1, .int (iZ v))] → W p l e ({ frames := 2, cells := 0, slots := 0, locals := 45 } : Room) s m [.ref (gad G t), .int (iZ v)].toArray below meth c H locs 0 0 (MQ below (va_Qi (fun r (u : Int × (Nat → Nat → Int)) => r = iZ u.1 ∧ (fun z M1 => z = q_ab R v ∧ M1 = M) u.1 u.2) (fun u U => gB G u.2 U) (gA G)) [.ref (gad G t), .int (iZ v)].toArray s 0 0 (gA G)) (F0 m 4 ls []) := by
    intro n_4
    induction n_4 with
    | zero => intro k x_i x_c he_x_i he_x_c hk hm_4; exact absurd hm_4 (Nat.not_lt_zero _)
    | succ n_4 ih_4 =>
      intro k x_i x_c he_x_i he_x_c hk hm_4 H locs ls hG hl
      subst he_x_i
      subst he_x_c
      have hck := ct_in (fun j => decide (v < q_sc R j)) k
      have hdk : (k : Int) < q_nd R → q_dogok R k := hI.2.1 k
      have hdok := dok hI k
      refine lv_iload_n hx hb dX3_dogsWithScoreAbove_4 rfl (lv_at hl 0 rfl) ?_
      refine lv_aload_n hx hb dX3_dogsWithScoreAbove_5 rfl (lv_at hl 2 rfl) ?_
      refine g_geti (z := (q_nd R)) hx hb hts hinX3 hown hG (o := t) (hd_t 0 (by decide)) (gE_T hT G _) rfl 0 (by decide) f37 (fun _ h => h) rfl (tr_nd hR) dX3_dogsWithScoreAbove_6 ?_
      refine z_icmp_ge (tgt := 30) hx hb (by omega) (by omega) dX3_dogsWithScoreAbove_9 (by decide) (fun c_9 => ?_) (fun c_9 => ?_)
      · skip
        refine lv_iload_n hx hb dX3_dogsWithScoreAbove_30 rfl (lv_at hl 1 rfl) ?_
        exact g_iret (post := fun z M1 => z = q_ab R v ∧ M1 = M) (z := (q_ct (fun j => decide (v < q_sc R j)) k)) hx hb hr hG hlocks (⟨by unfold q_ab; congr 1; omega, rfl⟩) dX3_dogsWithScoreAbove_31
      · skip
        refine lv_aload_n hx hb dX3_dogsWithScoreAbove_12 rfl (lv_at hl 2 rfl) ?_
        refine lv_iload_n hx hb dX3_dogsWithScoreAbove_13 rfl (lv_at hl 0 rfl) ?_
        refine g_callV (b := t) (As := [.int (iZ (k : Int))]) (rest := []) ⟨hx, hb, hml, hown, hts⟩ (c_X3_scoreOf l G M hdm t hT R hR hI k (by omega)) (cwV 1 hts gX3_dogsWithScoreAbove_X3_scoreOf rfl rfl rfl (by decide +kernel) ⟨Nat.le_of_ble_eq_true rfl, Nat.le_of_ble_eq_true rfl⟩) hG (g_recv hG (b := t) (hd_t 0 (by decide)) (gE_T hT G _) rfl) rfl hl.1 rfl (Nat.le_of_ble_eq_true rfl) dX3_dogsWithScoreAbove_14 ⟨Nat.zero_le _, Nat.zero_le _⟩ (fun z1 M2 H locs hp_14 hG => ?_)
        obtain ⟨hz_14, hM_14⟩ := hp_14; replace hz_14 := hz_14.symm; subst hz_14; replace hM_14 := hM_14.symm; subst hM_14
        refine lv_iload_n hx hb dX3_dogsWithScoreAbove_17 rfl (lv_at hl 3 rfl) ?_
        have hsk := sc_in (hdk (by omega))
        refine z_icmp_le (tgt := 24) hx hb (by omega) (by omega) dX3_dogsWithScoreAbove_18 (by decide) (fun c_18 => ?_) (fun c_18 => ?_)
        · skip
          refine z_iinc (z := ((k : Int) + 1)) (lv' := [(3, .int (iZ ((k : Int) + 1))), (2, .int (iZ (q_ct (fun j => decide (v < q_sc R j)) k))), (0, .ref (gad G t)), (1, .int (iZ v))]) hx hb dX3_dogsWithScoreAbove_24 hl (k := 0) rfl (by omega) (by decide) rfl (fun ls hl => ?_)
          refine lv_goto (tgt := 4) hx hb dX3_dogsWithScoreAbove_27 (by decide) ?_
          exact ih_4 (k + 1) ((k : Int) + 1) (q_ct (fun j => decide (v < q_sc R j)) k)  (by omega) (by rw [q_ct]; first | (rw [if_pos (by first | assumption | exact decide_eq_true (by omega) | (simp_all; done))] <;> omega) | (rw [if_neg (by first | assumption | (intro h9; have h8 := of_decide_eq_true h9; omega) | (simp_all; done))] <;> omega)) (by omega) (by omega) _ _ _ hG (lv_sub hl [0, 1, 2, 3] rfl)
        · skip
          refine z_iinc (z := ((q_ct (fun j => decide (v < q_sc R j)) k) + 1)) (lv' := [(2, .int (iZ ((q_ct (fun j => decide (v < q_sc R j)) k) + 1))), (3, .int (iZ (k : Int))), (0, .ref (gad G t)), (1, .int (iZ v))]) hx hb dX3_dogsWithScoreAbove_21 hl (k := 1) rfl (by omega) (by decide) rfl (fun ls hl => ?_)
          refine z_iinc (z := ((k : Int) + 1)) (lv' := [(3, .int (iZ ((k : Int) + 1))), (2, .int (iZ ((q_ct (fun j => decide (v < q_sc R j)) k) + 1))), (0, .ref (gad G t)), (1, .int (iZ v))]) hx hb dX3_dogsWithScoreAbove_24 hl (k := 1) rfl (by omega) (by decide) rfl (fun ls hl => ?_)
          refine lv_goto (tgt := 4) hx hb dX3_dogsWithScoreAbove_27 (by decide) ?_
          exact ih_4 (k + 1) ((k : Int) + 1) ((q_ct (fun j => decide (v < q_sc R j)) k) + 1)  (by omega) (by rw [q_ct]; first | (rw [if_pos (by first | assumption | exact decide_eq_true (by omega) | (simp_all; done))] <;> omega) | (rw [if_neg (by first | assumption | (intro h9; have h8 := of_decide_eq_true h9; omega) | (simp_all; done))] <;> omega)) (by omega) (by omega) _ _ _ hG (lv_sub hl [0, 1, 2, 3] rfl)
  exact L_4 _ 0 0 0  rfl rfl (by omega) (Nat.lt_succ_self _) _ _ _ hG (lv_sub hl [0, 1, 2, 3] rfl)
set_option maxHeartbeats 4000000 in
set_option maxRecDepth 100000 in
theorem c_X3_isAheadInStanding (l : Launch) (G : gG) (M : Nat → Nat → Int) (hdm : ∀ k, k < 169 → gdm G k) (t : Nat) (hT : isT t) (R : Nat → Int) (hR : q_tr M t R) (hI : q_inv R) (a b : Nat) (ha : (a : Int) < q_nd R) (hbb : (b : Int) < q_nd R) (h1 : q_hs R a = 1) (h2 : q_hs R b = 1) : gMi l yX3_isAheadInStanding wsX3_isAheadInStanding ({ frames := 3, cells := 0, slots := 0, locals := 73 } : Room) G M [.ref (gad G t), .int (iZ (a : Int)), .int (iZ (b : Int))] (fun z M1 => z = (if q_ah R a b = true then 1 else 0) ∧ M1 = M) := by
  refine gMi_of (cc := cX3_isAheadInStanding) (maxL := 3) (ret := some .boolean) (by decide) rfl (Nat.le_of_ble_eq_true rfl) ?_
  intro p e s m below meth c ls hx hb hr hml hown hts hlocks hl hG
  have hown : s.vm.findClass RX3 = some m.cls := hown
  have hl : lv_has ls 3 [(0, .ref (gad G t)), (1, .int (iZ (a : Int))), (2, .int (iZ (b : Int)))] := hl
  have hd_t : ∀ r, r < 8 → gdm G (t + r) := fun r hr => hdm _ (by have h1 := (hT).1; have h2 := (hT).2; omega)
  have hinX3 : ∀ w ∈ u_ws RX3 TX3 15, w ∈ wsX3_isAheadInStanding := by decide +kernel
  have f15 := hts (.fieldLink RX3 15 "DogTrials$Trial" "draws" "[I") (by decide +kernel)
  have hnd := hI.1
  have hda := hI.2.1 a ha
  have hdb := hI.2.1 b hbb
  unfold q_dogok at hda hdb
  refine lv_aload_n hx hb dX3_isAheadInStanding_0 rfl (lv_at hl 0 rfl) ?_
  refine lv_iload_n hx hb dX3_isAheadInStanding_1 rfl (lv_at hl 1 rfl) ?_
  refine lv_iload_n hx hb dX3_isAheadInStanding_2 rfl (lv_at hl 2 rfl) ?_
  refine g_callV (b := t) (As := [.int (iZ (a : Int)), .int (iZ (b : Int))]) (rest := []) ⟨hx, hb, hml, hown, hts⟩ (c_X3_isBetter l G M hdm t hT R hR hI a b (by omega) (by omega) (by first | assumption | omega) (by first | assumption | omega)) (cwV 2 hts gX3_isAheadInStanding_X3_isBetter rfl rfl rfl (by decide +kernel) ⟨Nat.le_of_ble_eq_true rfl, Nat.le_of_ble_eq_true rfl⟩) hG (g_recv hG (b := t) (hd_t 0 (by decide)) (gE_T hT G _) rfl) rfl hl.1 rfl (Nat.le_of_ble_eq_true rfl) dX3_isAheadInStanding_3 ⟨Nat.zero_le _, Nat.zero_le _⟩ (fun z1 M2 H locs hp_3 hG => ?_)
  obtain ⟨hz_3, hM_3⟩ := hp_3; replace hz_3 := hz_3.symm; subst hz_3; replace hM_3 := hM_3.symm; subst hM_3
  refine z_ifP_ne (tgt := 33) hx hb dX3_isAheadInStanding_6 (by decide) (fun c_6 => ?_) (fun c_6 => ?_)
  · skip
    refine lv_iconst (v := iZ 1) hx hb dX3_isAheadInStanding_33 rfl ?_
    refine lv_goto (tgt := 38) hx hb dX3_isAheadInStanding_34 (by decide) ?_
    exact g_zret (post := fun z M1 => z = (if q_ah R a b = true then 1 else 0) ∧ M1 = M) (z := 1) hx hb hr hG hlocks (Or.inr rfl) (⟨by unfold q_ah; first | (rw [if_pos (by simp_all; done)]; done) | (rw [if_neg (by simp_all; done)]; done), rfl⟩) dX3_isAheadInStanding_38
  · skip
    refine lv_aload_n hx hb dX3_isAheadInStanding_9 rfl (lv_at hl 0 rfl) ?_
    refine lv_iload_n hx hb dX3_isAheadInStanding_10 rfl (lv_at hl 2 rfl) ?_
    refine lv_iload_n hx hb dX3_isAheadInStanding_11 rfl (lv_at hl 1 rfl) ?_
    refine g_callV (b := t) (As := [.int (iZ (b : Int)), .int (iZ (a : Int))]) (rest := []) ⟨hx, hb, hml, hown, hts⟩ (c_X3_isBetter l G M hdm t hT R hR hI b a (by omega) (by omega) (by first | assumption | omega) (by first | assumption | omega)) (cwV 2 hts gX3_isAheadInStanding_X3_isBetter rfl rfl rfl (by decide +kernel) ⟨Nat.le_of_ble_eq_true rfl, Nat.le_of_ble_eq_true rfl⟩) hG (g_recv hG (b := t) (hd_t 0 (by decide)) (gE_T hT G _) rfl) rfl hl.1 rfl (Nat.le_of_ble_eq_true rfl) dX3_isAheadInStanding_12 ⟨Nat.zero_le _, Nat.zero_le _⟩ (fun z3 M4 H locs hp_12 hG => ?_)
    obtain ⟨hz_12, hM_12⟩ := hp_12; replace hz_12 := hz_12.symm; subst hz_12; replace hM_12 := hM_12.symm; subst hM_12
    refine z_ifP_ne (tgt := 37) hx hb dX3_isAheadInStanding_15 (by decide) (fun c_15 => ?_) (fun c_15 => ?_)
    · skip
      refine lv_iconst (v := iZ 0) hx hb dX3_isAheadInStanding_37 rfl ?_
      exact g_zret (post := fun z M1 => z = (if q_ah R a b = true then 1 else 0) ∧ M1 = M) (z := 0) hx hb hr hG hlocks (Or.inl rfl) (⟨by unfold q_ah; first | (rw [if_pos (by simp_all; done)]; done) | (rw [if_neg (by simp_all; done)]; done), rfl⟩) dX3_isAheadInStanding_38
    · skip
      refine lv_aload_n hx hb dX3_isAheadInStanding_18 rfl (lv_at hl 0 rfl) ?_
      refine g_get hx hb hts hinX3 hown hG (o := t) (hd_t 0 (by decide)) (gE_T hT G _) rfl 2 (by decide) f15 (fun _ h => h) rfl dX3_isAheadInStanding_19 ?_
      refine lv_iload_n hx hb dX3_isAheadInStanding_22 rfl (lv_at hl 1 rfl) ?_
      refine g_iald (z := (q_dr R a)) (j := a) hx hb hG (o := (t + 2)) (hd_t 2 (by decide)) (gE_tI hT 2 (by decide) G _) (by omega) (by omega) (by omega) (tr_dr hR (i := a) (by omega)) dX3_isAheadInStanding_23 ?_
      refine lv_aload_n hx hb dX3_isAheadInStanding_24 rfl (lv_at hl 0 rfl) ?_
      refine g_get hx hb hts hinX3 hown hG (o := t) (hd_t 0 (by decide)) (gE_T hT G _) rfl 2 (by decide) f15 (fun _ h => h) rfl dX3_isAheadInStanding_25 ?_
      refine lv_iload_n hx hb dX3_isAheadInStanding_28 rfl (lv_at hl 2 rfl) ?_
      refine g_iald (z := (q_dr R b)) (j := b) hx hb hG (o := (t + 2)) (hd_t 2 (by decide)) (gE_tI hT 2 (by decide) G _) (by omega) (by omega) (by omega) (tr_dr hR (i := b) (by omega)) dX3_isAheadInStanding_29 ?_
      refine z_icmp_ge (tgt := 37) hx hb (by omega) (by omega) dX3_isAheadInStanding_30 (by decide) (fun c_30 => ?_) (fun c_30 => ?_)
      · skip
        refine lv_iconst (v := iZ 0) hx hb dX3_isAheadInStanding_37 rfl ?_
        exact g_zret (post := fun z M1 => z = (if q_ah R a b = true then 1 else 0) ∧ M1 = M) (z := 0) hx hb hr hG hlocks (Or.inl rfl) (⟨by unfold q_ah; first | (rw [if_pos (by simp_all; done)]; done) | (rw [if_neg (by simp_all; done)]; done), rfl⟩) dX3_isAheadInStanding_38
      · skip
        refine lv_iconst (v := iZ 1) hx hb dX3_isAheadInStanding_33 rfl ?_
        refine lv_goto (tgt := 38) hx hb dX3_isAheadInStanding_34 (by decide) ?_
        exact g_zret (post := fun z M1 => z = (if q_ah R a b = true then 1 else 0) ∧ M1 = M) (z := 1) hx hb hr hG hlocks (Or.inr rfl) (⟨by unfold q_ah; first | (rw [if_pos (by simp_all; done)]; done) | (rw [if_neg (by simp_all; done)]; done), rfl⟩) dX3_isAheadInStanding_38
set_option maxHeartbeats 4000000 in
set_option maxRecDepth 100000 in
theorem c_X3_dogsAheadInStanding (l : Launch) (G : gG) (M : Nat → Nat → Int) (hdm : ∀ k, k < 169 → gdm G k) (t : Nat) (hT : isT t) (R : Nat → Int) (hR : q_tr M t R) (hI : q_inv R) (i : Nat) (hi : (i : Int) < q_nd R) (h1 : q_hs R i = 1) : gMi l yX3_dogsAheadInStanding wsX3_dogsAheadInStanding ({ frames := 4, cells := 0, slots := 0, locals := 95 } : Room) G M [.ref (gad G t), .int (iZ (i : Int))] (fun z M1 => z = q_ahn R i ∧ M1 = M) := by
  refine gMi_of (cc := cX3_dogsAheadInStanding) (maxL := 4) (ret := some .int) (by decide) rfl (Nat.le_of_ble_eq_true rfl) ?_
  intro p e s m below meth c ls hx hb hr hml hown hts hlocks hl hG
  have hown : s.vm.findClass RX3 = some m.cls := hown
  have hl : lv_has ls 4 [(0, .ref (gad G t)), (1, .int (iZ (i : Int)))] := hl
  have hd_t : ∀ r, r < 8 → gdm G (t + r) := fun r hr => hdm _ (by have h1 := (hT).1; have h2 := (hT).2; omega)
  have hinX3 : ∀ w ∈ u_ws RX3 TX3 15, w ∈ wsX3_dogsAheadInStanding := by decide +kernel
  have f21 := hts (.fieldLink RX3 21 "DogTrials$Trial" "ran" "[Z") (by decide +kernel)
  have f37 := hts (.fieldLink RX3 37 "DogTrials$Trial" "dogs" "I") (by decide +kernel)
  have hnd := hI.1
  have hdo := hI.2.1 i hi
  unfold q_dogok at hdo
  refine lv_iconst (v := iZ 0) hx hb dX3_dogsAheadInStanding_0 rfl ?_
  refine lv_istore_n (lv' := [(2, .int (iZ 0)), (0, .ref (gad G t)), (1, .int (iZ (i : Int)))]) hx hb dX3_dogsAheadInStanding_1 rfl hl (by decide) rfl (fun ls hl => ?_)
  refine lv_iconst (v := iZ 0) hx hb dX3_dogsAheadInStanding_2 rfl ?_
  refine lv_istore_n (lv' := [(3, .int (iZ 0)), (2, .int (iZ 0)), (0, .ref (gad G t)), (1, .int (iZ (i : Int)))]) hx hb dX3_dogsAheadInStanding_3 rfl hl (by decide) rfl (fun ls hl => ?_)
  have L_4 : ∀ (n_4 : Nat) (k : Nat) (x_i : Int) (x_c : Int), (x_i = (k : Int)) → (x_c = (q_ct (fun j => decide (q_hs R j = 1) && q_ah R j i) k)) → ((k : Int) ≤ q_nd R) → 12 - k < n_4 → ∀ (H : Heap) (locs : List Loc) (ls : Array Slot), gH G M s H locs → lv_has ls 4 [(3, .int (iZ x_i)), (2, .int (iZ x_c)), (0, .ref (gad G t)), (1, .int (iZ (i : Int)))] → W p l e ({ frames := 4, cells := 0, slots := 0, locals := 95 } : Room) s m [.ref (gad G t), .int (iZ (i : Int))].toArray below meth c H locs 0 0 (MQ below (va_Qi (fun r (u : Int × (Nat → Nat → Int)) => r = iZ u.1 ∧ (fun z M1 => z = q_ahn R i ∧ M1 = M) u.1 u.2) (fun u U => gB G u.2 U) (gA G)) [.ref (gad G t), .int (iZ (i : Int))].toArray s 0 0 (gA G)) (F0 m 4 ls []) := by
    intro n_4
    induction n_4 with
    | zero => intro k x_i x_c he_x_i he_x_c hk hm_4; exact absurd hm_4 (Nat.not_lt_zero _)
    | succ n_4 ih_4 =>
      intro k x_i x_c he_x_i he_x_c hk hm_4 H locs ls hG hl
      subst he_x_i
      subst he_x_c
      have hck := ct_in (fun j => decide (q_hs R j = 1) && q_ah R j i) k
      have hdk : (k : Int) < q_nd R → q_dogok R k := hI.2.1 k
      have hdok := dok hI k
      refine lv_iload_n hx hb dX3_dogsAheadInStanding_4 rfl (lv_at hl 0 rfl) ?_
      refine lv_aload_n hx hb dX3_dogsAheadInStanding_5 rfl (lv_at hl 2 rfl) ?_
      refine g_geti (z := (q_nd R)) hx hb hts hinX3 hown hG (o := t) (hd_t 0 (by decide)) (gE_T hT G _) rfl 0 (by decide) f37 (fun _ h => h) rfl (tr_nd hR) dX3_dogsAheadInStanding_6 ?_
      refine z_icmp_ge (tgt := 39) hx hb (by omega) (by omega) dX3_dogsAheadInStanding_9 (by decide) (fun c_9 => ?_) (fun c_9 => ?_)
      · skip
        refine lv_iload_n hx hb dX3_dogsAheadInStanding_39 rfl (lv_at hl 1 rfl) ?_
        exact g_iret (post := fun z M1 => z = q_ahn R i ∧ M1 = M) (z := (q_ct (fun j => decide (q_hs R j = 1) && q_ah R j i) k)) hx hb hr hG hlocks (⟨by unfold q_ahn; congr 1; omega, rfl⟩) dX3_dogsAheadInStanding_40
      · skip
        have hdo2 := hdk (by omega)
        unfold q_dogok at hdo2
        refine lv_aload_n hx hb dX3_dogsAheadInStanding_12 rfl (lv_at hl 2 rfl) ?_
        refine g_get hx hb hts hinX3 hown hG (o := t) (hd_t 0 (by decide)) (gE_T hT G _) rfl 4 (by decide) f21 (fun _ h => h) rfl dX3_dogsAheadInStanding_13 ?_
        refine lv_iload_n hx hb dX3_dogsAheadInStanding_16 rfl (lv_at hl 0 rfl) ?_
        refine g_zald (z := (q_hs R k)) (j := k) hx hb hG (o := (t + 4)) (hd_t 4 (by decide)) (gE_tZ hT G _) (by omega) (by omega) (by omega) (tr_hs hR (i := k) (by omega)) dX3_dogsAheadInStanding_17 ?_
        refine z_if_eq (tgt := 33) hx hb (by omega) dX3_dogsAheadInStanding_18 (by decide) (fun c_18 => ?_) (fun c_18 => ?_)
        · skip
          refine z_iinc (z := ((k : Int) + 1)) (lv' := [(3, .int (iZ ((k : Int) + 1))), (2, .int (iZ (q_ct (fun j => decide (q_hs R j = 1) && q_ah R j i) k))), (0, .ref (gad G t)), (1, .int (iZ (i : Int)))]) hx hb dX3_dogsAheadInStanding_33 hl (k := 0) rfl (by omega) (by decide) rfl (fun ls hl => ?_)
          refine lv_goto (tgt := 4) hx hb dX3_dogsAheadInStanding_36 (by decide) ?_
          exact ih_4 (k + 1) ((k : Int) + 1) (q_ct (fun j => decide (q_hs R j = 1) && q_ah R j i) k)  (by omega) (by rw [q_ct]; first | (rw [if_pos (by first | assumption | exact decide_eq_true (by omega) | (simp_all; done))] <;> omega) | (rw [if_neg (by first | assumption | (intro h9; have h8 := of_decide_eq_true h9; omega) | (simp_all; done))] <;> omega)) (by omega) (by omega) _ _ _ hG (lv_sub hl [0, 1, 2, 3] rfl)
        · skip
          have hk1 : q_hs R k = 1 := by omega
          refine lv_aload_n hx hb dX3_dogsAheadInStanding_21 rfl (lv_at hl 2 rfl) ?_
          refine lv_iload_n hx hb dX3_dogsAheadInStanding_22 rfl (lv_at hl 0 rfl) ?_
          refine lv_iload_n hx hb dX3_dogsAheadInStanding_23 rfl (lv_at hl 3 rfl) ?_
          refine g_callV (b := t) (As := [.int (iZ (k : Int)), .int (iZ (i : Int))]) (rest := []) ⟨hx, hb, hml, hown, hts⟩ (c_X3_isAheadInStanding l G M hdm t hT R hR hI k i (by omega) (by omega) (by first | assumption | omega) (by first | assumption | omega)) (cwV 2 hts gX3_dogsAheadInStanding_X3_isAheadInStanding rfl rfl rfl (by decide +kernel) ⟨Nat.le_of_ble_eq_true rfl, Nat.le_of_ble_eq_true rfl⟩) hG (g_recv hG (b := t) (hd_t 0 (by decide)) (gE_T hT G _) rfl) rfl hl.1 rfl (Nat.le_of_ble_eq_true rfl) dX3_dogsAheadInStanding_24 ⟨Nat.zero_le _, Nat.zero_le _⟩ (fun z1 M2 H locs hp_24 hG => ?_)
          obtain ⟨hz_24, hM_24⟩ := hp_24; replace hz_24 := hz_24.symm; subst hz_24; replace hM_24 := hM_24.symm; subst hM_24
          refine z_ifP_eq (tgt := 33) hx hb dX3_dogsAheadInStanding_27 (by decide) (fun c_27 => ?_) (fun c_27 => ?_)
          · skip
            refine z_iinc (z := ((k : Int) + 1)) (lv' := [(3, .int (iZ ((k : Int) + 1))), (2, .int (iZ (q_ct (fun j => decide (q_hs R j = 1) && q_ah R j i) k))), (0, .ref (gad G t)), (1, .int (iZ (i : Int)))]) hx hb dX3_dogsAheadInStanding_33 hl (k := 0) rfl (by omega) (by decide) rfl (fun ls hl => ?_)
            refine lv_goto (tgt := 4) hx hb dX3_dogsAheadInStanding_36 (by decide) ?_
            exact ih_4 (k + 1) ((k : Int) + 1) (q_ct (fun j => decide (q_hs R j = 1) && q_ah R j i) k)  (by omega) (by rw [q_ct]; first | (rw [if_pos (by first | assumption | exact decide_eq_true (by omega) | (simp_all; done))] <;> omega) | (rw [if_neg (by first | assumption | (intro h9; have h8 := of_decide_eq_true h9; omega) | (simp_all; done))] <;> omega)) (by omega) (by omega) _ _ _ hG (lv_sub hl [0, 1, 2, 3] rfl)
          · skip
            refine z_iinc (z := ((q_ct (fun j => decide (q_hs R j = 1) && q_ah R j i) k) + 1)) (lv' := [(2, .int (iZ ((q_ct (fun j => decide (q_hs R j = 1) && q_ah R j i) k) + 1))), (3, .int (iZ (k : Int))), (0, .ref (gad G t)), (1, .int (iZ (i : Int)))]) hx hb dX3_dogsAheadInStanding_30 hl (k := 1) rfl (by omega) (by decide) rfl (fun ls hl => ?_)
            refine z_iinc (z := ((k : Int) + 1)) (lv' := [(3, .int (iZ ((k : Int) + 1))), (2, .int (iZ ((q_ct (fun j => decide (q_hs R j = 1) && q_ah R j i) k) + 1))), (0, .ref (gad G t)), (1, .int (iZ (i : Int)))]) hx hb dX3_dogsAheadInStanding_33 hl (k := 1) rfl (by omega) (by decide) rfl (fun ls hl => ?_)
            refine lv_goto (tgt := 4) hx hb dX3_dogsAheadInStanding_36 (by decide) ?_
            exact ih_4 (k + 1) ((k : Int) + 1) ((q_ct (fun j => decide (q_hs R j = 1) && q_ah R j i) k) + 1)  (by omega) (by rw [q_ct]; first | (rw [if_pos (by first | assumption | exact decide_eq_true (by omega) | (simp_all; done))] <;> omega) | (rw [if_neg (by first | assumption | (intro h9; have h8 := of_decide_eq_true h9; omega) | (simp_all; done))] <;> omega)) (by omega) (by omega) _ _ _ hG (lv_sub hl [0, 1, 2, 3] rfl)
  exact L_4 _ 0 0 0  rfl rfl (by omega) (Nat.lt_succ_self _) _ _ _ hG (lv_sub hl [0, 1, 2, 3] rfl)
set_option maxHeartbeats 4000000 in
set_option maxRecDepth 100000 in
theorem c_X3_dogWithDraw (l : Launch) (G : gG) (M : Nat → Nat → Int) (hdm : ∀ k, k < 169 → gdm G k) (t : Nat) (hT : isT t) (R : Nat → Int) (hR : q_tr M t R) (hI : q_inv R) (d : Int) (hd : 1 ≤ d ∧ d ≤ 99) : gMi l yX3_dogWithDraw wsX3_dogWithDraw ({ frames := 0, cells := 0, slots := 0, locals := 0 } : Room) G M [.ref (gad G t), .int (iZ d)] (fun z M1 => ((z = -9 ∧ q_dn R d (-9) (q_nd R).toNat = false) ∨ ∃ i : Nat, (i : Int) < q_nd R ∧ z = (i : Int) ∧ q_dr R i = d) ∧ M1 = M) := by
  refine gMi_of (cc := cX3_dogWithDraw) (maxL := 3) (ret := some .int) (by decide) rfl (Nat.le_of_ble_eq_true rfl) ?_
  intro p e s m below meth c ls hx hb hr hml hown hts hlocks hl hG
  have hown : s.vm.findClass RX3 = some m.cls := hown
  have hl : lv_has ls 3 [(0, .ref (gad G t)), (1, .int (iZ d))] := hl
  have hd_t : ∀ r, r < 8 → gdm G (t + r) := fun r hr => hdm _ (by have h1 := (hT).1; have h2 := (hT).2; omega)
  have hinX3 : ∀ w ∈ u_ws RX3 TX3 15, w ∈ wsX3_dogWithDraw := by decide +kernel
  have f15 := hts (.fieldLink RX3 15 "DogTrials$Trial" "draws" "[I") (by decide +kernel)
  have f37 := hts (.fieldLink RX3 37 "DogTrials$Trial" "dogs" "I") (by decide +kernel)
  have hnd := hI.1
  refine lv_iconst (v := iZ 0) hx hb dX3_dogWithDraw_0 rfl ?_
  refine lv_istore_n (lv' := [(2, .int (iZ 0)), (0, .ref (gad G t)), (1, .int (iZ d))]) hx hb dX3_dogWithDraw_1 rfl hl (by decide) rfl (fun ls hl => ?_)
  have L_2 : ∀ (n_2 : Nat) (k : Nat) (x_i : Int), (x_i = (k : Int)) → ((k : Int) ≤ q_nd R) → ((∀ i : Nat, i < k → q_dr R i ≠ d)) → 12 - k < n_2 → ∀ (H : Heap) (locs : List Loc) (ls : Array Slot), gH G M s H locs → lv_has ls 3 [(2, .int (iZ x_i)), (0, .ref (gad G t)), (1, .int (iZ d))] → W p l e ({ frames := 0, cells := 0, slots := 0, locals := 0 } : Room) s m [.ref (gad G t), .int (iZ d)].toArray below meth c H locs 0 0 (MQ below (va_Qi (fun r (u : Int × (Nat → Nat → Int)) => r = iZ u.1 ∧ (fun z M1 => ((z = -9 ∧ q_dn R d (-9) (q_nd R).toNat = false) ∨ ∃ i : Nat, (i : Int) < q_nd R ∧ z = (i : Int) ∧ q_dr R i = d) ∧ M1 = M) u.1 u.2) (fun u U => gB G u.2 U) (gA G)) [.ref (gad G t), .int (iZ d)].toArray s 0 0 (gA G)) (F0 m 2 ls []) := by
    intro n_2
    induction n_2 with
    | zero => intro k x_i he_x_i hk hno hm_2; exact absurd hm_2 (Nat.not_lt_zero _)
    | succ n_2 ih_2 =>
      intro k x_i he_x_i hk hno hm_2 H locs ls hG hl
      subst he_x_i
      have hdk : (k : Int) < q_nd R → q_dogok R k := hI.2.1 k
      have hdok := dok hI k
      refine lv_iload_n hx hb dX3_dogWithDraw_2 rfl (lv_at hl 0 rfl) ?_
      refine lv_aload_n hx hb dX3_dogWithDraw_3 rfl (lv_at hl 1 rfl) ?_
      refine g_geti (z := (q_nd R)) hx hb hts hinX3 hown hG (o := t) (hd_t 0 (by decide)) (gE_T hT G _) rfl 0 (by decide) f37 (fun _ h => h) rfl (tr_nd hR) dX3_dogWithDraw_4 ?_
      refine z_icmp_ge (tgt := 28) hx hb (by omega) (by omega) dX3_dogWithDraw_7 (by decide) (fun c_7 => ?_) (fun c_7 => ?_)
      · skip
        refine lv_bipush (v := iZ (-9)) hx hb dX3_dogWithDraw_28 (by decide) ?_
        exact g_iret (post := fun z M1 => ((z = -9 ∧ q_dn R d (-9) (q_nd R).toNat = false) ∨ ∃ i : Nat, (i : Int) < q_nd R ∧ z = (i : Int) ∧ q_dr R i = d) ∧ M1 = M) (z := (-9)) hx hb hr hG hlocks (⟨Or.inl ⟨rfl, q_dn_no (fun i h _ => hno i (by omega))⟩, rfl⟩) dX3_dogWithDraw_30
      · skip
        have hdo := hdk (by omega)
        unfold q_dogok at hdo
        refine lv_aload_n hx hb dX3_dogWithDraw_10 rfl (lv_at hl 1 rfl) ?_
        refine g_get hx hb hts hinX3 hown hG (o := t) (hd_t 0 (by decide)) (gE_T hT G _) rfl 2 (by decide) f15 (fun _ h => h) rfl dX3_dogWithDraw_11 ?_
        refine lv_iload_n hx hb dX3_dogWithDraw_14 rfl (lv_at hl 0 rfl) ?_
        refine g_iald (z := (q_dr R k)) (j := k) hx hb hG (o := (t + 2)) (hd_t 2 (by decide)) (gE_tI hT 2 (by decide) G _) (by omega) (by omega) (by omega) (tr_dr hR (i := k) (by omega)) dX3_dogWithDraw_15 ?_
        refine lv_iload_n hx hb dX3_dogWithDraw_16 rfl (lv_at hl 2 rfl) ?_
        refine z_icmp_ne (tgt := 22) hx hb (by omega) (by omega) dX3_dogWithDraw_17 (by decide) (fun c_17 => ?_) (fun c_17 => ?_)
        · skip
          refine z_iinc (z := ((k : Int) + 1)) (lv' := [(2, .int (iZ ((k : Int) + 1))), (0, .ref (gad G t)), (1, .int (iZ d))]) hx hb dX3_dogWithDraw_22 hl (k := 0) rfl (by omega) (by decide) rfl (fun ls hl => ?_)
          refine lv_goto (tgt := 2) hx hb dX3_dogWithDraw_25 (by decide) ?_
          exact ih_2 (k + 1) ((k : Int) + 1)  (by omega) (by omega) (fun i h => by rcases (show i < k ∨ i = k by omega) with h | h; exact hno i h; (subst h; omega)) (by omega) _ _ _ hG (lv_sub hl [0, 1, 2] rfl)
        · skip
          refine lv_iload_n hx hb dX3_dogWithDraw_20 rfl (lv_at hl 0 rfl) ?_
          exact g_iret (post := fun z M1 => ((z = -9 ∧ q_dn R d (-9) (q_nd R).toNat = false) ∨ ∃ i : Nat, (i : Int) < q_nd R ∧ z = (i : Int) ∧ q_dr R i = d) ∧ M1 = M) (z := (k : Int)) hx hb hr hG hlocks (⟨Or.inr ⟨k, by omega, rfl, by omega⟩, rfl⟩) dX3_dogWithDraw_21
  exact L_2 _ 0 0  rfl (by omega) (fun i h => absurd h (Nat.not_lt_zero _)) (Nat.lt_succ_self _) _ _ _ hG (lv_sub hl [0, 1, 2] rfl)
