set_option maxHeartbeats 4000000 in
set_option maxRecDepth 100000 in
theorem c_X1_isEmpty (l : Launch) (G : gG) (M : Nat → Nat → Int) (hdm : ∀ k, k < 169 → gdm G k) (n : Nat) (hn : n ≤ 14) (h2 : M 165 2 = (n : Int)) : gMi l yX1_isEmpty wsX1_isEmpty ({ frames := 0, cells := 0, slots := 0, locals := 0 } : Room) G M [.ref (gad G 165)] (fun z M1 => z = (if n = 0 then 1 else 0) ∧ M1 = M) := by
  refine gMi_of (cc := cX1_isEmpty) (maxL := 1) (ret := some .boolean) (by decide) rfl (Nat.le_of_ble_eq_true rfl) ?_
  intro p e s m below meth c ls hx hb hr hml hown hts hlocks hl hG
  have hown : s.vm.findClass RX1 = some m.cls := hown
  have hl : lv_has ls 1 [(0, .ref (gad G 165))] := hl
  have hinX1 : ∀ w ∈ u_ws RX1 TX1 3, w ∈ wsX1_isEmpty := by decide +kernel
  have f18 := hts (.fieldLink RX1 18 "DogTrials$Memory" "count" "I") (by decide +kernel)
  refine lv_aload_n hx hb dX1_isEmpty_0 rfl (lv_at hl 0 rfl) ?_
  refine g_geti (z := (n : Int)) hx hb hts hinX1 hown hG (o := 165) (hdm 165 (by decide)) rfl rfl 2 (by decide) f18 (fun _ h => h) rfl h2 dX1_isEmpty_1 ?_
  refine z_if_ne (tgt := 11) hx hb (by omega) dX1_isEmpty_4 (by decide) (fun c_4 => ?_) (fun c_4 => ?_)
  · skip
    refine lv_iconst (v := iZ 0) hx hb dX1_isEmpty_11 rfl ?_
    exact g_zret (post := fun z M1 => z = (if n = 0 then 1 else 0) ∧ M1 = M) (z := 0) hx hb hr hG hlocks (Or.inl rfl) (⟨by first | rfl | omega, rfl⟩) dX1_isEmpty_12
  · skip
    refine lv_iconst (v := iZ 1) hx hb dX1_isEmpty_7 rfl ?_
    refine lv_goto (tgt := 12) hx hb dX1_isEmpty_8 (by decide) ?_
    exact g_zret (post := fun z M1 => z = (if n = 0 then 1 else 0) ∧ M1 = M) (z := 1) hx hb hr hG hlocks (Or.inr rfl) (⟨by first | rfl | omega, rfl⟩) dX1_isEmpty_12
set_option maxHeartbeats 4000000 in
set_option maxRecDepth 100000 in
theorem c_X1_forgetAll (l : Launch) (G : gG) (M : Nat → Nat → Int) (hdm : ∀ k, k < 169 → gdm G k) : gMv l yX1_forgetAll wsX1_forgetAll ({ frames := 0, cells := 0, slots := 0, locals := 0 } : Room) G M [.ref (gad G 165)] (fun M1 => M1 = q_wr M 165 2 0) := by
  refine gMv_of (cc := cX1_forgetAll) (maxL := 1) (ret := none) (by decide) rfl (Nat.le_of_ble_eq_true rfl) ?_
  intro p e s m below meth c ls hx hb hr hml hown hts hlocks hl hG
  have hown : s.vm.findClass RX1 = some m.cls := hown
  have hl : lv_has ls 1 [(0, .ref (gad G 165))] := hl
  have hinX1 : ∀ w ∈ u_ws RX1 TX1 3, w ∈ wsX1_forgetAll := by decide +kernel
  have f18 := hts (.fieldLink RX1 18 "DogTrials$Memory" "count" "I") (by decide +kernel)
  refine lv_aload_n hx hb dX1_forgetAll_0 rfl (lv_at hl 0 rfl) ?_
  refine lv_iconst (v := iZ 0) hx hb dX1_forgetAll_1 rfl ?_
  refine g_put (F := (oM G)) hx hb hts hinX1 tyX1 tyX1_ok nmX1 hown hG (o := 165) (hdm 165 (by decide)) (fun f => rfl) rfl 2 (by decide) f18 (fun _ h => h) rfl rfl (fun _ => Nat.lt_of_lt_of_le (by decide) (Nat.le_refl 3)) (fun _ => rfl) dX1_forgetAll_2 (fun H locs hG => ?_)
  obtain ⟨M1, hM1⟩ : ∃ X, X = (q_wr M 165 2 0) := ⟨_, rfl⟩
  rw [← hM1] at hG
  exact g_vret hx hb hr hG hlocks (hM1) dX1_forgetAll_5
set_option maxHeartbeats 4000000 in
set_option maxRecDepth 100000 in
theorem c_X1_remember (l : Launch) (G : gG) (M : Nat → Nat → Int) (hdm : ∀ k, k < 169 → gdm G k) (R : Nat → Int) (hR : q_tr M 0 R) (hI : q_inv R) (o n : Nat) (ho : o < 14) (hn : n ≤ 14) (h1 : M 165 1 = (o : Int)) (h2 : M 165 2 = (n : Int)) : gMv l yX1_remember wsX1_remember ({ frames := 2, cells := 0, slots := 0, locals := 70 } : Room) G M [.ref (gad G 165), .ref (gad G 0)] (fun M1 => M1 165 1 = (q_ro o n : Int) ∧ M1 165 2 = ((q_rn n + 1 : Nat) : Int) ∧ q_tr M1 (q_slot (q_ro o n) (q_rn n)) R ∧ ∀ a, a ≠ 165 → (a < q_slot (q_ro o n) (q_rn n) ∨ q_slot (q_ro o n) (q_rn n) + 8 ≤ a) → M1 a = M a) := by
  refine gMv_of (cc := cX1_remember) (maxL := 2) (ret := none) (by decide) rfl (Nat.le_of_ble_eq_true rfl) ?_
  intro p e s m below meth c ls hx hb hr hml hown hts hlocks hl hG
  have hown : s.vm.findClass RX1 = some m.cls := hown
  have hl : lv_has ls 2 [(0, .ref (gad G 165)), (1, .ref (gad G 0))] := hl
  have hinX1 : ∀ w ∈ u_ws RX1 TX1 3, w ∈ wsX1_remember := by decide +kernel
  have f11 := hts (.fieldLink RX1 11 "DogTrials$Memory" "states" "[LDogTrials$Trial;") (by decide +kernel)
  have f18 := hts (.fieldLink RX1 18 "DogTrials$Memory" "count" "I") (by decide +kernel)
  have f22 := hts (.fieldLink RX1 22 "DogTrials$Memory" "oldest" "I") (by decide +kernel)
  refine lv_aload_n hx hb dX1_remember_0 rfl (lv_at hl 0 rfl) ?_
  refine g_geti (z := (n : Int)) hx hb hts hinX1 hown hG (o := 165) (hdm 165 (by decide)) rfl rfl 2 (by decide) f18 (fun _ h => h) rfl h2 dX1_remember_1 ?_
  refine lv_bipush (v := iZ (14)) hx hb dX1_remember_4 (by decide) ?_
  refine z_icmp_ne (tgt := 32) hx hb (by omega) (by decide) dX1_remember_6 (by decide) (fun c_6 => ?_) (fun c_6 => ?_)
  · skip
    refine lv_aload_n hx hb dX1_remember_32 rfl (lv_at hl 0 rfl) ?_
    refine g_get hx hb hts hinX1 hown hG (o := 165) (hdm 165 (by decide)) rfl rfl 0 (by decide) f11 (fun _ h => h) rfl dX1_remember_33 ?_
    refine lv_aload_n hx hb dX1_remember_36 rfl (lv_at hl 0 rfl) ?_
    refine g_geti (z := (o : Int)) hx hb hts hinX1 hown hG (o := 165) (hdm 165 (by decide)) rfl rfl 1 (by decide) f22 (fun _ h => h) rfl h1 dX1_remember_37 ?_
    refine lv_aload_n hx hb dX1_remember_40 rfl (lv_at hl 0 rfl) ?_
    refine g_geti (z := (n : Int)) hx hb hts hinX1 hown hG (o := 165) (hdm 165 (by decide)) rfl rfl 2 (by decide) f18 (fun _ h => h) rfl h2 dX1_remember_41 ?_
    refine z_iadd (z := ((o : Int) + (n : Int))) hx hb (by omega) dX1_remember_44 ?_
    refine lv_bipush (v := iZ (14)) hx hb dX1_remember_45 (by decide) ?_
    refine z_irem (z := (((o + n) % 14) : Int)) hx hb (by omega) (by omega) (by omega) dX1_remember_47 ?_
    obtain ⟨u, hu_u⟩ : ∃ u9, u9 = q_slot (q_ro o n) (q_rn n) := ⟨_, rfl⟩
    have hTu := q_slot_T (q_ro o n) (q_rn n)
    have hiu := q_slot_in (q_ro o n) (q_rn n)
    rw [← hu_u] at hTu hiu
    have hT_u : isT u := hTu
    have hju : u = 8 * (5 + (((o + n) % 14))) := by rw [hu_u]; unfold q_slot q_ro q_rn; first | (rw [if_pos (by omega), if_pos (by omega)]) | (rw [if_neg (by omega), if_neg (by omega)])
    refine g_aald (n := 14) (j := (((o + n) % 14))) (t := u) hx hb hG (o := 166) (hdm 166 (by decide)) rfl (by omega) (by omega) (by omega) hju.symm dX1_remember_48 ?_
    have hd_u : ∀ r, r < 8 → gdm G (u + r) := fun r hr => hdm _ (by have h1 := hT_u.1; omega)
    refine lv_aload_n hx hb dX1_remember_49 rfl (lv_at hl 1 rfl) ?_
    refine g_vcallV (b := u) (As := [.ref (gad G 0)]) (rest := []) ⟨hx, hb, hml, hown, hts⟩ (c_X3_copyFrom l G M hdm u hT_u 0 ⟨by decide, by decide⟩ (by omega) R hR hI) (cwV 1 hts gX1_remember_X3_copyFrom rfl rfl rfl (by decide +kernel) ⟨Nat.le_of_ble_eq_true rfl, Nat.le_of_ble_eq_true rfl⟩) hG (g_recv hG (b := u) (hd_u 0 (by decide)) (gE_T hT_u G _) rfl) rfl hl.1 rfl (Nat.le_of_ble_eq_true rfl) dX1_remember_50 ⟨Nat.zero_le _, Nat.zero_le _⟩ (fun M2 H locs hp_50 hG => ?_)
    obtain ⟨ht_M2, ho_M2⟩ := hp_50
    have hR_M2 : q_tr M2 0 R := q_tr_off hR ho_M2 (by omega)
    refine lv_aload_n hx hb dX1_remember_53 rfl (lv_at hl 0 rfl) ?_
    refine lv_dup hx hb dX1_remember_54 rfl ?_
    refine g_geti (z := (n : Int)) hx hb hts hinX1 hown hG (o := 165) (hdm 165 (by decide)) rfl rfl 2 (by decide) f18 (fun _ h => h) rfl (by rw [ho_M2 165 (by omega)]; exact h2) dX1_remember_55 ?_
    refine lv_iconst (v := iZ 1) hx hb dX1_remember_58 rfl ?_
    refine z_iadd (z := ((n : Int) + 1)) hx hb (by omega) dX1_remember_59 ?_
    refine g_put (F := (oM G)) hx hb hts hinX1 tyX1 tyX1_ok nmX1 hown hG (o := 165) (hdm 165 (by decide)) (fun f => rfl) rfl 2 (by decide) f18 (fun _ h => h) rfl rfl (fun _ => Nat.lt_of_lt_of_le (by decide) (Nat.le_refl 3)) (fun _ => rfl) dX1_remember_60 (fun H locs hG => ?_)
    obtain ⟨M3, hM3⟩ : ∃ X, X = (q_wr M2 165 2 ((n : Int) + 1)) := ⟨_, rfl⟩
    rw [← hM3] at hG
    have hR_M2__M3 : q_tr M3 0 R := by rw [hM3]; exact tr_wr hR_M2 (by omega)
    have ht_M2__M3 : q_tr M3 u R := by rw [hM3]; exact tr_wr ht_M2 (by omega)
    have p1 : M3 165 1 = (q_ro o n : Int) := by rw [hM3, wr_ne _ _ _ (by decide), ho_M2 165 (by omega)]; unfold q_ro; first | (rw [if_pos (by omega)]; omega) | (rw [if_neg (by omega)]; omega)
    have p2 : M3 165 2 = ((q_rn n + 1 : Nat) : Int) := by rw [hM3, wr_eq]; unfold q_rn; first | (rw [if_pos (by omega)]; omega) | (rw [if_neg (by omega)]; omega)
    have p3 : q_tr M3 u R := by rw [hM3]; exact tr_wr ht_M2 (by omega)
    have p4 : ∀ a, a ≠ 165 → (a < u ∨ u + 8 ≤ a) → M3 a = M a := fun a h9 h8 => by rw [hM3, wr_off _ _ _ h9, ho_M2 a h8]
    exact g_vret hx hb hr hG hlocks (⟨p1, p2, by rw [← hu_u]; exact p3, by rw [← hu_u]; exact p4⟩) dX1_remember_63
  · skip
    refine lv_aload_n hx hb dX1_remember_9 rfl (lv_at hl 0 rfl) ?_
    refine lv_aload_n hx hb dX1_remember_10 rfl (lv_at hl 0 rfl) ?_
    refine g_geti (z := (o : Int)) hx hb hts hinX1 hown hG (o := 165) (hdm 165 (by decide)) rfl rfl 1 (by decide) f22 (fun _ h => h) rfl h1 dX1_remember_11 ?_
    refine lv_iconst (v := iZ 1) hx hb dX1_remember_14 rfl ?_
    refine z_iadd (z := ((o : Int) + 1)) hx hb (by omega) dX1_remember_15 ?_
    refine lv_bipush (v := iZ (14)) hx hb dX1_remember_16 (by decide) ?_
    refine z_irem (z := (((o + 1) % 14) : Int)) hx hb (by omega) (by omega) (by omega) dX1_remember_18 ?_
    refine g_put (F := (oM G)) hx hb hts hinX1 tyX1 tyX1_ok nmX1 hown hG (o := 165) (hdm 165 (by decide)) (fun f => rfl) rfl 1 (by decide) f22 (fun _ h => h) rfl rfl (fun _ => Nat.lt_of_lt_of_le (by decide) (Nat.le_refl 3)) (fun _ => rfl) dX1_remember_19 (fun H locs hG => ?_)
    obtain ⟨M4, hM4⟩ : ∃ X, X = (q_wr M 165 1 (((o + 1) % 14) : Int)) := ⟨_, rfl⟩
    rw [← hM4] at hG
    have hR__M4 : q_tr M4 0 R := by rw [hM4]; exact tr_wr hR (by omega)
    refine lv_aload_n hx hb dX1_remember_22 rfl (lv_at hl 0 rfl) ?_
    refine lv_dup hx hb dX1_remember_23 rfl ?_
    refine g_geti (z := (n : Int)) hx hb hts hinX1 hown hG (o := 165) (hdm 165 (by decide)) rfl rfl 2 (by decide) f18 (fun _ h => h) rfl (by rw [hM4, wr_ne _ _ _ (by decide)]; exact h2) dX1_remember_24 ?_
    refine lv_iconst (v := iZ 1) hx hb dX1_remember_27 rfl ?_
    refine z_isub (z := ((n : Int) - 1)) hx hb (by omega) dX1_remember_28 ?_
    refine g_put (F := (oM G)) hx hb hts hinX1 tyX1 tyX1_ok nmX1 hown hG (o := 165) (hdm 165 (by decide)) (fun f => rfl) rfl 2 (by decide) f18 (fun _ h => h) rfl rfl (fun _ => Nat.lt_of_lt_of_le (by decide) (Nat.le_refl 3)) (fun _ => rfl) dX1_remember_29 (fun H locs hG => ?_)
    obtain ⟨M5, hM5⟩ : ∃ X, X = (q_wr M4 165 2 ((n : Int) - 1)) := ⟨_, rfl⟩
    rw [← hM5] at hG
    have hR__M5 : q_tr M5 0 R := by rw [hM5]; exact tr_wr hR__M4 (by omega)
    refine lv_aload_n hx hb dX1_remember_32 rfl (lv_at hl 0 rfl) ?_
    refine g_get hx hb hts hinX1 hown hG (o := 165) (hdm 165 (by decide)) rfl rfl 0 (by decide) f11 (fun _ h => h) rfl dX1_remember_33 ?_
    refine lv_aload_n hx hb dX1_remember_36 rfl (lv_at hl 0 rfl) ?_
    refine g_geti (z := (((o + 1) % 14) : Int)) hx hb hts hinX1 hown hG (o := 165) (hdm 165 (by decide)) rfl rfl 1 (by decide) f22 (fun _ h => h) rfl (by rw [hM5, wr_ne _ _ _ (by decide), hM4, wr_eq] <;> omega) dX1_remember_37 ?_
    refine lv_aload_n hx hb dX1_remember_40 rfl (lv_at hl 0 rfl) ?_
    refine g_geti (z := 13) hx hb hts hinX1 hown hG (o := 165) (hdm 165 (by decide)) rfl rfl 2 (by decide) f18 (fun _ h => h) rfl (by rw [hM5, wr_eq] <;> omega) dX1_remember_41 ?_
    refine z_iadd (z := ((((o + 1) % 14) : Int) + 13)) hx hb (by omega) dX1_remember_44 ?_
    refine lv_bipush (v := iZ (14)) hx hb dX1_remember_45 (by decide) ?_
    refine z_irem (z := (((((o + 1) % 14) + 13) % 14) : Int)) hx hb (by omega) (by omega) (by omega) dX1_remember_47 ?_
    obtain ⟨u, hu_u⟩ : ∃ u9, u9 = q_slot (q_ro o n) (q_rn n) := ⟨_, rfl⟩
    have hTu := q_slot_T (q_ro o n) (q_rn n)
    have hiu := q_slot_in (q_ro o n) (q_rn n)
    rw [← hu_u] at hTu hiu
    have hT_u : isT u := hTu
    have hju : u = 8 * (5 + (((((o + 1) % 14) + 13) % 14))) := by rw [hu_u]; unfold q_slot q_ro q_rn; first | (rw [if_pos (by omega), if_pos (by omega)]) | (rw [if_neg (by omega), if_neg (by omega)])
    refine g_aald (n := 14) (j := (((((o + 1) % 14) + 13) % 14))) (t := u) hx hb hG (o := 166) (hdm 166 (by decide)) rfl (by omega) (by omega) (by omega) hju.symm dX1_remember_48 ?_
    have hd_u : ∀ r, r < 8 → gdm G (u + r) := fun r hr => hdm _ (by have h1 := hT_u.1; omega)
    refine lv_aload_n hx hb dX1_remember_49 rfl (lv_at hl 1 rfl) ?_
    refine g_vcallV (b := u) (As := [.ref (gad G 0)]) (rest := []) ⟨hx, hb, hml, hown, hts⟩ (c_X3_copyFrom l G M5 hdm u hT_u 0 ⟨by decide, by decide⟩ (by omega) R hR__M5 hI) (cwV 1 hts gX1_remember_X3_copyFrom rfl rfl rfl (by decide +kernel) ⟨Nat.le_of_ble_eq_true rfl, Nat.le_of_ble_eq_true rfl⟩) hG (g_recv hG (b := u) (hd_u 0 (by decide)) (gE_T hT_u G _) rfl) rfl hl.1 rfl (Nat.le_of_ble_eq_true rfl) dX1_remember_50 ⟨Nat.zero_le _, Nat.zero_le _⟩ (fun M7 H locs hp_50 hG => ?_)
    obtain ⟨ht_M7, ho_M7⟩ := hp_50
    have hR__M5_M7 : q_tr M7 0 R := q_tr_off hR__M5 ho_M7 (by omega)
    refine lv_aload_n hx hb dX1_remember_53 rfl (lv_at hl 0 rfl) ?_
    refine lv_dup hx hb dX1_remember_54 rfl ?_
    refine g_geti (z := 13) hx hb hts hinX1 hown hG (o := 165) (hdm 165 (by decide)) rfl rfl 2 (by decide) f18 (fun _ h => h) rfl (by rw [ho_M7 165 (by omega), hM5, wr_eq]; omega) dX1_remember_55 ?_
    refine lv_iconst (v := iZ 1) hx hb dX1_remember_58 rfl ?_
    refine z_iadd (z := 14) hx hb (by omega) dX1_remember_59 ?_
    refine g_put (F := (oM G)) hx hb hts hinX1 tyX1 tyX1_ok nmX1 hown hG (o := 165) (hdm 165 (by decide)) (fun f => rfl) rfl 2 (by decide) f18 (fun _ h => h) rfl rfl (fun _ => Nat.lt_of_lt_of_le (by decide) (Nat.le_refl 3)) (fun _ => rfl) dX1_remember_60 (fun H locs hG => ?_)
    obtain ⟨M8, hM8⟩ : ∃ X, X = (q_wr M7 165 2 14) := ⟨_, rfl⟩
    rw [← hM8] at hG
    have hR__M8 : q_tr M8 0 R := by rw [hM8]; exact tr_wr hR__M5_M7 (by omega)
    have ht_M7__M8 : q_tr M8 u R := by rw [hM8]; exact tr_wr ht_M7 (by omega)
    have p1 : M8 165 1 = (q_ro o n : Int) := by rw [hM8, wr_ne _ _ _ (by decide), ho_M7 165 (by omega), hM5, wr_ne _ _ _ (by decide), hM4, wr_eq]; unfold q_ro; first | (rw [if_pos (by omega)]; omega) | (rw [if_neg (by omega)]; omega)
    have p2 : M8 165 2 = ((q_rn n + 1 : Nat) : Int) := by rw [hM8, wr_eq]; unfold q_rn; first | (rw [if_pos (by omega)]; omega) | (rw [if_neg (by omega)]; omega)
    have p3 : q_tr M8 u R := by rw [hM8]; exact tr_wr ht_M7 (by omega)
    have p4 : ∀ a, a ≠ 165 → (a < u ∨ u + 8 ≤ a) → M8 a = M a := fun a h9 h8 => by rw [hM8, wr_off _ _ _ h9, ho_M7 a h8, hM5, wr_off _ _ _ h9, hM4, wr_off _ _ _ h9]
    exact g_vret hx hb hr hG hlocks (⟨p1, p2, by rw [← hu_u]; exact p3, by rw [← hu_u]; exact p4⟩) dX1_remember_63
set_option maxHeartbeats 4000000 in
set_option maxRecDepth 100000 in
theorem c_X1_takeBack (l : Launch) (G : gG) (M : Nat → Nat → Int) (hdm : ∀ k, k < 169 → gdm G k) (R : Nat → Int) (o n : Nat) (ho : o < 14) (hn0 : 0 < n) (hn : n ≤ 14) (h1 : M 165 1 = (o : Int)) (h2 : M 165 2 = (n : Int)) (hR : q_tr M (q_slot o (n - 1)) R) (hI : q_inv R) : gMi l yX1_takeBack wsX1_takeBack ({ frames := 2, cells := 0, slots := 0, locals := 70 } : Room) G M [.ref (gad G 165), .ref (gad G 0)] (fun z M1 => z = (n : Int) - 1 ∧ M1 165 1 = (o : Int) ∧ M1 165 2 = ((n - 1 : Nat) : Int) ∧ q_tr M1 0 R ∧ ∀ a, a ≠ 165 → 8 ≤ a → M1 a = M a) := by
  refine gMi_of (cc := cX1_takeBack) (maxL := 2) (ret := some .int) (by decide) rfl (Nat.le_of_ble_eq_true rfl) ?_
  intro p e s m below meth c ls hx hb hr hml hown hts hlocks hl hG
  have hown : s.vm.findClass RX1 = some m.cls := hown
  have hl : lv_has ls 2 [(0, .ref (gad G 165)), (1, .ref (gad G 0))] := hl
  have hinX1 : ∀ w ∈ u_ws RX1 TX1 3, w ∈ wsX1_takeBack := by decide +kernel
  have f11 := hts (.fieldLink RX1 11 "DogTrials$Memory" "states" "[LDogTrials$Trial;") (by decide +kernel)
  have f18 := hts (.fieldLink RX1 18 "DogTrials$Memory" "count" "I") (by decide +kernel)
  have f22 := hts (.fieldLink RX1 22 "DogTrials$Memory" "oldest" "I") (by decide +kernel)
  refine lv_aload_n hx hb dX1_takeBack_0 rfl (lv_at hl 0 rfl) ?_
  refine g_geti (z := (n : Int)) hx hb hts hinX1 hown hG (o := 165) (hdm 165 (by decide)) rfl rfl 2 (by decide) f18 (fun _ h => h) rfl h2 dX1_takeBack_1 ?_
  refine z_if_le (tgt := 38) hx hb (by omega) dX1_takeBack_4 (by decide) (fun c_4 => ?_) (fun c_4 => ?_)
  · exfalso; omega
  · skip
    refine lv_aload_n hx hb dX1_takeBack_7 rfl (lv_at hl 0 rfl) ?_
    refine lv_dup hx hb dX1_takeBack_8 rfl ?_
    refine g_geti (z := (n : Int)) hx hb hts hinX1 hown hG (o := 165) (hdm 165 (by decide)) rfl rfl 2 (by decide) f18 (fun _ h => h) rfl h2 dX1_takeBack_9 ?_
    refine lv_iconst (v := iZ 1) hx hb dX1_takeBack_12 rfl ?_
    refine z_isub (z := ((n : Int) - 1)) hx hb (by omega) dX1_takeBack_13 ?_
    refine g_put (F := (oM G)) hx hb hts hinX1 tyX1 tyX1_ok nmX1 hown hG (o := 165) (hdm 165 (by decide)) (fun f => rfl) rfl 2 (by decide) f18 (fun _ h => h) rfl rfl (fun _ => Nat.lt_of_lt_of_le (by decide) (Nat.le_refl 3)) (fun _ => rfl) dX1_takeBack_14 (fun H locs hG => ?_)
    obtain ⟨M1, hM1⟩ : ∃ X, X = (q_wr M 165 2 ((n : Int) - 1)) := ⟨_, rfl⟩
    rw [← hM1] at hG
    refine lv_aload_n hx hb dX1_takeBack_17 rfl (lv_at hl 1 rfl) ?_
    refine lv_aload_n hx hb dX1_takeBack_18 rfl (lv_at hl 0 rfl) ?_
    refine g_get hx hb hts hinX1 hown hG (o := 165) (hdm 165 (by decide)) rfl rfl 0 (by decide) f11 (fun _ h => h) rfl dX1_takeBack_19 ?_
    refine lv_aload_n hx hb dX1_takeBack_22 rfl (lv_at hl 0 rfl) ?_
    refine g_geti (z := (o : Int)) hx hb hts hinX1 hown hG (o := 165) (hdm 165 (by decide)) rfl rfl 1 (by decide) f22 (fun _ h => h) rfl (by rw [hM1, wr_ne _ _ _ (by decide)]; exact h1) dX1_takeBack_23 ?_
    refine lv_aload_n hx hb dX1_takeBack_26 rfl (lv_at hl 0 rfl) ?_
    refine g_geti (z := ((n - 1) : Int)) hx hb hts hinX1 hown hG (o := 165) (hdm 165 (by decide)) rfl rfl 2 (by decide) f18 (fun _ h => h) rfl (by rw [hM1, wr_eq] <;> omega) dX1_takeBack_27 ?_
    refine z_iadd (z := ((o : Int) + ((n - 1) : Int))) hx hb (by omega) dX1_takeBack_30 ?_
    refine lv_bipush (v := iZ (14)) hx hb dX1_takeBack_31 (by decide) ?_
    refine z_irem (z := (((o + (n - 1)) % 14) : Int)) hx hb (by omega) (by omega) (by omega) dX1_takeBack_33 ?_
    obtain ⟨u, hu_u⟩ : ∃ u9, u9 = q_slot o (n - 1) := ⟨_, rfl⟩
    have hTu := q_slot_T o (n - 1)
    have hiu := q_slot_in o (n - 1)
    rw [← hu_u] at hTu hiu
    have hT_u : isT u := hTu
    have hRu : q_tr M1 u R := by rw [hM1, hu_u]; exact tr_wr hR (by have := q_slot_in o (n - 1); omega)
    have hju : u = 8 * (5 + (((o + (n - 1)) % 14))) := by rw [hu_u]; unfold q_slot; omega
    refine g_aald (n := 14) (j := (((o + (n - 1)) % 14))) (t := u) hx hb hG (o := 166) (hdm 166 (by decide)) rfl (by omega) (by omega) (by omega) hju.symm dX1_takeBack_34 ?_
    have hd_u : ∀ r, r < 8 → gdm G (u + r) := fun r hr => hdm _ (by have h1 := hT_u.1; omega)
    refine g_vcallV (b := 0) (As := [.ref (gad G u)]) (rest := []) ⟨hx, hb, hml, hown, hts⟩ (c_X3_copyFrom l G M1 hdm 0 ⟨by decide, by decide⟩ u hT_u (by omega) R hRu hI) (cwV 1 hts gX1_takeBack_X3_copyFrom rfl rfl rfl (by decide +kernel) ⟨Nat.le_of_ble_eq_true rfl, Nat.le_of_ble_eq_true rfl⟩) hG (g_recv hG (b := 0) (hdm 0 (by decide)) (gE_T ⟨by decide, by decide⟩ G _) rfl) rfl hl.1 rfl (Nat.le_of_ble_eq_true rfl) dX1_takeBack_35 ⟨Nat.zero_le _, Nat.zero_le _⟩ (fun M3 H locs hp_35 hG => ?_)
    obtain ⟨ht_M3, ho_M3⟩ := hp_35
    have hRu_M3 : q_tr M3 u R := q_tr_off hRu ho_M3 (by omega)
    have p2 : M3 165 2 = ((n - 1 : Nat) : Int) := by rw [ho_M3 165 (by omega), hM1, wr_eq]; omega
    have p1 : M3 165 1 = (o : Int) := by rw [ho_M3 165 (by omega), hM1, wr_ne _ _ _ (by decide)]; exact h1
    have p3 : q_tr M3 0 R := ht_M3
    have p4 : ∀ a, a ≠ 165 → 8 ≤ a → M3 a = M a := fun a h9 h8 => by rw [ho_M3 a (by omega), hM1, wr_off _ _ _ h9]
    refine lv_aload_n hx hb dX1_takeBack_38 rfl (lv_at hl 0 rfl) ?_
    refine g_geti (z := ((n - 1) : Int)) hx hb hts hinX1 hown hG (o := 165) (hdm 165 (by decide)) rfl rfl 2 (by decide) f18 (fun _ h => h) rfl (p2.trans (by omega)) dX1_takeBack_39 ?_
    exact g_iret (post := fun z M1 => z = (n : Int) - 1 ∧ M1 165 1 = (o : Int) ∧ M1 165 2 = ((n - 1 : Nat) : Int) ∧ q_tr M1 0 R ∧ ∀ a, a ≠ 165 → 8 ≤ a → M1 a = M a) (z := ((n - 1) : Int)) hx hb hr hG hlocks (⟨by omega, p1, p2, p3, p4⟩) dX1_takeBack_42
set_option maxHeartbeats 4000000 in
set_option maxRecDepth 100000 in
theorem c_X4_isFull (l : Launch) (G : gG) (M : Nat → Nat → Int) (hdm : ∀ k, k < 169 → gdm G k) (n : Nat) (hn : n ≤ 70) (h1 : M 167 1 = (n : Int)) : gMi l yX4_isFull wsX4_isFull ({ frames := 0, cells := 0, slots := 0, locals := 0 } : Room) G M [.ref (gad G 167)] (fun z M1 => z = (if 70 ≤ n then 1 else 0) ∧ M1 = M) := by
  refine gMi_of (cc := cX4_isFull) (maxL := 1) (ret := some .boolean) (by decide) rfl (Nat.le_of_ble_eq_true rfl) ?_
  intro p e s m below meth c ls hx hb hr hml hown hts hlocks hl hG
  have hown : s.vm.findClass RX4 = some m.cls := hown
  have hl : lv_has ls 1 [(0, .ref (gad G 167))] := hl
  have hinX4 : ∀ w ∈ u_ws RX4 TX4 3, w ∈ wsX4_isFull := by decide +kernel
  have f15 := hts (.fieldLink RX4 15 "DogTrials$TrialText" "length" "I") (by decide +kernel)
  refine lv_aload_n hx hb dX4_isFull_0 rfl (lv_at hl 0 rfl) ?_
  refine g_geti (z := (n : Int)) hx hb hts hinX4 hown hG (o := 167) (hdm 167 (by decide)) rfl rfl 1 (by decide) f15 (fun _ h => h) rfl h1 dX4_isFull_1 ?_
  refine lv_bipush (v := iZ (70)) hx hb dX4_isFull_4 (by decide) ?_
  refine z_icmp_lt (tgt := 13) hx hb (by omega) (by decide) dX4_isFull_6 (by decide) (fun c_6 => ?_) (fun c_6 => ?_)
  · skip
    refine lv_iconst (v := iZ 0) hx hb dX4_isFull_13 rfl ?_
    exact g_zret (post := fun z M1 => z = (if 70 ≤ n then 1 else 0) ∧ M1 = M) (z := 0) hx hb hr hG hlocks (Or.inl rfl) (⟨by first | (rw [if_pos (by omega)]; done) | (rw [if_neg (by omega)]; done), rfl⟩) dX4_isFull_14
  · skip
    refine lv_iconst (v := iZ 1) hx hb dX4_isFull_9 rfl ?_
    refine lv_goto (tgt := 14) hx hb dX4_isFull_10 (by decide) ?_
    exact g_zret (post := fun z M1 => z = (if 70 ≤ n then 1 else 0) ∧ M1 = M) (z := 1) hx hb hr hG hlocks (Or.inr rfl) (⟨by first | (rw [if_pos (by omega)]; done) | (rw [if_neg (by omega)]; done), rfl⟩) dX4_isFull_14
set_option maxHeartbeats 4000000 in
set_option maxRecDepth 100000 in
theorem c_X4_add (l : Launch) (G : gG) (M : Nat → Nat → Int) (hdm : ∀ k, k < 169 → gdm G k) (n : Nat) (hn : n < 70) (h1 : M 167 1 = (n : Int)) (cd : Int) : gMi l yX4_add wsX4_add ({ frames := 0, cells := 0, slots := 0, locals := 0 } : Room) G M [.ref (gad G 167), .int (iZ cd)] (fun z M1 => z = (n : Int) + 1 ∧ M1 = q_wr (q_wr M 168 n cd) 167 1 ((n : Int) + 1)) := by
  refine gMi_of (cc := cX4_add) (maxL := 2) (ret := some .int) (by decide) rfl (Nat.le_of_ble_eq_true rfl) ?_
  intro p e s m below meth c ls hx hb hr hml hown hts hlocks hl hG
  have hown : s.vm.findClass RX4 = some m.cls := hown
  have hl : lv_has ls 2 [(0, .ref (gad G 167)), (1, .int (iZ cd))] := hl
  have hinX4 : ∀ w ∈ u_ws RX4 TX4 3, w ∈ wsX4_add := by decide +kernel
  have f9 := hts (.fieldLink RX4 9 "DogTrials$TrialText" "codes" "[I") (by decide +kernel)
  have f15 := hts (.fieldLink RX4 15 "DogTrials$TrialText" "length" "I") (by decide +kernel)
  refine lv_aload_n hx hb dX4_add_0 rfl (lv_at hl 0 rfl) ?_
  refine g_geti (z := (n : Int)) hx hb hts hinX4 hown hG (o := 167) (hdm 167 (by decide)) rfl rfl 1 (by decide) f15 (fun _ h => h) rfl h1 dX4_add_1 ?_
  refine lv_bipush (v := iZ (70)) hx hb dX4_add_4 (by decide) ?_
  refine z_icmp_ge (tgt := 29) hx hb (by omega) (by decide) dX4_add_6 (by decide) (fun c_6 => ?_) (fun c_6 => ?_)
  · exfalso; omega
  · skip
    refine lv_aload_n hx hb dX4_add_9 rfl (lv_at hl 0 rfl) ?_
    refine g_get hx hb hts hinX4 hown hG (o := 167) (hdm 167 (by decide)) rfl rfl 0 (by decide) f9 (fun _ h => h) rfl dX4_add_10 ?_
    refine lv_aload_n hx hb dX4_add_13 rfl (lv_at hl 0 rfl) ?_
    refine g_geti (z := (n : Int)) hx hb hts hinX4 hown hG (o := 167) (hdm 167 (by decide)) rfl rfl 1 (by decide) f15 (fun _ h => h) rfl h1 dX4_add_14 ?_
    refine lv_iload_n hx hb dX4_add_17 rfl (lv_at hl 1 rfl) ?_
    refine g_iast (j := n) hx hb hG (o := 168) (hdm 168 (by decide)) (fun f => rfl) (by omega) (by omega) (by omega) dX4_add_18 (fun H locs hG => ?_)
    obtain ⟨M1, hM1⟩ : ∃ X, X = (q_wr M 168 n cd) := ⟨_, rfl⟩
    rw [← hM1] at hG
    refine lv_aload_n hx hb dX4_add_19 rfl (lv_at hl 0 rfl) ?_
    refine lv_dup hx hb dX4_add_20 rfl ?_
    refine g_geti (z := (n : Int)) hx hb hts hinX4 hown hG (o := 167) (hdm 167 (by decide)) rfl rfl 1 (by decide) f15 (fun _ h => h) rfl (by rw [hM1, wr_off _ _ _ (by omega)]; exact h1) dX4_add_21 ?_
    refine lv_iconst (v := iZ 1) hx hb dX4_add_24 rfl ?_
    refine z_iadd (z := ((n : Int) + 1)) hx hb (by omega) dX4_add_25 ?_
    refine g_put (F := (oS G)) hx hb hts hinX4 tyX4 tyX4_ok nmX4 hown hG (o := 167) (hdm 167 (by decide)) (fun f => rfl) rfl 1 (by decide) f15 (fun _ h => h) rfl rfl (fun _ => Nat.lt_of_lt_of_le (by decide) (Nat.le_refl 3)) (fun _ => rfl) dX4_add_26 (fun H locs hG => ?_)
    obtain ⟨M2, hM2⟩ : ∃ X, X = (q_wr M1 167 1 ((n : Int) + 1)) := ⟨_, rfl⟩
    rw [← hM2] at hG
    refine lv_aload_n hx hb dX4_add_29 rfl (lv_at hl 0 rfl) ?_
    refine g_geti (z := ((n : Int) + 1)) hx hb hts hinX4 hown hG (o := 167) (hdm 167 (by decide)) rfl rfl 1 (by decide) f15 (fun _ h => h) rfl (by rw [hM2, wr_eq]) dX4_add_30 ?_
    exact g_iret (post := fun z M1 => z = (n : Int) + 1 ∧ M1 = q_wr (q_wr M 168 n cd) 167 1 ((n : Int) + 1)) (z := ((n : Int) + 1)) hx hb hr hG hlocks (⟨rfl, by rw [hM2, hM1]⟩) dX4_add_33
