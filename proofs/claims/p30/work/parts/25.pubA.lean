set_option maxHeartbeats 4000000 in
set_option maxRecDepth 100000 in
theorem c_X5_append (l : Launch) (G : gG) (M : Nat → Nat → Int) (hl0 : l.stackTraces = false) (hdm : ∀ k, k < 169 → gdm G k) (n : Nat) (hn : n ≤ 70) (h1 : M 167 1 = (n : Int)) (a : Int) (ha9 : -2147483648 ≤ a ∧ a < 2147483648) : gMx l yX5_append wsX5_append ({ frames := 6, cells := 1, slots := 6, locals := 90 } : Room) G M [.ref (gad G 152), .int (iZ a)] (fun z M1 => (if ¬ (0 ≤ a ∧ a ≤ 255) then (1 : Int) else if 70 ≤ n then 2 else 0) = 0 ∧ z = (n : Int) + 1 ∧ M1 = q_wr (q_wr M 168 n a) 167 1 ((n : Int) + 1)) (fun E M1 => (((if ¬ (0 ≤ a ∧ a ≤ 255) then (1 : Int) else if 70 ≤ n then 2 else 0) = 1 ∧ E = "java/lang/IllegalArgumentException") ∨ ((if ¬ (0 ≤ a ∧ a ≤ 255) then (1 : Int) else if 70 ≤ n then 2 else 0) = 2 ∧ E = "java/lang/IllegalStateException")) ∧ q_cs M M1) := by
  refine gMx_of (cc := cX5_append) (maxL := 2) (ret := some .int) (by decide) rfl (Nat.le_of_ble_eq_true rfl) ?_
  intro p e s m below meth c ls hx hb hr hml hown hts hlocks hl hX ht9 hG
  have hown : s.vm.findClass RX5 = some m.cls := hown
  have hl : lv_has ls 2 [(0, .ref (gad G 152)), (1, .int (iZ a))] := hl
  have hinX5 : ∀ w ∈ u_ws RX5 TX5 8, w ∈ wsX5_append := by decide +kernel
  have f43 := hts (.fieldLink RX5 43 "DogTrials" "text" "LDogTrials$TrialText;") (by decide +kernel)
  refine lv_iload_n hx hb dX5_append_0 rfl (lv_at hl 1 rfl) ?_
  refine z_if_lt (tgt := 11) hx hb (by omega) dX5_append_1 (by decide) (fun c_1 => ?_) (fun c_1 => ?_)
  · skip
    exact g_throwIA hx hb hl0 hown hX hG ht9 (hl.1.trans hml.symm) (hts (.classLink RX5 55 "java/lang/IllegalArgumentException") (by decide +kernel)) (hts (.initialized "java/lang/IllegalArgumentException") (by decide +kernel)) (fun w hw => hts w (List.mem_cons_of_mem _ (List.mem_append_left _ (List.mem_append_right _ hw)))) (is := 57) (text := "the character is out of range") (by decide +kernel) dX5_append_11 dX5_append_14 dX5_append_15 dX5_append_17 dX5_append_20 ⟨Nat.le_of_ble_eq_true rfl, Nat.le_of_ble_eq_true rfl, Nat.le_of_ble_eq_true rfl, Nat.le_of_ble_eq_true rfl⟩ hlocks (⟨Or.inl ⟨by (repeat' split) <;> first | rfl | omega | (exfalso; omega) | contradiction, rfl⟩, (q_cs.rf M)⟩)
  · skip
    refine lv_iload_n hx hb dX5_append_4 rfl (lv_at hl 1 rfl) ?_
    refine lv_sipush (v := iZ (255)) hx hb dX5_append_5 (by decide) ?_
    refine z_icmp_le (tgt := 21) hx hb (by omega) (by decide) dX5_append_8 (by decide) (fun c_8 => ?_) (fun c_8 => ?_)
    · skip
      refine lv_aload_n hx hb dX5_append_21 rfl (lv_at hl 0 rfl) ?_
      refine g_get hx hb hts hinX5 hown hG (o := 152) (hdm 152 (by decide)) rfl rfl 5 (by decide) f43 (fun _ h => h) rfl dX5_append_22 ?_
      refine g_callV (b := 167) (As := []) (rest := []) ⟨hx, hb, hml, hown, hts⟩ (c_X4_isFull l G M hdm n hn h1) (cwV 0 hts gX5_append_X4_isFull rfl rfl rfl (by decide +kernel) ⟨Nat.le_of_ble_eq_true rfl, Nat.le_of_ble_eq_true rfl⟩) hG (g_recv hG (b := 167) (hdm 167 (by decide)) rfl rfl) rfl hl.1 rfl (Nat.le_of_ble_eq_true rfl) dX5_append_25 ⟨Nat.zero_le _, Nat.zero_le _⟩ (fun z1 M2 H locs hp_25 hG => ?_)
      obtain ⟨hz_25, hM_25⟩ := hp_25; replace hz_25 := hz_25.symm; subst hz_25; replace hM_25 := hM_25.symm; subst hM_25
      refine z_ifP_eq (tgt := 41) hx hb dX5_append_28 (by decide) (fun c_28 => ?_) (fun c_28 => ?_)
      · skip
        refine lv_aload_n hx hb dX5_append_41 rfl (lv_at hl 0 rfl) ?_
        refine g_get hx hb hts hinX5 hown hG (o := 152) (hdm 152 (by decide)) rfl rfl 5 (by decide) f43 (fun _ h => h) rfl dX5_append_42 ?_
        refine lv_iload_n hx hb dX5_append_45 rfl (lv_at hl 1 rfl) ?_
        refine g_callV (b := 167) (As := [.int (iZ a)]) (rest := []) ⟨hx, hb, hml, hown, hts⟩ (c_X4_add l G M hdm n (by omega) h1 a) (cwV 1 hts gX5_append_X4_add rfl rfl rfl (by decide +kernel) ⟨Nat.le_of_ble_eq_true rfl, Nat.le_of_ble_eq_true rfl⟩) hG (g_recv hG (b := 167) (hdm 167 (by decide)) rfl rfl) rfl hl.1 rfl (Nat.le_of_ble_eq_true rfl) dX5_append_46 ⟨Nat.zero_le _, Nat.zero_le _⟩ (fun z3 M4 H locs hp_46 hG => ?_)
        obtain ⟨hz_46, hM_M4⟩ := hp_46; replace hz_46 := hz_46.symm; subst hz_46
        exact g_iretX (post := fun z M1 => (if ¬ (0 ≤ a ∧ a ≤ 255) then (1 : Int) else if 70 ≤ n then 2 else 0) = 0 ∧ z = (n : Int) + 1 ∧ M1 = q_wr (q_wr M 168 n a) 167 1 ((n : Int) + 1)) (px := fun E M1 => (((if ¬ (0 ≤ a ∧ a ≤ 255) then (1 : Int) else if 70 ≤ n then 2 else 0) = 1 ∧ E = "java/lang/IllegalArgumentException") ∨ ((if ¬ (0 ≤ a ∧ a ≤ 255) then (1 : Int) else if 70 ≤ n then 2 else 0) = 2 ∧ E = "java/lang/IllegalStateException")) ∧ q_cs M M1) (z := ((n : Int) + 1)) hx hb hr hG hlocks (⟨by (repeat' split) <;> first | rfl | omega | (exfalso; omega) | contradiction, rfl, hM_M4⟩) dX5_append_49
      · skip
        exact g_throwIS hx hb hl0 hown hX hG ht9 (hl.1.trans hml.symm) (hts (.classLink RX5 66 "java/lang/IllegalStateException") (by decide +kernel)) (hts (.initialized "java/lang/IllegalStateException") (by decide +kernel)) (fun w hw => hts w (List.mem_cons_of_mem _ (List.mem_append_right _ hw))) (is := 68) (text := "the text is full") (by decide +kernel) dX5_append_31 dX5_append_34 dX5_append_35 dX5_append_37 dX5_append_40 ⟨Nat.le_of_ble_eq_true rfl, Nat.le_of_ble_eq_true rfl, Nat.le_of_ble_eq_true rfl, Nat.le_of_ble_eq_true rfl⟩ hlocks (⟨Or.inr (⟨by (repeat' split) <;> first | rfl | omega | (exfalso; omega) | contradiction, rfl⟩), (q_cs.rf M)⟩)
    · skip
      exact g_throwIA hx hb hl0 hown hX hG ht9 (hl.1.trans hml.symm) (hts (.classLink RX5 55 "java/lang/IllegalArgumentException") (by decide +kernel)) (hts (.initialized "java/lang/IllegalArgumentException") (by decide +kernel)) (fun w hw => hts w (List.mem_cons_of_mem _ (List.mem_append_left _ (List.mem_append_right _ hw)))) (is := 57) (text := "the character is out of range") (by decide +kernel) dX5_append_11 dX5_append_14 dX5_append_15 dX5_append_17 dX5_append_20 ⟨Nat.le_of_ble_eq_true rfl, Nat.le_of_ble_eq_true rfl, Nat.le_of_ble_eq_true rfl, Nat.le_of_ble_eq_true rfl⟩ hlocks (⟨Or.inl ⟨by (repeat' split) <;> first | rfl | omega | (exfalso; omega) | contradiction, rfl⟩, (q_cs.rf M)⟩)
set_option maxHeartbeats 4000000 in
set_option maxRecDepth 100000 in
theorem c_X5_errorPosition (l : Launch) (G : gG) (M : Nat → Nat → Int) (hdm : ∀ k, k < 169 → gdm G k) (T : Nat → Int) (n : Nat) (hn : n ≤ 70) (hTx : M 168 = T) (h1 : M 167 1 = (n : Int)) (hch : ∀ j, j < n → 0 ≤ T j ∧ T j ≤ 255) (hbo : ∀ j : Nat, j < 12 → 0 ≤ M 12 j ∧ M 12 j ≤ 1) : gMi l yX5_errorPosition wsX5_errorPosition ({ frames := 6, cells := 0, slots := 0, locals := 132 } : Room) G M [.ref (gad G 152)] (fun z M1 => z = q_err T n ∧ q_cs M M1) := by
  refine gMi_of (cc := cX5_errorPosition) (maxL := 1) (ret := some .int) (by decide) rfl (Nat.le_of_ble_eq_true rfl) ?_
  intro p e s m below meth c ls hx hb hr hml hown hts hlocks hl hG
  have hown : s.vm.findClass RX5 = some m.cls := hown
  have hl : lv_has ls 1 [(0, .ref (gad G 152))] := hl
  have hinX5 : ∀ w ∈ u_ws RX5 TX5 8, w ∈ wsX5_errorPosition := by decide +kernel
  have f16 := hts (.fieldLink RX5 16 "DogTrials" "supposed" "LDogTrials$Trial;") (by decide +kernel)
  have f43 := hts (.fieldLink RX5 43 "DogTrials" "text" "LDogTrials$TrialText;") (by decide +kernel)
  refine lv_aload_n hx hb dX5_errorPosition_0 rfl (lv_at hl 0 rfl) ?_
  refine g_get hx hb hts hinX5 hown hG (o := 152) (hdm 152 (by decide)) rfl rfl 5 (by decide) f43 (fun _ h => h) rfl dX5_errorPosition_1 ?_
  refine lv_aload_n hx hb dX5_errorPosition_4 rfl (lv_at hl 0 rfl) ?_
  refine g_get hx hb hts hinX5 hown hG (o := 152) (hdm 152 (by decide)) rfl rfl 1 (by decide) f16 (fun _ h => h) rfl dX5_errorPosition_5 ?_
  refine g_callV (b := 167) (As := [.ref (gad G 8)]) (rest := []) ⟨hx, hb, hml, hown, hts⟩ (c_X4_readInto l G M hdm T n hn hTx h1 hch hbo) (cwV 1 hts gX5_errorPosition_X4_readInto rfl rfl rfl (by decide +kernel) ⟨Nat.le_of_ble_eq_true rfl, Nat.le_of_ble_eq_true rfl⟩) hG (g_recv hG (b := 167) (hdm 167 (by decide)) rfl rfl) rfl hl.1 rfl (Nat.le_of_ble_eq_true rfl) dX5_errorPosition_8 ⟨Nat.zero_le _, Nat.zero_le _⟩ (fun z1 M2 H locs hp_8 hG => ?_)
  obtain ⟨hz_8, hfx_M2, hpg_M2, hb8_M2⟩ := hp_8; replace hz_8 := hz_8.symm; subst hz_8
  exact g_iret (post := fun z M1 => z = q_err T n ∧ q_cs M M1) (z := (q_err T n)) hx hb hr hG hlocks (⟨rfl, (q_cs.fx (q_cs.rf M) hfx_M2 hb8_M2)⟩) dX5_errorPosition_11
set_option maxHeartbeats 4000000 in
set_option maxRecDepth 100000 in
theorem c_X5_load (l : Launch) (G : gG) (M : Nat → Nat → Int) (hl0 : l.stackTraces = false) (hdm : ∀ k, k < 169 → gdm G k) (T : Nat → Int) (n : Nat) (hn : n ≤ 70) (hTx : M 168 = T) (h1 : M 167 1 = (n : Int)) (hch : ∀ j, j < n → 0 ≤ T j ∧ T j ≤ 255) (hbo : ∀ j : Nat, j < 12 → 0 ≤ M 12 j ∧ M 12 j ≤ 1) : gMx l yX5_load wsX5_load ({ frames := 6, cells := 1, slots := 6, locals := 132 } : Room) G M [.ref (gad G 152)] (fun z M1 => (if q_err T n = -9 then (0 : Int) else 1) = 0 ∧ z = q_nd (q_rdt T n).2.2 ∧ q_lod M M1 (q_rdt T n).2.2) (fun E M1 => (((if q_err T n = -9 then (0 : Int) else 1) = 1 ∧ E = "java/lang/IllegalStateException")) ∧ q_cs M M1) := by
  refine gMx_of (cc := cX5_load) (maxL := 2) (ret := some .int) (by decide) rfl (Nat.le_of_ble_eq_true rfl) ?_
  intro p e s m below meth c ls hx hb hr hml hown hts hlocks hl hX ht9 hG
  have hown : s.vm.findClass RX5 = some m.cls := hown
  have hl : lv_has ls 2 [(0, .ref (gad G 152))] := hl
  have hinX3 : ∀ w ∈ u_ws RX3 TX3 15, w ∈ wsX5_load := by decide +kernel
  have hinX5 : ∀ w ∈ u_ws RX5 TX5 8, w ∈ wsX5_load := by decide +kernel
  have f10 := hts (.fieldLink RX5 10 "DogTrials" "now" "LDogTrials$Trial;") (by decide +kernel)
  have f16 := hts (.fieldLink RX5 16 "DogTrials" "supposed" "LDogTrials$Trial;") (by decide +kernel)
  have f36 := hts (.fieldLink RX5 36 "DogTrials" "memory" "LDogTrials$Memory;") (by decide +kernel)
  have f43 := hts (.fieldLink RX5 43 "DogTrials" "text" "LDogTrials$TrialText;") (by decide +kernel)
  have f51 := hts (.fieldLink RX5 51 "DogTrials" "saved" "[Z") (by decide +kernel)
  have f92 := hts (.fieldLink RX5 92 "DogTrials$Trial" "dogs" "I") (by decide +kernel)
  refine lv_aload_n hx hb dX5_load_0 rfl (lv_at hl 0 rfl) ?_
  refine g_get hx hb hts hinX5 hown hG (o := 152) (hdm 152 (by decide)) rfl rfl 5 (by decide) f43 (fun _ h => h) rfl dX5_load_1 ?_
  refine lv_aload_n hx hb dX5_load_4 rfl (lv_at hl 0 rfl) ?_
  refine g_get hx hb hts hinX5 hown hG (o := 152) (hdm 152 (by decide)) rfl rfl 1 (by decide) f16 (fun _ h => h) rfl dX5_load_5 ?_
  refine g_callV (b := 167) (As := [.ref (gad G 8)]) (rest := []) ⟨hx, hb, hml, hown, hts⟩ (c_X4_readInto l G M hdm T n hn hTx h1 hch hbo) (cwV 1 hts gX5_load_X4_readInto rfl rfl rfl (by decide +kernel) ⟨Nat.le_of_ble_eq_true rfl, Nat.le_of_ble_eq_true rfl⟩) hG (g_recv hG (b := 167) (hdm 167 (by decide)) rfl rfl) rfl hl.1 rfl (Nat.le_of_ble_eq_true rfl) dX5_load_8 ⟨Nat.zero_le _, Nat.zero_le _⟩ (fun z1 M2 H locs hp_8 hG => ?_)
  obtain ⟨hz_8, hfx_M2, hpg_M2, hb8_M2⟩ := hp_8; replace hz_8 := hz_8.symm; subst hz_8
  have her9 : -9 ≤ q_err T n ∧ q_err T n ≤ 100 := by have h9 := q_rdt_in T n; unfold q_err; split <;> omega
  refine lv_bipush (v := iZ (-9)) hx hb dX5_load_11 (by decide) ?_
  refine z_icmp_eq (tgt := 26) hx hb (by omega) (by decide) dX5_load_13 (by decide) (fun c_13 => ?_) (fun c_13 => ?_)
  · skip
    have hok9 := q_err_ok (by omega)
    have hpy9 := hpg_M2 hok9
    have hIy9 := (q_rdt_ok hok9).1
    refine lv_aload_n hx hb dX5_load_26 rfl (lv_at hl 0 rfl) ?_
    refine g_get hx hb hts hinX5 hown hG (o := 152) (hdm 152 (by decide)) rfl rfl 0 (by decide) f10 (fun _ h => h) rfl dX5_load_27 ?_
    refine lv_aload_n hx hb dX5_load_30 rfl (lv_at hl 0 rfl) ?_
    refine g_get hx hb hts hinX5 hown hG (o := 152) (hdm 152 (by decide)) rfl rfl 1 (by decide) f16 (fun _ h => h) rfl dX5_load_31 ?_
    refine g_vcallV (b := 0) (As := [.ref (gad G 8)]) (rest := []) ⟨hx, hb, hml, hown, hts⟩ (c_X3_copyFrom l G M2 hdm 0 ⟨by decide, by decide⟩ 8 ⟨by decide, by decide⟩ (by omega) ((q_rdt T n).2.2) hpy9 hIy9) (cwV 1 hts gX5_load_X3_copyFrom rfl rfl rfl (by decide +kernel) ⟨Nat.le_of_ble_eq_true rfl, Nat.le_of_ble_eq_true rfl⟩) hG (g_recv hG (b := 0) (hdm 0 (by decide)) (gE_T ⟨by decide, by decide⟩ G _) rfl) rfl hl.1 rfl (Nat.le_of_ble_eq_true rfl) dX5_load_34 ⟨Nat.zero_le _, Nat.zero_le _⟩ (fun M4 H locs hp_34 hG => ?_)
    obtain ⟨ht_M4, ho_M4⟩ := hp_34
    have hpy9_M4 : q_tr M4 8 (q_rdt T n).2.2 := q_tr_off hpy9 ho_M4 (by omega)
    refine lv_aload_n hx hb dX5_load_37 rfl (lv_at hl 0 rfl) ?_
    refine g_get hx hb hts hinX5 hown hG (o := 152) (hdm 152 (by decide)) rfl rfl 4 (by decide) f36 (fun _ h => h) rfl dX5_load_38 ?_
    refine g_vcallV (b := 165) (As := []) (rest := []) ⟨hx, hb, hml, hown, hts⟩ (c_X1_forgetAll l G M4 hdm) (cwV 0 hts gX5_load_X1_forgetAll rfl rfl rfl (by decide +kernel) ⟨Nat.le_of_ble_eq_true rfl, Nat.le_of_ble_eq_true rfl⟩) hG (g_recv hG (b := 165) (hdm 165 (by decide)) rfl rfl) rfl hl.1 rfl (Nat.le_of_ble_eq_true rfl) dX5_load_41 ⟨Nat.zero_le _, Nat.zero_le _⟩ (fun M6 H locs hp_41 hG => ?_)
    have hM6 := hp_41
    have hpy9_M4_M6 : q_tr M6 8 (q_rdt T n).2.2 := by rw [hM6]; exact tr_wr hpy9_M4 (by omega)
    have ht_M4_M6 : q_tr M6 0 (q_rdt T n).2.2 := by rw [hM6]; exact tr_wr ht_M4 (by omega)
    refine lv_iconst (v := iZ 0) hx hb dX5_load_44 rfl ?_
    refine lv_istore_n (lv' := [(1, .int (iZ 0)), (0, .ref (gad G 152))]) hx hb dX5_load_45 rfl hl (by decide) rfl (fun ls hl => ?_)
    refine lv_iload_n hx hb dX5_load_46 rfl (lv_at hl 0 rfl) ?_
    refine lv_iconst (v := iZ 2) hx hb dX5_load_47 rfl ?_
    refine z_icmp_ge (tgt := 64) hx hb (by decide) (by decide) dX5_load_48 (by decide) (fun c_48 => ?_) (fun c_48 => ?_)
    · exfalso; omega
    · skip
      refine lv_aload_n hx hb dX5_load_51 rfl (lv_at hl 1 rfl) ?_
      refine g_get hx hb hts hinX5 hown hG (o := 152) (hdm 152 (by decide)) rfl rfl 7 (by decide) f51 (fun _ h => h) rfl dX5_load_52 ?_
      refine lv_iload_n hx hb dX5_load_55 rfl (lv_at hl 0 rfl) ?_
      refine lv_iconst (v := iZ 0) hx hb dX5_load_56 rfl ?_
      refine g_zast (j := 0) hx hb hG (o := 154) (hdm 154 (by decide)) (fun f => rfl) (by omega) (by omega) (by omega) (by omega) dX5_load_57 (fun H locs hG => ?_)
      obtain ⟨M7, hM7⟩ : ∃ X, X = (q_wr M6 154 0 0) := ⟨_, rfl⟩
      rw [← hM7] at hG
      have hpy9_M4_M6__M7 : q_tr M7 8 (q_rdt T n).2.2 := by rw [hM7]; exact tr_wr hpy9_M4_M6 (by omega)
      have ht_M4_M6__M7 : q_tr M7 0 (q_rdt T n).2.2 := by rw [hM7]; exact tr_wr ht_M4_M6 (by omega)
      refine z_iinc (z := 1) (lv' := [(1, .int (iZ 1)), (0, .ref (gad G 152))]) hx hb dX5_load_58 hl (k := 0) rfl (by omega) (by decide) rfl (fun ls hl => ?_)
      refine lv_goto (tgt := 46) hx hb dX5_load_61 (by decide) ?_
      refine lv_iload_n hx hb dX5_load_46 rfl (lv_at hl 0 rfl) ?_
      refine lv_iconst (v := iZ 2) hx hb dX5_load_47 rfl ?_
      refine z_icmp_ge (tgt := 64) hx hb (by decide) (by decide) dX5_load_48 (by decide) (fun c_48 => ?_) (fun c_48 => ?_)
      · exfalso; omega
      · skip
        refine lv_aload_n hx hb dX5_load_51 rfl (lv_at hl 1 rfl) ?_
        refine g_get hx hb hts hinX5 hown hG (o := 152) (hdm 152 (by decide)) rfl rfl 7 (by decide) f51 (fun _ h => h) rfl dX5_load_52 ?_
        refine lv_iload_n hx hb dX5_load_55 rfl (lv_at hl 0 rfl) ?_
        refine lv_iconst (v := iZ 0) hx hb dX5_load_56 rfl ?_
        refine g_zast (j := 1) hx hb hG (o := 154) (hdm 154 (by decide)) (fun f => rfl) (by omega) (by omega) (by omega) (by omega) dX5_load_57 (fun H locs hG => ?_)
        obtain ⟨M8, hM8⟩ : ∃ X, X = (q_wr M7 154 1 0) := ⟨_, rfl⟩
        rw [← hM8] at hG
        have hpy9_M4_M6__M8 : q_tr M8 8 (q_rdt T n).2.2 := by rw [hM8]; exact tr_wr hpy9_M4_M6__M7 (by omega)
        have ht_M4_M6__M8 : q_tr M8 0 (q_rdt T n).2.2 := by rw [hM8]; exact tr_wr ht_M4_M6__M7 (by omega)
        refine z_iinc (z := 2) (lv' := [(1, .int (iZ 2)), (0, .ref (gad G 152))]) hx hb dX5_load_58 hl (k := 0) rfl (by omega) (by decide) rfl (fun ls hl => ?_)
        refine lv_goto (tgt := 46) hx hb dX5_load_61 (by decide) ?_
        refine lv_iload_n hx hb dX5_load_46 rfl (lv_at hl 0 rfl) ?_
        refine lv_iconst (v := iZ 2) hx hb dX5_load_47 rfl ?_
        refine z_icmp_ge (tgt := 64) hx hb (by decide) (by decide) dX5_load_48 (by decide) (fun c_48 => ?_) (fun c_48 => ?_)
        · skip
          refine lv_aload_n hx hb dX5_load_64 rfl (lv_at hl 1 rfl) ?_
          refine g_get hx hb hts hinX5 hown hG (o := 152) (hdm 152 (by decide)) rfl rfl 0 (by decide) f10 (fun _ h => h) rfl dX5_load_65 ?_
          refine g_geti (z := (q_nd (q_rdt T n).2.2)) hx hb hts hinX3 hown hG (o := 0) (hdm 0 (by decide)) (gE_T ⟨by decide, by decide⟩ G _) rfl 0 (by decide) f92 (fun _ h => h) rfl (tr_nd ht_M4_M6__M8) dX5_load_68 ?_
          exact g_iretX (post := fun z M1 => (if q_err T n = -9 then (0 : Int) else 1) = 0 ∧ z = q_nd (q_rdt T n).2.2 ∧ q_lod M M1 (q_rdt T n).2.2) (px := fun E M1 => (((if q_err T n = -9 then (0 : Int) else 1) = 1 ∧ E = "java/lang/IllegalStateException")) ∧ q_cs M M1) (z := (q_nd (q_rdt T n).2.2)) hx hb hr hG hlocks (⟨by (repeat' split) <;> first | rfl | omega | (exfalso; omega) | contradiction, rfl, q_lod.mk (q_cs.fx (q_cs.rf M) hfx_M2 hb8_M2) ho_M4 ht_M4 (by rw [hM8, hM7, hM6])⟩) dX5_load_71
        · exfalso; omega
  · skip
    exact g_throwIS hx hb hl0 hown hX hG ht9 (hl.1.trans hml.symm) (hts (.classLink RX5 66 "java/lang/IllegalStateException") (by decide +kernel)) (hts (.initialized "java/lang/IllegalStateException") (by decide +kernel)) (fun w hw => hts w (List.mem_cons_of_mem _ (List.mem_append_right _ hw))) (is := 83) (text := "the text is not a trial") (by decide +kernel) dX5_load_16 dX5_load_19 dX5_load_20 dX5_load_22 dX5_load_25 ⟨Nat.le_of_ble_eq_true rfl, Nat.le_of_ble_eq_true rfl, Nat.le_of_ble_eq_true rfl, Nat.le_of_ble_eq_true rfl⟩ hlocks (⟨⟨by (repeat' split) <;> first | rfl | omega | (exfalso; omega) | contradiction, rfl⟩, (q_cs.fx (q_cs.rf M) hfx_M2 hb8_M2)⟩)
set_option maxHeartbeats 4000000 in
set_option maxRecDepth 100000 in
theorem c_X5_about (l : Launch) (G : gG) (M : Nat → Nat → Int) (hl0 : l.stackTraces = false) (hdm : ∀ k, k < 169 → gdm G k) (R : Nat → Int) (hR : q_tr M 0 R) (hI : q_inv R) (a : Int) (ha9 : -2147483648 ≤ a ∧ a < 2147483648) : gMx l yX5_about wsX5_about ({ frames := 6, cells := 1, slots := 6, locals := 90 } : Room) G M [.ref (gad G 152), .int (iZ a)] (fun z M1 => (if 0 ≤ a ∧ a ≤ 16 then (0 : Int) else 1) = 0 ∧ z = q_abt R a ∧ q_cs M M1) (fun E M1 => (((if 0 ≤ a ∧ a ≤ 16 then (0 : Int) else 1) = 1 ∧ E = "java/lang/IllegalArgumentException")) ∧ q_cs M M1) := by
  refine gMx_of (cc := cX5_about) (maxL := 2) (ret := some .int) (by decide) rfl (Nat.le_of_ble_eq_true rfl) ?_
  intro p e s m below meth c ls hx hb hr hml hown hts hlocks hl hX ht9 hG
  have hown : s.vm.findClass RX5 = some m.cls := hown
  have hl : lv_has ls 2 [(0, .ref (gad G 152)), (1, .int (iZ a))] := hl
  have hinX3 : ∀ w ∈ u_ws RX3 TX3 15, w ∈ wsX5_about := by decide +kernel
  have hinX5 : ∀ w ∈ u_ws RX5 TX5 8, w ∈ wsX5_about := by decide +kernel
  have f10 := hts (.fieldLink RX5 10 "DogTrials" "now" "LDogTrials$Trial;") (by decide +kernel)
  have f92 := hts (.fieldLink RX5 92 "DogTrials$Trial" "dogs" "I") (by decide +kernel)
  have f107 := hts (.fieldLink RX5 107 "DogTrials$Trial" "day" "I") (by decide +kernel)
  have f110 := hts (.fieldLink RX5 110 "DogTrials$Trial" "minute" "I") (by decide +kernel)
  have f113 := hts (.fieldLink RX5 113 "DogTrials$Trial" "sunset" "I") (by decide +kernel)
  have f116 := hts (.fieldLink RX5 116 "DogTrials$Trial" "last" "I") (by decide +kernel)
  have f119 := hts (.fieldLink RX5 119 "DogTrials$Trial" "counted" "I") (by decide +kernel)
  have f122 := hts (.fieldLink RX5 122 "DogTrials$Trial" "tooDark" "I") (by decide +kernel)
  have f125 := hts (.fieldLink RX5 125 "DogTrials$Trial" "interferences" "I") (by decide +kernel)
  have f128 := hts (.fieldLink RX5 128 "DogTrials$Trial" "rank" "[I") (by decide +kernel)
  refine lv_iload_n hx hb dX5_about_0 rfl (lv_at hl 1 rfl) ?_
  refine z_if_lt (tgt := 10) hx hb (by omega) dX5_about_1 (by decide) (fun c_1 => ?_) (fun c_1 => ?_)
  · skip
    exact g_throwIA hx hb hl0 hown hX hG ht9 (hl.1.trans hml.symm) (hts (.classLink RX5 55 "java/lang/IllegalArgumentException") (by decide +kernel)) (hts (.initialized "java/lang/IllegalArgumentException") (by decide +kernel)) (fun w hw => hts w (List.mem_cons_of_mem _ (List.mem_append_right _ hw))) (is := 96) (text := "there is no such number") (by decide +kernel) dX5_about_10 dX5_about_13 dX5_about_14 dX5_about_16 dX5_about_19 ⟨Nat.le_of_ble_eq_true rfl, Nat.le_of_ble_eq_true rfl, Nat.le_of_ble_eq_true rfl, Nat.le_of_ble_eq_true rfl⟩ hlocks (⟨⟨by (repeat' split) <;> first | rfl | omega | (exfalso; omega) | contradiction, rfl⟩, (q_cs.rf M)⟩)
  · skip
    refine lv_iload_n hx hb dX5_about_4 rfl (lv_at hl 1 rfl) ?_
    refine lv_bipush (v := iZ (16)) hx hb dX5_about_5 (by decide) ?_
    refine z_icmp_le (tgt := 20) hx hb (by omega) (by decide) dX5_about_7 (by decide) (fun c_7 => ?_) (fun c_7 => ?_)
    · skip
      refine lv_iload_n hx hb dX5_about_20 rfl (lv_at hl 1 rfl) ?_
      have hsw_21 : (iZ a).toInt = a := iZ_int (by omega)
      by_cases c_21 : a < 0 ∨ 10 < a
      · refine lv_tableOut (tgt := 168) hx hb dX5_about_21 (by rw [hsw_21]; exact c_21) (by decide) ?_
        refine lv_aload_n hx hb dX5_about_168 rfl (lv_at hl 0 rfl) ?_
        refine g_get hx hb hts hinX5 hown hG (o := 152) (hdm 152 (by decide)) rfl rfl 0 (by decide) f10 (fun _ h => h) rfl dX5_about_169 ?_
        refine g_get hx hb hts hinX3 hown hG (o := 0) (hdm 0 (by decide)) (gE_T ⟨by decide, by decide⟩ G _) rfl 7 (by decide) f128 (fun _ h => h) rfl dX5_about_172 ?_
        refine lv_iload_n hx hb dX5_about_175 rfl (lv_at hl 1 rfl) ?_
        refine lv_bipush (v := iZ (11)) hx hb dX5_about_176 (by decide) ?_
        refine z_isub (z := (a - 11)) hx hb (by omega) dX5_about_178 ?_
        refine g_iald (z := (q_rk R (((a - 11).toNat)))) (j := (((a - 11).toNat))) hx hb hG (o := 7) (hdm 7 (by decide)) (gE_t7 ⟨by decide, by decide⟩ G _) (by omega) (by omega) (by omega) (tr_rk hR (k := (((a - 11).toNat))) (by omega)) dX5_about_179 ?_
        exact g_iretX (post := fun z M1 => (if 0 ≤ a ∧ a ≤ 16 then (0 : Int) else 1) = 0 ∧ z = q_abt R a ∧ q_cs M M1) (px := fun E M1 => (((if 0 ≤ a ∧ a ≤ 16 then (0 : Int) else 1) = 1 ∧ E = "java/lang/IllegalArgumentException")) ∧ q_cs M M1) (z := (q_rk R (((a - 11).toNat)))) hx hb hr hG hlocks (⟨by (repeat' split) <;> first | rfl | omega | (exfalso; omega) | contradiction, by unfold q_abt q_rk; rw [if_neg (by omega), if_neg (by omega), if_neg (by omega), if_neg (by omega), if_neg (by omega), show 8 + (a - 11).toNat = (a - 3).toNat by omega], (q_cs.rf M)⟩) dX5_about_180
      · rcases (show a = 0 ∨ 0 < a by omega) with e_21 | e_21
        · skip
          refine lv_tableIn (off := 59) (tgt := 80) hx hb dX5_about_21 (by rw [hsw_21]; omega) (by rw [hsw_21]; omega) (by rw [hsw_21, e_21]; rfl) (by decide) ?_
          refine lv_aload_n hx hb dX5_about_80 rfl (lv_at hl 0 rfl) ?_
          refine g_get hx hb hts hinX5 hown hG (o := 152) (hdm 152 (by decide)) rfl rfl 0 (by decide) f10 (fun _ h => h) rfl dX5_about_81 ?_
          refine g_geti (z := (q_nd R)) hx hb hts hinX3 hown hG (o := 0) (hdm 0 (by decide)) (gE_T ⟨by decide, by decide⟩ G _) rfl 0 (by decide) f92 (fun _ h => h) rfl (tr_nd hR) dX5_about_84 ?_
          exact g_iretX (post := fun z M1 => (if 0 ≤ a ∧ a ≤ 16 then (0 : Int) else 1) = 0 ∧ z = q_abt R a ∧ q_cs M M1) (px := fun E M1 => (((if 0 ≤ a ∧ a ≤ 16 then (0 : Int) else 1) = 1 ∧ E = "java/lang/IllegalArgumentException")) ∧ q_cs M M1) (z := (q_nd R)) hx hb hr hG hlocks (⟨by (repeat' split) <;> first | rfl | omega | (exfalso; omega) | contradiction, by unfold q_abt; rw [e_21]; rfl, (q_cs.rf M)⟩) dX5_about_87
        · rcases (show a = 1 ∨ 1 < a by omega) with e_21 | e_21
          · skip
            refine lv_tableIn (off := 67) (tgt := 88) hx hb dX5_about_21 (by rw [hsw_21]; omega) (by rw [hsw_21]; omega) (by rw [hsw_21, e_21]; rfl) (by decide) ?_
            refine lv_aload_n hx hb dX5_about_88 rfl (lv_at hl 0 rfl) ?_
            refine g_get hx hb hts hinX5 hown hG (o := 152) (hdm 152 (by decide)) rfl rfl 0 (by decide) f10 (fun _ h => h) rfl dX5_about_89 ?_
            refine g_callV (b := 0) (As := []) (rest := []) ⟨hx, hb, hml, hown, hts⟩ (c_X3_dogsToRun l G M hdm 0 ⟨by decide, by decide⟩ R hR hI) (cwV 0 hts gX5_about_X3_dogsToRun rfl rfl rfl (by decide +kernel) ⟨Nat.le_of_ble_eq_true rfl, Nat.le_of_ble_eq_true rfl⟩) hG (g_recv hG (b := 0) (hdm 0 (by decide)) (gE_T ⟨by decide, by decide⟩ G _) rfl) rfl hl.1 rfl (Nat.le_of_ble_eq_true rfl) dX5_about_92 ⟨Nat.zero_le _, Nat.zero_le _⟩ (fun z1 M2 H locs hp_92 hG => ?_)
            obtain ⟨hz_92, hM_92⟩ := hp_92; replace hz_92 := hz_92.symm; subst hz_92; replace hM_92 := hM_92.symm; subst hM_92
            exact g_iretX (post := fun z M1 => (if 0 ≤ a ∧ a ≤ 16 then (0 : Int) else 1) = 0 ∧ z = q_abt R a ∧ q_cs M M1) (px := fun E M1 => (((if 0 ≤ a ∧ a ≤ 16 then (0 : Int) else 1) = 1 ∧ E = "java/lang/IllegalArgumentException")) ∧ q_cs M M1) (z := (q_nwait R)) hx hb hr hG hlocks (⟨by (repeat' split) <;> first | rfl | omega | (exfalso; omega) | contradiction, by unfold q_abt; rw [e_21]; rfl, (q_cs.rf M)⟩) dX5_about_95
          · rcases (show a = 2 ∨ 2 < a by omega) with e_21 | e_21
            · skip
              refine lv_tableIn (off := 75) (tgt := 96) hx hb dX5_about_21 (by rw [hsw_21]; omega) (by rw [hsw_21]; omega) (by rw [hsw_21, e_21]; rfl) (by decide) ?_
              refine lv_aload_n hx hb dX5_about_96 rfl (lv_at hl 0 rfl) ?_
              refine g_get hx hb hts hinX5 hown hG (o := 152) (hdm 152 (by decide)) rfl rfl 0 (by decide) f10 (fun _ h => h) rfl dX5_about_97 ?_
              refine g_callV (b := 0) (As := []) (rest := []) ⟨hx, hb, hml, hown, hts⟩ (c_X3_dogsWithRun l G M hdm 0 ⟨by decide, by decide⟩ R hR hI) (cwV 0 hts gX5_about_X3_dogsWithRun rfl rfl rfl (by decide +kernel) ⟨Nat.le_of_ble_eq_true rfl, Nat.le_of_ble_eq_true rfl⟩) hG (g_recv hG (b := 0) (hdm 0 (by decide)) (gE_T ⟨by decide, by decide⟩ G _) rfl) rfl hl.1 rfl (Nat.le_of_ble_eq_true rfl) dX5_about_100 ⟨Nat.zero_le _, Nat.zero_le _⟩ (fun z3 M4 H locs hp_100 hG => ?_)
              obtain ⟨hz_100, hM_100⟩ := hp_100; replace hz_100 := hz_100.symm; subst hz_100; replace hM_100 := hM_100.symm; subst hM_100
              exact g_iretX (post := fun z M1 => (if 0 ≤ a ∧ a ≤ 16 then (0 : Int) else 1) = 0 ∧ z = q_abt R a ∧ q_cs M M1) (px := fun E M1 => (((if 0 ≤ a ∧ a ≤ 16 then (0 : Int) else 1) = 1 ∧ E = "java/lang/IllegalArgumentException")) ∧ q_cs M M1) (z := (q_nrun R)) hx hb hr hG hlocks (⟨by (repeat' split) <;> first | rfl | omega | (exfalso; omega) | contradiction, by unfold q_abt; rw [e_21]; rfl, (q_cs.rf M)⟩) dX5_about_103
            · rcases (show a = 3 ∨ 3 < a by omega) with e_21 | e_21
              · skip
                refine lv_tableIn (off := 83) (tgt := 104) hx hb dX5_about_21 (by rw [hsw_21]; omega) (by rw [hsw_21]; omega) (by rw [hsw_21, e_21]; rfl) (by decide) ?_
                refine lv_aload_n hx hb dX5_about_104 rfl (lv_at hl 0 rfl) ?_
                refine g_get hx hb hts hinX5 hown hG (o := 152) (hdm 152 (by decide)) rfl rfl 0 (by decide) f10 (fun _ h => h) rfl dX5_about_105 ?_
                refine g_callV (b := 0) (As := []) (rest := []) ⟨hx, hb, hml, hown, hts⟩ (c_X3_dogsWithdrawn l G M hdm 0 ⟨by decide, by decide⟩ R hR hI) (cwV 0 hts gX5_about_X3_dogsWithdrawn rfl rfl rfl (by decide +kernel) ⟨Nat.le_of_ble_eq_true rfl, Nat.le_of_ble_eq_true rfl⟩) hG (g_recv hG (b := 0) (hdm 0 (by decide)) (gE_T ⟨by decide, by decide⟩ G _) rfl) rfl hl.1 rfl (Nat.le_of_ble_eq_true rfl) dX5_about_108 ⟨Nat.zero_le _, Nat.zero_le _⟩ (fun z5 M6 H locs hp_108 hG => ?_)
                obtain ⟨hz_108, hM_108⟩ := hp_108; replace hz_108 := hz_108.symm; subst hz_108; replace hM_108 := hM_108.symm; subst hM_108
                exact g_iretX (post := fun z M1 => (if 0 ≤ a ∧ a ≤ 16 then (0 : Int) else 1) = 0 ∧ z = q_abt R a ∧ q_cs M M1) (px := fun E M1 => (((if 0 ≤ a ∧ a ≤ 16 then (0 : Int) else 1) = 1 ∧ E = "java/lang/IllegalArgumentException")) ∧ q_cs M M1) (z := (q_ngone R)) hx hb hr hG hlocks (⟨by (repeat' split) <;> first | rfl | omega | (exfalso; omega) | contradiction, by unfold q_abt; rw [e_21]; rfl, (q_cs.rf M)⟩) dX5_about_111
              · rcases (show a = 4 ∨ 4 < a by omega) with e_21 | e_21
                · skip
                  refine lv_tableIn (off := 91) (tgt := 112) hx hb dX5_about_21 (by rw [hsw_21]; omega) (by rw [hsw_21]; omega) (by rw [hsw_21, e_21]; rfl) (by decide) ?_
                  refine lv_aload_n hx hb dX5_about_112 rfl (lv_at hl 0 rfl) ?_
                  refine g_get hx hb hts hinX5 hown hG (o := 152) (hdm 152 (by decide)) rfl rfl 0 (by decide) f10 (fun _ h => h) rfl dX5_about_113 ?_
                  refine g_geti (z := (R 0)) hx hb hts hinX3 hown hG (o := 0) (hdm 0 (by decide)) (gE_T ⟨by decide, by decide⟩ G _) rfl 8 (by decide) f107 (fun _ h => h) rfl (tr_s8 hR) dX5_about_116 ?_
                  exact g_iretX (post := fun z M1 => (if 0 ≤ a ∧ a ≤ 16 then (0 : Int) else 1) = 0 ∧ z = q_abt R a ∧ q_cs M M1) (px := fun E M1 => (((if 0 ≤ a ∧ a ≤ 16 then (0 : Int) else 1) = 1 ∧ E = "java/lang/IllegalArgumentException")) ∧ q_cs M M1) (z := (R 0)) hx hb hr hG hlocks (⟨by (repeat' split) <;> first | rfl | omega | (exfalso; omega) | contradiction, by unfold q_abt; rw [e_21]; rfl, (q_cs.rf M)⟩) dX5_about_119
                · rcases (show a = 5 ∨ 5 < a by omega) with e_21 | e_21
                  · skip
                    refine lv_tableIn (off := 99) (tgt := 120) hx hb dX5_about_21 (by rw [hsw_21]; omega) (by rw [hsw_21]; omega) (by rw [hsw_21, e_21]; rfl) (by decide) ?_
                    refine lv_aload_n hx hb dX5_about_120 rfl (lv_at hl 0 rfl) ?_
                    refine g_get hx hb hts hinX5 hown hG (o := 152) (hdm 152 (by decide)) rfl rfl 0 (by decide) f10 (fun _ h => h) rfl dX5_about_121 ?_
                    refine g_geti (z := (R 1)) hx hb hts hinX3 hown hG (o := 0) (hdm 0 (by decide)) (gE_T ⟨by decide, by decide⟩ G _) rfl 9 (by decide) f110 (fun _ h => h) rfl (tr_s9 hR) dX5_about_124 ?_
                    exact g_iretX (post := fun z M1 => (if 0 ≤ a ∧ a ≤ 16 then (0 : Int) else 1) = 0 ∧ z = q_abt R a ∧ q_cs M M1) (px := fun E M1 => (((if 0 ≤ a ∧ a ≤ 16 then (0 : Int) else 1) = 1 ∧ E = "java/lang/IllegalArgumentException")) ∧ q_cs M M1) (z := (R 1)) hx hb hr hG hlocks (⟨by (repeat' split) <;> first | rfl | omega | (exfalso; omega) | contradiction, by unfold q_abt; rw [e_21]; rfl, (q_cs.rf M)⟩) dX5_about_127
                  · rcases (show a = 6 ∨ 6 < a by omega) with e_21 | e_21
                    · skip
                      refine lv_tableIn (off := 107) (tgt := 128) hx hb dX5_about_21 (by rw [hsw_21]; omega) (by rw [hsw_21]; omega) (by rw [hsw_21, e_21]; rfl) (by decide) ?_
                      refine lv_aload_n hx hb dX5_about_128 rfl (lv_at hl 0 rfl) ?_
                      refine g_get hx hb hts hinX5 hown hG (o := 152) (hdm 152 (by decide)) rfl rfl 0 (by decide) f10 (fun _ h => h) rfl dX5_about_129 ?_
                      refine g_geti (z := (R 2)) hx hb hts hinX3 hown hG (o := 0) (hdm 0 (by decide)) (gE_T ⟨by decide, by decide⟩ G _) rfl 10 (by decide) f113 (fun _ h => h) rfl (tr_s10 hR) dX5_about_132 ?_
                      exact g_iretX (post := fun z M1 => (if 0 ≤ a ∧ a ≤ 16 then (0 : Int) else 1) = 0 ∧ z = q_abt R a ∧ q_cs M M1) (px := fun E M1 => (((if 0 ≤ a ∧ a ≤ 16 then (0 : Int) else 1) = 1 ∧ E = "java/lang/IllegalArgumentException")) ∧ q_cs M M1) (z := (R 2)) hx hb hr hG hlocks (⟨by (repeat' split) <;> first | rfl | omega | (exfalso; omega) | contradiction, by unfold q_abt; rw [e_21]; rfl, (q_cs.rf M)⟩) dX5_about_135
                    · rcases (show a = 7 ∨ 7 < a by omega) with e_21 | e_21
                      · skip
                        refine lv_tableIn (off := 115) (tgt := 136) hx hb dX5_about_21 (by rw [hsw_21]; omega) (by rw [hsw_21]; omega) (by rw [hsw_21, e_21]; rfl) (by decide) ?_
                        refine lv_aload_n hx hb dX5_about_136 rfl (lv_at hl 0 rfl) ?_
                        refine g_get hx hb hts hinX5 hown hG (o := 152) (hdm 152 (by decide)) rfl rfl 0 (by decide) f10 (fun _ h => h) rfl dX5_about_137 ?_
                        refine g_geti (z := (R 3)) hx hb hts hinX3 hown hG (o := 0) (hdm 0 (by decide)) (gE_T ⟨by decide, by decide⟩ G _) rfl 11 (by decide) f116 (fun _ h => h) rfl (tr_s11 hR) dX5_about_140 ?_
                        exact g_iretX (post := fun z M1 => (if 0 ≤ a ∧ a ≤ 16 then (0 : Int) else 1) = 0 ∧ z = q_abt R a ∧ q_cs M M1) (px := fun E M1 => (((if 0 ≤ a ∧ a ≤ 16 then (0 : Int) else 1) = 1 ∧ E = "java/lang/IllegalArgumentException")) ∧ q_cs M M1) (z := (R 3)) hx hb hr hG hlocks (⟨by (repeat' split) <;> first | rfl | omega | (exfalso; omega) | contradiction, by unfold q_abt; rw [e_21]; rfl, (q_cs.rf M)⟩) dX5_about_143
                      · rcases (show a = 8 ∨ 8 < a by omega) with e_21 | e_21
                        · skip
                          refine lv_tableIn (off := 123) (tgt := 144) hx hb dX5_about_21 (by rw [hsw_21]; omega) (by rw [hsw_21]; omega) (by rw [hsw_21, e_21]; rfl) (by decide) ?_
                          refine lv_aload_n hx hb dX5_about_144 rfl (lv_at hl 0 rfl) ?_
                          refine g_get hx hb hts hinX5 hown hG (o := 152) (hdm 152 (by decide)) rfl rfl 0 (by decide) f10 (fun _ h => h) rfl dX5_about_145 ?_
                          refine g_geti (z := (R 4)) hx hb hts hinX3 hown hG (o := 0) (hdm 0 (by decide)) (gE_T ⟨by decide, by decide⟩ G _) rfl 12 (by decide) f119 (fun _ h => h) rfl (tr_s12 hR) dX5_about_148 ?_
                          exact g_iretX (post := fun z M1 => (if 0 ≤ a ∧ a ≤ 16 then (0 : Int) else 1) = 0 ∧ z = q_abt R a ∧ q_cs M M1) (px := fun E M1 => (((if 0 ≤ a ∧ a ≤ 16 then (0 : Int) else 1) = 1 ∧ E = "java/lang/IllegalArgumentException")) ∧ q_cs M M1) (z := (R 4)) hx hb hr hG hlocks (⟨by (repeat' split) <;> first | rfl | omega | (exfalso; omega) | contradiction, by unfold q_abt; rw [e_21]; rfl, (q_cs.rf M)⟩) dX5_about_151
                        · rcases (show a = 9 ∨ 9 < a by omega) with e_21 | e_21
                          · skip
                            refine lv_tableIn (off := 131) (tgt := 152) hx hb dX5_about_21 (by rw [hsw_21]; omega) (by rw [hsw_21]; omega) (by rw [hsw_21, e_21]; rfl) (by decide) ?_
                            refine lv_aload_n hx hb dX5_about_152 rfl (lv_at hl 0 rfl) ?_
                            refine g_get hx hb hts hinX5 hown hG (o := 152) (hdm 152 (by decide)) rfl rfl 0 (by decide) f10 (fun _ h => h) rfl dX5_about_153 ?_
                            refine g_geti (z := (R 5)) hx hb hts hinX3 hown hG (o := 0) (hdm 0 (by decide)) (gE_T ⟨by decide, by decide⟩ G _) rfl 13 (by decide) f122 (fun _ h => h) rfl (tr_s13 hR) dX5_about_156 ?_
                            exact g_iretX (post := fun z M1 => (if 0 ≤ a ∧ a ≤ 16 then (0 : Int) else 1) = 0 ∧ z = q_abt R a ∧ q_cs M M1) (px := fun E M1 => (((if 0 ≤ a ∧ a ≤ 16 then (0 : Int) else 1) = 1 ∧ E = "java/lang/IllegalArgumentException")) ∧ q_cs M M1) (z := (R 5)) hx hb hr hG hlocks (⟨by (repeat' split) <;> first | rfl | omega | (exfalso; omega) | contradiction, by unfold q_abt; rw [e_21]; rfl, (q_cs.rf M)⟩) dX5_about_159
                          · have e_21 : a = 10 := by omega
                            refine lv_tableIn (off := 139) (tgt := 160) hx hb dX5_about_21 (by rw [hsw_21]; omega) (by rw [hsw_21]; omega) (by rw [hsw_21, e_21]; rfl) (by decide) ?_
                            refine lv_aload_n hx hb dX5_about_160 rfl (lv_at hl 0 rfl) ?_
                            refine g_get hx hb hts hinX5 hown hG (o := 152) (hdm 152 (by decide)) rfl rfl 0 (by decide) f10 (fun _ h => h) rfl dX5_about_161 ?_
                            refine g_geti (z := (R 6)) hx hb hts hinX3 hown hG (o := 0) (hdm 0 (by decide)) (gE_T ⟨by decide, by decide⟩ G _) rfl 14 (by decide) f125 (fun _ h => h) rfl (tr_s14 hR) dX5_about_164 ?_
                            exact g_iretX (post := fun z M1 => (if 0 ≤ a ∧ a ≤ 16 then (0 : Int) else 1) = 0 ∧ z = q_abt R a ∧ q_cs M M1) (px := fun E M1 => (((if 0 ≤ a ∧ a ≤ 16 then (0 : Int) else 1) = 1 ∧ E = "java/lang/IllegalArgumentException")) ∧ q_cs M M1) (z := (R 6)) hx hb hr hG hlocks (⟨by (repeat' split) <;> first | rfl | omega | (exfalso; omega) | contradiction, by unfold q_abt; rw [e_21]; rfl, (q_cs.rf M)⟩) dX5_about_167
    · skip
      exact g_throwIA hx hb hl0 hown hX hG ht9 (hl.1.trans hml.symm) (hts (.classLink RX5 55 "java/lang/IllegalArgumentException") (by decide +kernel)) (hts (.initialized "java/lang/IllegalArgumentException") (by decide +kernel)) (fun w hw => hts w (List.mem_cons_of_mem _ (List.mem_append_right _ hw))) (is := 96) (text := "there is no such number") (by decide +kernel) dX5_about_10 dX5_about_13 dX5_about_14 dX5_about_16 dX5_about_19 ⟨Nat.le_of_ble_eq_true rfl, Nat.le_of_ble_eq_true rfl, Nat.le_of_ble_eq_true rfl, Nat.le_of_ble_eq_true rfl⟩ hlocks (⟨⟨by (repeat' split) <;> first | rfl | omega | (exfalso; omega) | contradiction, rfl⟩, (q_cs.rf M)⟩)
set_option maxHeartbeats 4000000 in
set_option maxRecDepth 100000 in
theorem c_X5_dog (l : Launch) (G : gG) (M : Nat → Nat → Int) (hl0 : l.stackTraces = false) (hdm : ∀ k, k < 169 → gdm G k) (R : Nat → Int) (hR : q_tr M 0 R) (hI : q_inv R) (a : Int) (ha9 : -2147483648 ≤ a ∧ a < 2147483648) (b : Int) (hb9 : -2147483648 ≤ b ∧ b < 2147483648) : gMx l yX5_dog wsX5_dog ({ frames := 6, cells := 1, slots := 6, locals := 96 } : Room) G M [.ref (gad G 152), .int (iZ a), .int (iZ b)] (fun z M1 => (if ¬ (0 ≤ a ∧ a < q_nd R) then (1 : Int) else if ¬ (0 ≤ b ∧ b ≤ 7) then 2 else 0) = 0 ∧ z = q_dga R a.toNat b ∧ q_cs M M1) (fun E M1 => (((if ¬ (0 ≤ a ∧ a < q_nd R) then (1 : Int) else if ¬ (0 ≤ b ∧ b ≤ 7) then 2 else 0) = 1 ∧ E = "java/lang/IndexOutOfBoundsException") ∨ ((if ¬ (0 ≤ a ∧ a < q_nd R) then (1 : Int) else if ¬ (0 ≤ b ∧ b ≤ 7) then 2 else 0) = 2 ∧ E = "java/lang/IllegalArgumentException")) ∧ q_cs M M1) := by
  refine gMx_of (cc := cX5_dog) (maxL := 3) (ret := some .int) (by decide) rfl (Nat.le_of_ble_eq_true rfl) ?_
  intro p e s m below meth c ls hx hb hr hml hown hts hlocks hl hX ht9 hG
  have hown : s.vm.findClass RX5 = some m.cls := hown
  have hl : lv_has ls 3 [(0, .ref (gad G 152)), (1, .int (iZ a)), (2, .int (iZ b))] := hl
  have hinX3 : ∀ w ∈ u_ws RX3 TX3 15, w ∈ wsX5_dog := by decide +kernel
  have hinX5 : ∀ w ∈ u_ws RX5 TX5 8, w ∈ wsX5_dog := by decide +kernel
  have f10 := hts (.fieldLink RX5 10 "DogTrials" "now" "LDogTrials$Trial;") (by decide +kernel)
  have f22 := hts (.fieldLink RX5 22 "DogTrials" "course" "LDogTrials$Course;") (by decide +kernel)
  have f141 := hts (.fieldLink RX5 141 "DogTrials$Trial" "owners" "[I") (by decide +kernel)
  have f144 := hts (.fieldLink RX5 144 "DogTrials$Trial" "draws" "[I") (by decide +kernel)
  have f147 := hts (.fieldLink RX5 147 "DogTrials$Trial" "states" "[I") (by decide +kernel)
  have f150 := hts (.fieldLink RX5 150 "DogTrials$Trial" "ran" "[Z") (by decide +kernel)
  have f156 := hts (.fieldLink RX5 156 "DogTrials$Trial" "anew" "[I") (by decide +kernel)
  have hnd := hI.1
  refine lv_aload_n hx hb dX5_dog_0 rfl (lv_at hl 0 rfl) ?_
  refine g_get hx hb hts hinX5 hown hG (o := 152) (hdm 152 (by decide)) rfl rfl 0 (by decide) f10 (fun _ h => h) rfl dX5_dog_1 ?_
  refine lv_iload_n hx hb dX5_dog_4 rfl (lv_at hl 1 rfl) ?_
  refine g_callV (b := 0) (As := [.int (iZ a)]) (rest := []) ⟨hx, hb, hml, hown, hts⟩ (c_X3_hasDog l G M hdm 0 ⟨by decide, by decide⟩ R hR hI a (by omega)) (cwV 1 hts gX5_dog_X3_hasDog rfl rfl rfl (by decide +kernel) ⟨Nat.le_of_ble_eq_true rfl, Nat.le_of_ble_eq_true rfl⟩) hG (g_recv hG (b := 0) (hdm 0 (by decide)) (gE_T ⟨by decide, by decide⟩ G _) rfl) rfl hl.1 rfl (Nat.le_of_ble_eq_true rfl) dX5_dog_5 ⟨Nat.zero_le _, Nat.zero_le _⟩ (fun z1 M2 H locs hp_5 hG => ?_)
  obtain ⟨hz_5, hM_5⟩ := hp_5; replace hz_5 := hz_5.symm; subst hz_5; replace hM_5 := hM_5.symm; subst hM_5
  refine z_ifP_ne (tgt := 21) hx hb dX5_dog_8 (by decide) (fun c_8 => ?_) (fun c_8 => ?_)
  · skip
    have hna : a = ((a.toNat : Nat) : Int) := by omega
    have hdo := dok5 hI a.toNat (by omega)
    refine lv_iload_n hx hb dX5_dog_21 rfl (lv_at hl 2 rfl) ?_
    refine z_if_lt (tgt := 31) hx hb (by omega) dX5_dog_22 (by decide) (fun c_22 => ?_) (fun c_22 => ?_)
    · skip
      exact g_throwIA hx hb hl0 hown hX hG ht9 (hl.1.trans hml.symm) (hts (.classLink RX5 55 "java/lang/IllegalArgumentException") (by decide +kernel)) (hts (.initialized "java/lang/IllegalArgumentException") (by decide +kernel)) (fun w hw => hts w (List.mem_cons_of_mem _ (List.mem_append_right _ hw))) (is := 96) (text := "there is no such number") (by decide +kernel) dX5_dog_31 dX5_dog_34 dX5_dog_35 dX5_dog_37 dX5_dog_40 ⟨Nat.le_of_ble_eq_true rfl, Nat.le_of_ble_eq_true rfl, Nat.le_of_ble_eq_true rfl, Nat.le_of_ble_eq_true rfl⟩ hlocks (⟨Or.inr (⟨by (repeat' split) <;> first | rfl | omega | (exfalso; omega) | contradiction, rfl⟩), (q_cs.rf M)⟩)
    · skip
      refine lv_iload_n hx hb dX5_dog_25 rfl (lv_at hl 2 rfl) ?_
      refine lv_bipush (v := iZ (7)) hx hb dX5_dog_26 (by decide) ?_
      refine z_icmp_le (tgt := 41) hx hb (by omega) (by decide) dX5_dog_28 (by decide) (fun c_28 => ?_) (fun c_28 => ?_)
      · skip
        refine lv_iload_n hx hb dX5_dog_41 rfl (lv_at hl 2 rfl) ?_
        have hsw_42 : (iZ b).toInt = b := iZ_int (by omega)
        by_cases c_42 : b < 0 ∨ 6 < b
        · refine lv_tableOut (tgt := 160) hx hb dX5_dog_42 (by rw [hsw_42]; exact c_42) (by decide) ?_
          refine lv_aload_n hx hb dX5_dog_160 rfl (lv_at hl 0 rfl) ?_
          refine g_get hx hb hts hinX5 hown hG (o := 152) (hdm 152 (by decide)) rfl rfl 2 (by decide) f22 (fun _ h => h) rfl dX5_dog_161 ?_
          refine lv_aload_n hx hb dX5_dog_164 rfl (lv_at hl 0 rfl) ?_
          refine g_get hx hb hts hinX5 hown hG (o := 152) (hdm 152 (by decide)) rfl rfl 0 (by decide) f10 (fun _ h => h) rfl dX5_dog_165 ?_
          refine lv_iload_n hx hb dX5_dog_168 rfl (lv_at hl 1 rfl) ?_
          refine g_callV (b := 155) (As := [.ref (gad G 0), .int (iZ a)]) (rest := []) ⟨hx, hb, hml, hown, hts⟩ (c_X0_placeInOrder l G M hdm 155 (Or.inl rfl) 0 ⟨by decide, by decide⟩ R hR hI a (by omega)) (cwV 2 hts gX5_dog_X0_placeInOrder rfl rfl rfl (by decide +kernel) ⟨Nat.le_of_ble_eq_true rfl, Nat.le_of_ble_eq_true rfl⟩) hG (g_recv hG (b := 155) (hdm 155 (by decide)) (gE_C (Or.inl rfl) G _) rfl) rfl hl.1 rfl (Nat.le_of_ble_eq_true rfl) dX5_dog_169 ⟨Nat.zero_le _, Nat.zero_le _⟩ (fun z3 M4 H locs hp_169 hG => ?_)
          obtain ⟨hz_169, ho_M4⟩ := hp_169; replace hz_169 := hz_169.symm; subst hz_169
          have hR_M4 : q_tr M4 0 R := q_tr_off hR ho_M4 (by omega)
          exact g_iretX (post := fun z M1 => (if ¬ (0 ≤ a ∧ a < q_nd R) then (1 : Int) else if ¬ (0 ≤ b ∧ b ≤ 7) then 2 else 0) = 0 ∧ z = q_dga R a.toNat b ∧ q_cs M M1) (px := fun E M1 => (((if ¬ (0 ≤ a ∧ a < q_nd R) then (1 : Int) else if ¬ (0 ≤ b ∧ b ≤ 7) then 2 else 0) = 1 ∧ E = "java/lang/IndexOutOfBoundsException") ∨ ((if ¬ (0 ≤ a ∧ a < q_nd R) then (1 : Int) else if ¬ (0 ≤ b ∧ b ≤ 7) then 2 else 0) = 2 ∧ E = "java/lang/IllegalArgumentException")) ∧ q_cs M M1) (z := (q_pio R a)) hx hb hr hG hlocks (⟨by (repeat' split) <;> first | rfl | omega | (exfalso; omega) | contradiction, by unfold q_dga; rw [if_neg (by omega), if_neg (by omega), if_pos (by omega), ← hna], (q_cs.off (q_cs.rf M) ho_M4 (by omega))⟩) dX5_dog_172
        · rcases (show b = 0 ∨ 0 < b by omega) with e_42 | e_42
          · skip
            refine lv_tableIn (off := 42) (tgt := 84) hx hb dX5_dog_42 (by rw [hsw_42]; omega) (by rw [hsw_42]; omega) (by rw [hsw_42, e_42]; rfl) (by decide) ?_
            refine lv_aload_n hx hb dX5_dog_84 rfl (lv_at hl 0 rfl) ?_
            refine g_get hx hb hts hinX5 hown hG (o := 152) (hdm 152 (by decide)) rfl rfl 0 (by decide) f10 (fun _ h => h) rfl dX5_dog_85 ?_
            refine g_get hx hb hts hinX3 hown hG (o := 0) (hdm 0 (by decide)) (gE_T ⟨by decide, by decide⟩ G _) rfl 1 (by decide) f141 (fun _ h => h) rfl dX5_dog_88 ?_
            refine lv_iload_n hx hb dX5_dog_91 rfl (lv_at hl 1 rfl) ?_
            refine g_iald (z := (q_ow R ((a.toNat)))) (j := ((a.toNat))) hx hb hG (o := 1) (hdm 1 (by decide)) (gE_tI ⟨by decide, by decide⟩ 1 (by decide) G _) (by omega) (by omega) (by omega) (tr_ow hR (i := ((a.toNat))) (by omega)) dX5_dog_92 ?_
            exact g_iretX (post := fun z M1 => (if ¬ (0 ≤ a ∧ a < q_nd R) then (1 : Int) else if ¬ (0 ≤ b ∧ b ≤ 7) then 2 else 0) = 0 ∧ z = q_dga R a.toNat b ∧ q_cs M M1) (px := fun E M1 => (((if ¬ (0 ≤ a ∧ a < q_nd R) then (1 : Int) else if ¬ (0 ≤ b ∧ b ≤ 7) then 2 else 0) = 1 ∧ E = "java/lang/IndexOutOfBoundsException") ∨ ((if ¬ (0 ≤ a ∧ a < q_nd R) then (1 : Int) else if ¬ (0 ≤ b ∧ b ≤ 7) then 2 else 0) = 2 ∧ E = "java/lang/IllegalArgumentException")) ∧ q_cs M M1) (z := (q_ow R ((a.toNat)))) hx hb hr hG hlocks (⟨by (repeat' split) <;> first | rfl | omega | (exfalso; omega) | contradiction, by unfold q_dga; rw [e_42]; rfl, (q_cs.rf M)⟩) dX5_dog_93
          · rcases (show b = 1 ∨ 1 < b by omega) with e_42 | e_42
            · skip
              refine lv_tableIn (off := 52) (tgt := 94) hx hb dX5_dog_42 (by rw [hsw_42]; omega) (by rw [hsw_42]; omega) (by rw [hsw_42, e_42]; rfl) (by decide) ?_
              refine lv_aload_n hx hb dX5_dog_94 rfl (lv_at hl 0 rfl) ?_
              refine g_get hx hb hts hinX5 hown hG (o := 152) (hdm 152 (by decide)) rfl rfl 0 (by decide) f10 (fun _ h => h) rfl dX5_dog_95 ?_
              refine g_get hx hb hts hinX3 hown hG (o := 0) (hdm 0 (by decide)) (gE_T ⟨by decide, by decide⟩ G _) rfl 2 (by decide) f144 (fun _ h => h) rfl dX5_dog_98 ?_
              refine lv_iload_n hx hb dX5_dog_101 rfl (lv_at hl 1 rfl) ?_
              refine g_iald (z := (q_dr R ((a.toNat)))) (j := ((a.toNat))) hx hb hG (o := 2) (hdm 2 (by decide)) (gE_tI ⟨by decide, by decide⟩ 2 (by decide) G _) (by omega) (by omega) (by omega) (tr_dr hR (i := ((a.toNat))) (by omega)) dX5_dog_102 ?_
              exact g_iretX (post := fun z M1 => (if ¬ (0 ≤ a ∧ a < q_nd R) then (1 : Int) else if ¬ (0 ≤ b ∧ b ≤ 7) then 2 else 0) = 0 ∧ z = q_dga R a.toNat b ∧ q_cs M M1) (px := fun E M1 => (((if ¬ (0 ≤ a ∧ a < q_nd R) then (1 : Int) else if ¬ (0 ≤ b ∧ b ≤ 7) then 2 else 0) = 1 ∧ E = "java/lang/IndexOutOfBoundsException") ∨ ((if ¬ (0 ≤ a ∧ a < q_nd R) then (1 : Int) else if ¬ (0 ≤ b ∧ b ≤ 7) then 2 else 0) = 2 ∧ E = "java/lang/IllegalArgumentException")) ∧ q_cs M M1) (z := (q_dr R ((a.toNat)))) hx hb hr hG hlocks (⟨by (repeat' split) <;> first | rfl | omega | (exfalso; omega) | contradiction, by unfold q_dga; rw [e_42]; rfl, (q_cs.rf M)⟩) dX5_dog_103
            · rcases (show b = 2 ∨ 2 < b by omega) with e_42 | e_42
              · skip
                refine lv_tableIn (off := 62) (tgt := 104) hx hb dX5_dog_42 (by rw [hsw_42]; omega) (by rw [hsw_42]; omega) (by rw [hsw_42, e_42]; rfl) (by decide) ?_
                refine lv_aload_n hx hb dX5_dog_104 rfl (lv_at hl 0 rfl) ?_
                refine g_get hx hb hts hinX5 hown hG (o := 152) (hdm 152 (by decide)) rfl rfl 0 (by decide) f10 (fun _ h => h) rfl dX5_dog_105 ?_
                refine g_get hx hb hts hinX3 hown hG (o := 0) (hdm 0 (by decide)) (gE_T ⟨by decide, by decide⟩ G _) rfl 3 (by decide) f147 (fun _ h => h) rfl dX5_dog_108 ?_
                refine lv_iload_n hx hb dX5_dog_111 rfl (lv_at hl 1 rfl) ?_
                refine g_iald (z := (q_sa R ((a.toNat)))) (j := ((a.toNat))) hx hb hG (o := 3) (hdm 3 (by decide)) (gE_tI ⟨by decide, by decide⟩ 3 (by decide) G _) (by omega) (by omega) (by omega) (tr_sa hR (i := ((a.toNat))) (by omega)) dX5_dog_112 ?_
                exact g_iretX (post := fun z M1 => (if ¬ (0 ≤ a ∧ a < q_nd R) then (1 : Int) else if ¬ (0 ≤ b ∧ b ≤ 7) then 2 else 0) = 0 ∧ z = q_dga R a.toNat b ∧ q_cs M M1) (px := fun E M1 => (((if ¬ (0 ≤ a ∧ a < q_nd R) then (1 : Int) else if ¬ (0 ≤ b ∧ b ≤ 7) then 2 else 0) = 1 ∧ E = "java/lang/IndexOutOfBoundsException") ∨ ((if ¬ (0 ≤ a ∧ a < q_nd R) then (1 : Int) else if ¬ (0 ≤ b ∧ b ≤ 7) then 2 else 0) = 2 ∧ E = "java/lang/IllegalArgumentException")) ∧ q_cs M M1) (z := (q_sa R ((a.toNat)))) hx hb hr hG hlocks (⟨by (repeat' split) <;> first | rfl | omega | (exfalso; omega) | contradiction, by unfold q_dga; rw [e_42]; rfl, (q_cs.rf M)⟩) dX5_dog_113
              · rcases (show b = 3 ∨ 3 < b by omega) with e_42 | e_42
                · skip
                  refine lv_tableIn (off := 72) (tgt := 114) hx hb dX5_dog_42 (by rw [hsw_42]; omega) (by rw [hsw_42]; omega) (by rw [hsw_42, e_42]; rfl) (by decide) ?_
                  refine lv_aload_n hx hb dX5_dog_114 rfl (lv_at hl 0 rfl) ?_
                  refine g_get hx hb hts hinX5 hown hG (o := 152) (hdm 152 (by decide)) rfl rfl 0 (by decide) f10 (fun _ h => h) rfl dX5_dog_115 ?_
                  refine g_get hx hb hts hinX3 hown hG (o := 0) (hdm 0 (by decide)) (gE_T ⟨by decide, by decide⟩ G _) rfl 4 (by decide) f150 (fun _ h => h) rfl dX5_dog_118 ?_
                  refine lv_iload_n hx hb dX5_dog_121 rfl (lv_at hl 1 rfl) ?_
                  refine g_zald (z := (q_hs R ((a.toNat)))) (j := ((a.toNat))) hx hb hG (o := 4) (hdm 4 (by decide)) (gE_tZ ⟨by decide, by decide⟩ G _) (by omega) (by omega) (by omega) (tr_hs hR (i := ((a.toNat))) (by omega)) dX5_dog_122 ?_
                  refine z_if_eq (tgt := 130) hx hb (by omega) dX5_dog_123 (by decide) (fun c_123 => ?_) (fun c_123 => ?_)
                  · skip
                    refine lv_iconst (v := iZ 0) hx hb dX5_dog_130 rfl ?_
                    exact g_iretX (post := fun z M1 => (if ¬ (0 ≤ a ∧ a < q_nd R) then (1 : Int) else if ¬ (0 ≤ b ∧ b ≤ 7) then 2 else 0) = 0 ∧ z = q_dga R a.toNat b ∧ q_cs M M1) (px := fun E M1 => (((if ¬ (0 ≤ a ∧ a < q_nd R) then (1 : Int) else if ¬ (0 ≤ b ∧ b ≤ 7) then 2 else 0) = 1 ∧ E = "java/lang/IndexOutOfBoundsException") ∨ ((if ¬ (0 ≤ a ∧ a < q_nd R) then (1 : Int) else if ¬ (0 ≤ b ∧ b ≤ 7) then 2 else 0) = 2 ∧ E = "java/lang/IllegalArgumentException")) ∧ q_cs M M1) (z := 0) hx hb hr hG hlocks (⟨by (repeat' split) <;> first | rfl | omega | (exfalso; omega) | contradiction, by unfold q_dga; rw [e_42]; show _ = q_hs R a.toNat; omega, (q_cs.rf M)⟩) dX5_dog_131
                  · skip
                    refine lv_iconst (v := iZ 1) hx hb dX5_dog_126 rfl ?_
                    refine lv_goto (tgt := 131) hx hb dX5_dog_127 (by decide) ?_
                    exact g_iretX (post := fun z M1 => (if ¬ (0 ≤ a ∧ a < q_nd R) then (1 : Int) else if ¬ (0 ≤ b ∧ b ≤ 7) then 2 else 0) = 0 ∧ z = q_dga R a.toNat b ∧ q_cs M M1) (px := fun E M1 => (((if ¬ (0 ≤ a ∧ a < q_nd R) then (1 : Int) else if ¬ (0 ≤ b ∧ b ≤ 7) then 2 else 0) = 1 ∧ E = "java/lang/IndexOutOfBoundsException") ∨ ((if ¬ (0 ≤ a ∧ a < q_nd R) then (1 : Int) else if ¬ (0 ≤ b ∧ b ≤ 7) then 2 else 0) = 2 ∧ E = "java/lang/IllegalArgumentException")) ∧ q_cs M M1) (z := 1) hx hb hr hG hlocks (⟨by (repeat' split) <;> first | rfl | omega | (exfalso; omega) | contradiction, by unfold q_dga; rw [e_42]; show _ = q_hs R a.toNat; omega, (q_cs.rf M)⟩) dX5_dog_131
                · rcases (show b = 4 ∨ 4 < b by omega) with e_42 | e_42
                  · skip
                    refine lv_tableIn (off := 90) (tgt := 132) hx hb dX5_dog_42 (by rw [hsw_42]; omega) (by rw [hsw_42]; omega) (by rw [hsw_42, e_42]; rfl) (by decide) ?_
                    refine lv_aload_n hx hb dX5_dog_132 rfl (lv_at hl 0 rfl) ?_
                    refine g_get hx hb hts hinX5 hown hG (o := 152) (hdm 152 (by decide)) rfl rfl 0 (by decide) f10 (fun _ h => h) rfl dX5_dog_133 ?_
                    refine lv_iload_n hx hb dX5_dog_136 rfl (lv_at hl 1 rfl) ?_
                    refine g_callV (b := 0) (As := [.int (iZ ((a.toNat) : Int))]) (rest := []) ⟨hx, hb, hml, hown, hts⟩ (c_X3_scoreOf l G M hdm 0 ⟨by decide, by decide⟩ R hR hI ((a.toNat)) (by omega)) (cwV 1 hts gX5_dog_X3_scoreOf rfl rfl rfl (by decide +kernel) ⟨Nat.le_of_ble_eq_true rfl, Nat.le_of_ble_eq_true rfl⟩) hG (g_recv hG (b := 0) (hdm 0 (by decide)) (gE_T ⟨by decide, by decide⟩ G _) rfl) rfl hl.1 (by rw [← hna]; rfl) (Nat.le_of_ble_eq_true rfl) dX5_dog_137 ⟨Nat.zero_le _, Nat.zero_le _⟩ (fun z5 M6 H locs hp_137 hG => ?_)
                    obtain ⟨hz_137, hM_137⟩ := hp_137; replace hz_137 := hz_137.symm; subst hz_137; replace hM_137 := hM_137.symm; subst hM_137
                    exact g_iretX (post := fun z M1 => (if ¬ (0 ≤ a ∧ a < q_nd R) then (1 : Int) else if ¬ (0 ≤ b ∧ b ≤ 7) then 2 else 0) = 0 ∧ z = q_dga R a.toNat b ∧ q_cs M M1) (px := fun E M1 => (((if ¬ (0 ≤ a ∧ a < q_nd R) then (1 : Int) else if ¬ (0 ≤ b ∧ b ≤ 7) then 2 else 0) = 1 ∧ E = "java/lang/IndexOutOfBoundsException") ∨ ((if ¬ (0 ≤ a ∧ a < q_nd R) then (1 : Int) else if ¬ (0 ≤ b ∧ b ≤ 7) then 2 else 0) = 2 ∧ E = "java/lang/IllegalArgumentException")) ∧ q_cs M M1) (z := (q_sc R ((a.toNat)))) hx hb hr hG hlocks (⟨by (repeat' split) <;> first | rfl | omega | (exfalso; omega) | contradiction, by unfold q_dga; rw [e_42]; rfl, (q_cs.rf M)⟩) dX5_dog_140
                  · rcases (show b = 5 ∨ 5 < b by omega) with e_42 | e_42
                    · skip
                      refine lv_tableIn (off := 99) (tgt := 141) hx hb dX5_dog_42 (by rw [hsw_42]; omega) (by rw [hsw_42]; omega) (by rw [hsw_42, e_42]; rfl) (by decide) ?_
                      refine lv_aload_n hx hb dX5_dog_141 rfl (lv_at hl 0 rfl) ?_
                      refine g_get hx hb hts hinX5 hown hG (o := 152) (hdm 152 (by decide)) rfl rfl 0 (by decide) f10 (fun _ h => h) rfl dX5_dog_142 ?_
                      refine g_get hx hb hts hinX3 hown hG (o := 0) (hdm 0 (by decide)) (gE_T ⟨by decide, by decide⟩ G _) rfl 5 (by decide) f156 (fun _ h => h) rfl dX5_dog_145 ?_
                      refine lv_iload_n hx hb dX5_dog_148 rfl (lv_at hl 1 rfl) ?_
                      refine g_iald (z := (q_fr R ((a.toNat)))) (j := ((a.toNat))) hx hb hG (o := 5) (hdm 5 (by decide)) (gE_tI ⟨by decide, by decide⟩ 5 (by decide) G _) (by omega) (by omega) (by omega) (tr_fr hR (i := ((a.toNat))) (by omega)) dX5_dog_149 ?_
                      exact g_iretX (post := fun z M1 => (if ¬ (0 ≤ a ∧ a < q_nd R) then (1 : Int) else if ¬ (0 ≤ b ∧ b ≤ 7) then 2 else 0) = 0 ∧ z = q_dga R a.toNat b ∧ q_cs M M1) (px := fun E M1 => (((if ¬ (0 ≤ a ∧ a < q_nd R) then (1 : Int) else if ¬ (0 ≤ b ∧ b ≤ 7) then 2 else 0) = 1 ∧ E = "java/lang/IndexOutOfBoundsException") ∨ ((if ¬ (0 ≤ a ∧ a < q_nd R) then (1 : Int) else if ¬ (0 ≤ b ∧ b ≤ 7) then 2 else 0) = 2 ∧ E = "java/lang/IllegalArgumentException")) ∧ q_cs M M1) (z := (q_fr R ((a.toNat)))) hx hb hr hG hlocks (⟨by (repeat' split) <;> first | rfl | omega | (exfalso; omega) | contradiction, by unfold q_dga; rw [e_42]; rfl, (q_cs.rf M)⟩) dX5_dog_150
                    · have e_42 : b = 6 := by omega
                      refine lv_tableIn (off := 109) (tgt := 151) hx hb dX5_dog_42 (by rw [hsw_42]; omega) (by rw [hsw_42]; omega) (by rw [hsw_42, e_42]; rfl) (by decide) ?_
                      refine lv_aload_n hx hb dX5_dog_151 rfl (lv_at hl 0 rfl) ?_
                      refine g_get hx hb hts hinX5 hown hG (o := 152) (hdm 152 (by decide)) rfl rfl 0 (by decide) f10 (fun _ h => h) rfl dX5_dog_152 ?_
                      refine lv_iload_n hx hb dX5_dog_155 rfl (lv_at hl 1 rfl) ?_
                      refine g_callV (b := 0) (As := [.int (iZ ((a.toNat) : Int))]) (rest := []) ⟨hx, hb, hml, hown, hts⟩ (c_X3_placeOf l G M hdm 0 ⟨by decide, by decide⟩ R hR hI ((a.toNat)) (by omega)) (cwV 1 hts gX5_dog_X3_placeOf rfl rfl rfl (by decide +kernel) ⟨Nat.le_of_ble_eq_true rfl, Nat.le_of_ble_eq_true rfl⟩) hG (g_recv hG (b := 0) (hdm 0 (by decide)) (gE_T ⟨by decide, by decide⟩ G _) rfl) rfl hl.1 (by rw [← hna]; rfl) (Nat.le_of_ble_eq_true rfl) dX5_dog_156 ⟨Nat.zero_le _, Nat.zero_le _⟩ (fun z7 M8 H locs hp_156 hG => ?_)
                      obtain ⟨hz_156, hM_156⟩ := hp_156; replace hz_156 := hz_156.symm; subst hz_156; replace hM_156 := hM_156.symm; subst hM_156
                      exact g_iretX (post := fun z M1 => (if ¬ (0 ≤ a ∧ a < q_nd R) then (1 : Int) else if ¬ (0 ≤ b ∧ b ≤ 7) then 2 else 0) = 0 ∧ z = q_dga R a.toNat b ∧ q_cs M M1) (px := fun E M1 => (((if ¬ (0 ≤ a ∧ a < q_nd R) then (1 : Int) else if ¬ (0 ≤ b ∧ b ≤ 7) then 2 else 0) = 1 ∧ E = "java/lang/IndexOutOfBoundsException") ∨ ((if ¬ (0 ≤ a ∧ a < q_nd R) then (1 : Int) else if ¬ (0 ≤ b ∧ b ≤ 7) then 2 else 0) = 2 ∧ E = "java/lang/IllegalArgumentException")) ∧ q_cs M M1) (z := (q_pl R ((a.toNat)))) hx hb hr hG hlocks (⟨by (repeat' split) <;> first | rfl | omega | (exfalso; omega) | contradiction, by unfold q_dga; rw [e_42]; rfl, (q_cs.rf M)⟩) dX5_dog_159
      · skip
        exact g_throwIA hx hb hl0 hown hX hG ht9 (hl.1.trans hml.symm) (hts (.classLink RX5 55 "java/lang/IllegalArgumentException") (by decide +kernel)) (hts (.initialized "java/lang/IllegalArgumentException") (by decide +kernel)) (fun w hw => hts w (List.mem_cons_of_mem _ (List.mem_append_right _ hw))) (is := 96) (text := "there is no such number") (by decide +kernel) dX5_dog_31 dX5_dog_34 dX5_dog_35 dX5_dog_37 dX5_dog_40 ⟨Nat.le_of_ble_eq_true rfl, Nat.le_of_ble_eq_true rfl, Nat.le_of_ble_eq_true rfl, Nat.le_of_ble_eq_true rfl⟩ hlocks (⟨Or.inr (⟨by (repeat' split) <;> first | rfl | omega | (exfalso; omega) | contradiction, rfl⟩), (q_cs.rf M)⟩)
  · skip
    exact g_throwIO hx hb hl0 hown hX hG ht9 (hl.1.trans hml.symm) (hts (.classLink RX5 136 "java/lang/IndexOutOfBoundsException") (by decide +kernel)) (hts (.initialized "java/lang/IndexOutOfBoundsException") (by decide +kernel)) (fun w hw => hts w (List.mem_cons_of_mem _ (List.mem_append_left _ (List.mem_append_right _ hw)))) (is := 138) (text := "there is no such dog") (by decide +kernel) dX5_dog_11 dX5_dog_14 dX5_dog_15 dX5_dog_17 dX5_dog_20 ⟨Nat.le_of_ble_eq_true rfl, Nat.le_of_ble_eq_true rfl, Nat.le_of_ble_eq_true rfl, Nat.le_of_ble_eq_true rfl⟩ hlocks (⟨Or.inl ⟨by (repeat' split) <;> first | rfl | omega | (exfalso; omega) | contradiction, rfl⟩, (q_cs.rf M)⟩)
set_option maxHeartbeats 4000000 in
set_option maxRecDepth 100000 in
theorem c_X5_lost (l : Launch) (G : gG) (M : Nat → Nat → Int) (hl0 : l.stackTraces = false) (hdm : ∀ k, k < 169 → gdm G k) (R : Nat → Int) (hR : q_tr M 0 R) (hI : q_inv R) (a : Int) (ha9 : -2147483648 ≤ a ∧ a < 2147483648) (b : Int) (hb9 : -2147483648 ≤ b ∧ b < 2147483648) : gMx l yX5_lost wsX5_lost ({ frames := 6, cells := 1, slots := 6, locals := 90 } : Room) G M [.ref (gad G 152), .int (iZ a), .int (iZ b)] (fun z M1 => (if 0 ≤ a ∧ a < q_nd R ∧ 0 ≤ b ∧ b ≤ 5 then (0 : Int) else 1) = 0 ∧ z = (if q_hs R a.toNat = 1 then q_lo R a.toNat b.toNat else -9) ∧ q_cs M M1) (fun E M1 => (((if 0 ≤ a ∧ a < q_nd R ∧ 0 ≤ b ∧ b ≤ 5 then (0 : Int) else 1) = 1 ∧ E = "java/lang/IndexOutOfBoundsException")) ∧ q_cs M M1) := by
  refine gMx_of (cc := cX5_lost) (maxL := 3) (ret := some .int) (by decide) rfl (Nat.le_of_ble_eq_true rfl) ?_
  intro p e s m below meth c ls hx hb hr hml hown hts hlocks hl hX ht9 hG
  have hown : s.vm.findClass RX5 = some m.cls := hown
  have hl : lv_has ls 3 [(0, .ref (gad G 152)), (1, .int (iZ a)), (2, .int (iZ b))] := hl
  have hinX3 : ∀ w ∈ u_ws RX3 TX3 15, w ∈ wsX5_lost := by decide +kernel
  have hinX5 : ∀ w ∈ u_ws RX5 TX5 8, w ∈ wsX5_lost := by decide +kernel
  have f10 := hts (.fieldLink RX5 10 "DogTrials" "now" "LDogTrials$Trial;") (by decide +kernel)
  have f150 := hts (.fieldLink RX5 150 "DogTrials$Trial" "ran" "[Z") (by decide +kernel)
  have hnd := hI.1
  refine lv_aload_n hx hb dX5_lost_0 rfl (lv_at hl 0 rfl) ?_
  refine g_get hx hb hts hinX5 hown hG (o := 152) (hdm 152 (by decide)) rfl rfl 0 (by decide) f10 (fun _ h => h) rfl dX5_lost_1 ?_
  refine lv_iload_n hx hb dX5_lost_4 rfl (lv_at hl 1 rfl) ?_
  refine g_callV (b := 0) (As := [.int (iZ a)]) (rest := []) ⟨hx, hb, hml, hown, hts⟩ (c_X3_hasDog l G M hdm 0 ⟨by decide, by decide⟩ R hR hI a (by omega)) (cwV 1 hts gX5_lost_X3_hasDog rfl rfl rfl (by decide +kernel) ⟨Nat.le_of_ble_eq_true rfl, Nat.le_of_ble_eq_true rfl⟩) hG (g_recv hG (b := 0) (hdm 0 (by decide)) (gE_T ⟨by decide, by decide⟩ G _) rfl) rfl hl.1 rfl (Nat.le_of_ble_eq_true rfl) dX5_lost_5 ⟨Nat.zero_le _, Nat.zero_le _⟩ (fun z1 M2 H locs hp_5 hG => ?_)
  obtain ⟨hz_5, hM_5⟩ := hp_5; replace hz_5 := hz_5.symm; subst hz_5; replace hM_5 := hM_5.symm; subst hM_5
  refine z_ifP_eq (tgt := 18) hx hb dX5_lost_8 (by decide) (fun c_8 => ?_) (fun c_8 => ?_)
  · skip
    exact g_throwIO hx hb hl0 hown hX hG ht9 (hl.1.trans hml.symm) (hts (.classLink RX5 136 "java/lang/IndexOutOfBoundsException") (by decide +kernel)) (hts (.initialized "java/lang/IndexOutOfBoundsException") (by decide +kernel)) (fun w hw => hts w (List.mem_cons_of_mem _ (List.mem_append_right _ hw))) (is := 169) (text := "there is no such dog or phase") (by decide +kernel) dX5_lost_18 dX5_lost_21 dX5_lost_22 dX5_lost_24 dX5_lost_27 ⟨Nat.le_of_ble_eq_true rfl, Nat.le_of_ble_eq_true rfl, Nat.le_of_ble_eq_true rfl, Nat.le_of_ble_eq_true rfl⟩ hlocks (⟨⟨by (repeat' split) <;> first | rfl | omega | (exfalso; omega) | contradiction, rfl⟩, (q_cs.rf M)⟩)
  · skip
    refine lv_iload_n hx hb dX5_lost_11 rfl (lv_at hl 2 rfl) ?_
    refine g_callS (As := [.int (iZ b)]) (rest := []) ⟨hx, hb, hml, hown, hts⟩ (c_X5_isPhase l G M b (by omega)) (va_cwS 1 hts gX5_lost_X5_isPhase rfl rfl rfl (by decide +kernel) ⟨Nat.le_of_ble_eq_true rfl, Nat.le_of_ble_eq_true rfl⟩) hG rfl hl.1 rfl (Nat.le_of_ble_eq_true rfl) dX5_lost_12 ⟨Nat.zero_le _, Nat.zero_le _⟩ (fun z3 M4 H locs hp_12 hG => ?_)
    obtain ⟨hz_12, hM_12⟩ := hp_12; replace hz_12 := hz_12.symm; subst hz_12; replace hM_12 := hM_12.symm; subst hM_12
    refine z_ifP_ne (tgt := 28) hx hb dX5_lost_15 (by decide) (fun c_15 => ?_) (fun c_15 => ?_)
    · skip
      have hna : a = ((a.toNat : Nat) : Int) := by omega
      have hnb : b = ((b.toNat : Nat) : Int) := by omega
      have hdo := dok5 hI a.toNat (by omega)
      refine lv_aload_n hx hb dX5_lost_28 rfl (lv_at hl 0 rfl) ?_
      refine g_get hx hb hts hinX5 hown hG (o := 152) (hdm 152 (by decide)) rfl rfl 0 (by decide) f10 (fun _ h => h) rfl dX5_lost_29 ?_
      refine g_get hx hb hts hinX3 hown hG (o := 0) (hdm 0 (by decide)) (gE_T ⟨by decide, by decide⟩ G _) rfl 4 (by decide) f150 (fun _ h => h) rfl dX5_lost_32 ?_
      refine lv_iload_n hx hb dX5_lost_35 rfl (lv_at hl 1 rfl) ?_
      refine g_zald (z := (q_hs R ((a.toNat)))) (j := ((a.toNat))) hx hb hG (o := 4) (hdm 4 (by decide)) (gE_tZ ⟨by decide, by decide⟩ G _) (by omega) (by omega) (by omega) (tr_hs hR (i := ((a.toNat))) (by omega)) dX5_lost_36 ?_
      refine z_if_eq (tgt := 52) hx hb (by omega) dX5_lost_37 (by decide) (fun c_37 => ?_) (fun c_37 => ?_)
      · skip
        refine lv_bipush (v := iZ (-9)) hx hb dX5_lost_52 (by decide) ?_
        exact g_iretX (post := fun z M1 => (if 0 ≤ a ∧ a < q_nd R ∧ 0 ≤ b ∧ b ≤ 5 then (0 : Int) else 1) = 0 ∧ z = (if q_hs R a.toNat = 1 then q_lo R a.toNat b.toNat else -9) ∧ q_cs M M1) (px := fun E M1 => (((if 0 ≤ a ∧ a < q_nd R ∧ 0 ≤ b ∧ b ≤ 5 then (0 : Int) else 1) = 1 ∧ E = "java/lang/IndexOutOfBoundsException")) ∧ q_cs M M1) (z := (-9)) hx hb hr hG hlocks (⟨by (repeat' split) <;> first | rfl | omega | (exfalso; omega) | contradiction, by first | (rw [if_pos (by omega)]; done) | (rw [if_neg (by omega)]; done), (q_cs.rf M)⟩) dX5_lost_54
      · skip
        refine lv_aload_n hx hb dX5_lost_40 rfl (lv_at hl 0 rfl) ?_
        refine g_get hx hb hts hinX5 hown hG (o := 152) (hdm 152 (by decide)) rfl rfl 0 (by decide) f10 (fun _ h => h) rfl dX5_lost_41 ?_
        refine lv_iload_n hx hb dX5_lost_44 rfl (lv_at hl 1 rfl) ?_
        refine lv_iload_n hx hb dX5_lost_45 rfl (lv_at hl 2 rfl) ?_
        refine g_callV (b := 0) (As := [.int (iZ ((a.toNat) : Int)), .int (iZ ((b.toNat) : Int))]) (rest := []) ⟨hx, hb, hml, hown, hts⟩ (c_X3_lossOf l G M hdm 0 ⟨by decide, by decide⟩ R hR hI ((a.toNat)) (by omega) ((b.toNat)) (by omega) (by first | assumption | omega)) (cwV 2 hts gX5_lost_X3_lossOf rfl rfl rfl (by decide +kernel) ⟨Nat.le_of_ble_eq_true rfl, Nat.le_of_ble_eq_true rfl⟩) hG (g_recv hG (b := 0) (hdm 0 (by decide)) (gE_T ⟨by decide, by decide⟩ G _) rfl) rfl hl.1 (by rw [← hna, ← hnb]; rfl) (Nat.le_of_ble_eq_true rfl) dX5_lost_46 ⟨Nat.zero_le _, Nat.zero_le _⟩ (fun z5 M6 H locs hp_46 hG => ?_)
        obtain ⟨hz_46, hM_46⟩ := hp_46; replace hz_46 := hz_46.symm; subst hz_46; replace hM_46 := hM_46.symm; subst hM_46
        refine lv_goto (tgt := 54) hx hb dX5_lost_49 (by decide) ?_
        exact g_iretX (post := fun z M1 => (if 0 ≤ a ∧ a < q_nd R ∧ 0 ≤ b ∧ b ≤ 5 then (0 : Int) else 1) = 0 ∧ z = (if q_hs R a.toNat = 1 then q_lo R a.toNat b.toNat else -9) ∧ q_cs M M1) (px := fun E M1 => (((if 0 ≤ a ∧ a < q_nd R ∧ 0 ≤ b ∧ b ≤ 5 then (0 : Int) else 1) = 1 ∧ E = "java/lang/IndexOutOfBoundsException")) ∧ q_cs M M1) (z := (q_lo R ((a.toNat)) ((b.toNat)))) hx hb hr hG hlocks (⟨by (repeat' split) <;> first | rfl | omega | (exfalso; omega) | contradiction, by first | (rw [if_pos (by omega)]; done) | (rw [if_neg (by omega)]; done), (q_cs.rf M)⟩) dX5_lost_54
    · skip
      exact g_throwIO hx hb hl0 hown hX hG ht9 (hl.1.trans hml.symm) (hts (.classLink RX5 136 "java/lang/IndexOutOfBoundsException") (by decide +kernel)) (hts (.initialized "java/lang/IndexOutOfBoundsException") (by decide +kernel)) (fun w hw => hts w (List.mem_cons_of_mem _ (List.mem_append_right _ hw))) (is := 169) (text := "there is no such dog or phase") (by decide +kernel) dX5_lost_18 dX5_lost_21 dX5_lost_22 dX5_lost_24 dX5_lost_27 ⟨Nat.le_of_ble_eq_true rfl, Nat.le_of_ble_eq_true rfl, Nat.le_of_ble_eq_true rfl, Nat.le_of_ble_eq_true rfl⟩ hlocks (⟨⟨by (repeat' split) <;> first | rfl | omega | (exfalso; omega) | contradiction, rfl⟩, (q_cs.rf M)⟩)
set_option maxHeartbeats 4000000 in
set_option maxRecDepth 100000 in
theorem c_X5_order (l : Launch) (G : gG) (M : Nat → Nat → Int) (hl0 : l.stackTraces = false) (hdm : ∀ k, k < 169 → gdm G k) (R : Nat → Int) (hR : q_tr M 0 R) (hI : q_inv R) (a : Int) (ha9 : -2147483648 ≤ a ∧ a < 2147483648) : gMx l yX5_order wsX5_order ({ frames := 6, cells := 1, slots := 6, locals := 90 } : Room) G M [.ref (gad G 152), .int (iZ a)] (fun z M1 => (if a < 0 then (1 : Int) else 0) = 0 ∧ z = q_atk R a ∧ q_cs M M1) (fun E M1 => (((if a < 0 then (1 : Int) else 0) = 1 ∧ E = "java/lang/IllegalArgumentException")) ∧ q_cs M M1) := by
  refine gMx_of (cc := cX5_order) (maxL := 2) (ret := some .int) (by decide) rfl (Nat.le_of_ble_eq_true rfl) ?_
  intro p e s m below meth c ls hx hb hr hml hown hts hlocks hl hX ht9 hG
  have hown : s.vm.findClass RX5 = some m.cls := hown
  have hl : lv_has ls 2 [(0, .ref (gad G 152)), (1, .int (iZ a))] := hl
  have hinX5 : ∀ w ∈ u_ws RX5 TX5 8, w ∈ wsX5_order := by decide +kernel
  have f10 := hts (.fieldLink RX5 10 "DogTrials" "now" "LDogTrials$Trial;") (by decide +kernel)
  have f22 := hts (.fieldLink RX5 22 "DogTrials" "course" "LDogTrials$Course;") (by decide +kernel)
  refine lv_iload_n hx hb dX5_order_0 rfl (lv_at hl 1 rfl) ?_
  refine z_if_ge (tgt := 14) hx hb (by omega) dX5_order_1 (by decide) (fun c_1 => ?_) (fun c_1 => ?_)
  · skip
    refine lv_aload_n hx hb dX5_order_14 rfl (lv_at hl 0 rfl) ?_
    refine g_get hx hb hts hinX5 hown hG (o := 152) (hdm 152 (by decide)) rfl rfl 2 (by decide) f22 (fun _ h => h) rfl dX5_order_15 ?_
    refine lv_aload_n hx hb dX5_order_18 rfl (lv_at hl 0 rfl) ?_
    refine g_get hx hb hts hinX5 hown hG (o := 152) (hdm 152 (by decide)) rfl rfl 0 (by decide) f10 (fun _ h => h) rfl dX5_order_19 ?_
    refine lv_iload_n hx hb dX5_order_22 rfl (lv_at hl 1 rfl) ?_
    refine g_callV (b := 155) (As := [.ref (gad G 0), .int (iZ a)]) (rest := []) ⟨hx, hb, hml, hown, hts⟩ (c_X0_dogInOrder l G M hdm 155 (Or.inl rfl) 0 ⟨by decide, by decide⟩ R hR hI a (by omega)) (cwV 2 hts gX5_order_X0_dogInOrder rfl rfl rfl (by decide +kernel) ⟨Nat.le_of_ble_eq_true rfl, Nat.le_of_ble_eq_true rfl⟩) hG (g_recv hG (b := 155) (hdm 155 (by decide)) (gE_C (Or.inl rfl) G _) rfl) rfl hl.1 rfl (Nat.le_of_ble_eq_true rfl) dX5_order_23 ⟨Nat.zero_le _, Nat.zero_le _⟩ (fun z1 M2 H locs hp_23 hG => ?_)
    obtain ⟨hz_23, ho_M2⟩ := hp_23; replace hz_23 := hz_23.symm; subst hz_23
    have hR_M2 : q_tr M2 0 R := q_tr_off hR ho_M2 (by omega)
    exact g_iretX (post := fun z M1 => (if a < 0 then (1 : Int) else 0) = 0 ∧ z = q_atk R a ∧ q_cs M M1) (px := fun E M1 => (((if a < 0 then (1 : Int) else 0) = 1 ∧ E = "java/lang/IllegalArgumentException")) ∧ q_cs M M1) (z := (q_atk R a)) hx hb hr hG hlocks (⟨by (repeat' split) <;> first | rfl | omega | (exfalso; omega) | contradiction, rfl, (q_cs.off (q_cs.rf M) ho_M2 (by omega))⟩) dX5_order_26
  · skip
    exact g_throwIA hx hb hl0 hown hX hG ht9 (hl.1.trans hml.symm) (hts (.classLink RX5 55 "java/lang/IllegalArgumentException") (by decide +kernel)) (hts (.initialized "java/lang/IllegalArgumentException") (by decide +kernel)) (fun w hw => hts w (List.mem_cons_of_mem _ (List.mem_append_right _ hw))) (is := 175) (text := "k is negative") (by decide +kernel) dX5_order_4 dX5_order_7 dX5_order_8 dX5_order_10 dX5_order_13 ⟨Nat.le_of_ble_eq_true rfl, Nat.le_of_ble_eq_true rfl, Nat.le_of_ble_eq_true rfl, Nat.le_of_ble_eq_true rfl⟩ hlocks (⟨⟨by (repeat' split) <;> first | rfl | omega | (exfalso; omega) | contradiction, rfl⟩, (q_cs.rf M)⟩)
set_option maxHeartbeats 4000000 in
set_option maxRecDepth 100000 in
theorem c_X5_standing (l : Launch) (G : gG) (M : Nat → Nat → Int) (hl0 : l.stackTraces = false) (hdm : ∀ k, k < 169 → gdm G k) (R : Nat → Int) (hR : q_tr M 0 R) (hI : q_inv R) (a : Int) (ha9 : -2147483648 ≤ a ∧ a < 2147483648) : gMx l yX5_standing wsX5_standing ({ frames := 6, cells := 1, slots := 6, locals := 118 } : Room) G M [.ref (gad G 152), .int (iZ a)] (fun z M1 => (if a < 0 then (1 : Int) else 0) = 0 ∧ z = q_std R a ∧ q_cs M M1) (fun E M1 => (((if a < 0 then (1 : Int) else 0) = 1 ∧ E = "java/lang/IllegalArgumentException")) ∧ q_cs M M1) := by
  refine gMx_of (cc := cX5_standing) (maxL := 3) (ret := some .int) (by decide) rfl (Nat.le_of_ble_eq_true rfl) ?_
  intro p e s m below meth c ls hx hb hr hml hown hts hlocks hl hX ht9 hG
  have hown : s.vm.findClass RX5 = some m.cls := hown
  have hl : lv_has ls 3 [(0, .ref (gad G 152)), (1, .int (iZ a))] := hl
  have hinX3 : ∀ w ∈ u_ws RX3 TX3 15, w ∈ wsX5_standing := by decide +kernel
  have hinX5 : ∀ w ∈ u_ws RX5 TX5 8, w ∈ wsX5_standing := by decide +kernel
  have f10 := hts (.fieldLink RX5 10 "DogTrials" "now" "LDogTrials$Trial;") (by decide +kernel)
  have f92 := hts (.fieldLink RX5 92 "DogTrials$Trial" "dogs" "I") (by decide +kernel)
  have f150 := hts (.fieldLink RX5 150 "DogTrials$Trial" "ran" "[Z") (by decide +kernel)
  have hnd := hI.1
  refine lv_iload_n hx hb dX5_standing_0 rfl (lv_at hl 1 rfl) ?_
  refine z_if_ge (tgt := 14) hx hb (by omega) dX5_standing_1 (by decide) (fun c_1 => ?_) (fun c_1 => ?_)
  · skip
    refine lv_iconst (v := iZ 0) hx hb dX5_standing_14 rfl ?_
    refine lv_istore_n (lv' := [(2, .int (iZ 0)), (0, .ref (gad G 152)), (1, .int (iZ a))]) hx hb dX5_standing_15 rfl hl (by decide) rfl (fun ls hl => ?_)
    have L_16 : ∀ (n_16 : Nat) (k : Nat) (x_i : Int), (x_i = (k : Int)) → ((k : Int) ≤ q_nd R) → ((∀ j, j < k → ¬ decide (q_hs R j = 1 ∧ q_ahn R j = a) = true)) → 12 - k < n_16 → ∀ (H : Heap) (locs : List Loc) (ls : Array Slot), gH G M s H locs → lv_has ls 3 [(2, .int (iZ x_i)), (0, .ref (gad G 152)), (1, .int (iZ a))] → W p l e ({ frames := 6, cells := 1, slots := 6, locals := 118 } : Room) s m [.ref (gad G 152), .int (iZ a)].toArray below meth c H locs 0 0 (vx_MQ below (va_Qi (fun r (u : Int × (Nat → Nat → Int)) => r = iZ u.1 ∧ (fun z M1 => (if a < 0 then (1 : Int) else 0) = 0 ∧ z = q_std R a ∧ q_cs M M1) u.1 u.2) (fun u U => gB G u.2 U) (gA G)) (gXC G (fun E M1 => (((if a < 0 then (1 : Int) else 0) = 1 ∧ E = "java/lang/IllegalArgumentException")) ∧ q_cs M M1)) [.ref (gad G 152), .int (iZ a)].toArray s 1 6 (gA G)) (F0 m 16 ls []) := by
      intro n_16
      induction n_16 with
      | zero => intro k x_i he_x_i hk hno hm_16; exact absurd hm_16 (Nat.not_lt_zero _)
      | succ n_16 ih_16 =>
        intro k x_i he_x_i hk hno hm_16 H locs ls hG hl
        subst he_x_i
        refine lv_iload_n hx hb dX5_standing_16 rfl (lv_at hl 0 rfl) ?_
        refine lv_aload_n hx hb dX5_standing_17 rfl (lv_at hl 1 rfl) ?_
        refine g_get hx hb hts hinX5 hown hG (o := 152) (hdm 152 (by decide)) rfl rfl 0 (by decide) f10 (fun _ h => h) rfl dX5_standing_18 ?_
        refine g_geti (z := (q_nd R)) hx hb hts hinX3 hown hG (o := 0) (hdm 0 (by decide)) (gE_T ⟨by decide, by decide⟩ G _) rfl 0 (by decide) f92 (fun _ h => h) rfl (tr_nd hR) dX5_standing_21 ?_
        refine z_icmp_ge (tgt := 59) hx hb (by omega) (by omega) dX5_standing_24 (by decide) (fun c_24 => ?_) (fun c_24 => ?_)
        · skip
          refine lv_bipush (v := iZ (-9)) hx hb dX5_standing_59 (by decide) ?_
          exact g_iretX (post := fun z M1 => (if a < 0 then (1 : Int) else 0) = 0 ∧ z = q_std R a ∧ q_cs M M1) (px := fun E M1 => (((if a < 0 then (1 : Int) else 0) = 1 ∧ E = "java/lang/IllegalArgumentException")) ∧ q_cs M M1) (z := (-9)) hx hb hr hG hlocks (⟨by (repeat' split) <;> first | rfl | omega | (exfalso; omega) | contradiction, (q_fst_no (P := (fun i => decide (q_hs R i = 1 ∧ q_ahn R i = a))) (fun j hj => hno j (by omega))).symm, (q_cs.rf M)⟩) dX5_standing_61
        · skip
          have hdo := dok5 hI k (by omega)
          refine lv_aload_n hx hb dX5_standing_27 rfl (lv_at hl 1 rfl) ?_
          refine g_get hx hb hts hinX5 hown hG (o := 152) (hdm 152 (by decide)) rfl rfl 0 (by decide) f10 (fun _ h => h) rfl dX5_standing_28 ?_
          refine g_get hx hb hts hinX3 hown hG (o := 0) (hdm 0 (by decide)) (gE_T ⟨by decide, by decide⟩ G _) rfl 4 (by decide) f150 (fun _ h => h) rfl dX5_standing_31 ?_
          refine lv_iload_n hx hb dX5_standing_34 rfl (lv_at hl 0 rfl) ?_
          refine g_zald (z := (q_hs R k)) (j := k) hx hb hG (o := 4) (hdm 4 (by decide)) (gE_tZ ⟨by decide, by decide⟩ G _) (by omega) (by omega) (by omega) (tr_hs hR (i := k) (by omega)) dX5_standing_35 ?_
          refine z_if_eq (tgt := 53) hx hb (by omega) dX5_standing_36 (by decide) (fun c_36 => ?_) (fun c_36 => ?_)
          · skip
            refine z_iinc (z := ((k : Int) + 1)) (lv' := [(2, .int (iZ ((k : Int) + 1))), (0, .ref (gad G 152)), (1, .int (iZ a))]) hx hb dX5_standing_53 hl (k := 0) rfl (by omega) (by decide) rfl (fun ls hl => ?_)
            refine lv_goto (tgt := 16) hx hb dX5_standing_56 (by decide) ?_
            exact ih_16 (k + 1) ((k : Int) + 1)  (by omega) (by omega) (fun j h => by rcases (show j < k ∨ j = k by omega) with h9 | h9; exact hno j h9; (subst h9; intro h8; have h7 := of_decide_eq_true h8; omega)) (by omega) _ _ _ hG (lv_sub hl [0, 1, 2] rfl)
          · skip
            refine lv_aload_n hx hb dX5_standing_39 rfl (lv_at hl 1 rfl) ?_
            refine g_get hx hb hts hinX5 hown hG (o := 152) (hdm 152 (by decide)) rfl rfl 0 (by decide) f10 (fun _ h => h) rfl dX5_standing_40 ?_
            refine lv_iload_n hx hb dX5_standing_43 rfl (lv_at hl 0 rfl) ?_
            refine g_callV (b := 0) (As := [.int (iZ (k : Int))]) (rest := []) ⟨hx, hb, hml, hown, hts⟩ (c_X3_dogsAheadInStanding l G M hdm 0 ⟨by decide, by decide⟩ R hR hI k (by omega) (by first | assumption | omega)) (cwV 1 hts gX5_standing_X3_dogsAheadInStanding rfl rfl rfl (by decide +kernel) ⟨Nat.le_of_ble_eq_true rfl, Nat.le_of_ble_eq_true rfl⟩) hG (g_recv hG (b := 0) (hdm 0 (by decide)) (gE_T ⟨by decide, by decide⟩ G _) rfl) rfl hl.1 rfl (Nat.le_of_ble_eq_true rfl) dX5_standing_44 ⟨Nat.zero_le _, Nat.zero_le _⟩ (fun z1 M2 H locs hp_44 hG => ?_)
            obtain ⟨hz_44, hM_44⟩ := hp_44; replace hz_44 := hz_44.symm; subst hz_44; replace hM_44 := hM_44.symm; subst hM_44
            have hah : 0 ≤ q_ahn R k ∧ q_ahn R k ≤ (q_nd R).toNat := ct_in _ _
            refine lv_iload_n hx hb dX5_standing_47 rfl (lv_at hl 2 rfl) ?_
            refine z_icmp_ne (tgt := 53) hx hb (by omega) (by omega) dX5_standing_48 (by decide) (fun c_48 => ?_) (fun c_48 => ?_)
            · skip
              refine z_iinc (z := ((k : Int) + 1)) (lv' := [(2, .int (iZ ((k : Int) + 1))), (0, .ref (gad G 152)), (1, .int (iZ a))]) hx hb dX5_standing_53 hl (k := 0) rfl (by omega) (by decide) rfl (fun ls hl => ?_)
              refine lv_goto (tgt := 16) hx hb dX5_standing_56 (by decide) ?_
              exact ih_16 (k + 1) ((k : Int) + 1)  (by omega) (by omega) (fun j h => by rcases (show j < k ∨ j = k by omega) with h9 | h9; exact hno j h9; (subst h9; intro h8; have h7 := of_decide_eq_true h8; omega)) (by omega) _ _ _ hG (lv_sub hl [0, 1, 2] rfl)
            · skip
              refine lv_iload_n hx hb dX5_standing_51 rfl (lv_at hl 0 rfl) ?_
              exact g_iretX (post := fun z M1 => (if a < 0 then (1 : Int) else 0) = 0 ∧ z = q_std R a ∧ q_cs M M1) (px := fun E M1 => (((if a < 0 then (1 : Int) else 0) = 1 ∧ E = "java/lang/IllegalArgumentException")) ∧ q_cs M M1) (z := (k : Int)) hx hb hr hG hlocks (⟨by (repeat' split) <;> first | rfl | omega | (exfalso; omega) | contradiction, (q_fst_hit (P := (fun i => decide (q_hs R i = 1 ∧ q_ahn R i = a))) (decide_eq_true ⟨by omega, by omega⟩) hno (by omega)).symm, (q_cs.rf M)⟩) dX5_standing_52
    exact L_16 _ 0 0  rfl (by omega) (fun j h => absurd h (Nat.not_lt_zero _)) (Nat.lt_succ_self _) _ _ _ hG (lv_sub hl [0, 1, 2] rfl)
  · skip
    exact g_throwIA hx hb hl0 hown hX hG ht9 (hl.1.trans hml.symm) (hts (.classLink RX5 55 "java/lang/IllegalArgumentException") (by decide +kernel)) (hts (.initialized "java/lang/IllegalArgumentException") (by decide +kernel)) (fun w hw => hts w (List.mem_cons_of_mem _ (List.mem_append_right _ hw))) (is := 175) (text := "k is negative") (by decide +kernel) dX5_standing_4 dX5_standing_7 dX5_standing_8 dX5_standing_10 dX5_standing_13 ⟨Nat.le_of_ble_eq_true rfl, Nat.le_of_ble_eq_true rfl, Nat.le_of_ble_eq_true rfl, Nat.le_of_ble_eq_true rfl⟩ hlocks (⟨⟨by (repeat' split) <;> first | rfl | omega | (exfalso; omega) | contradiction, rfl⟩, (q_cs.rf M)⟩)
set_option maxHeartbeats 4000000 in
set_option maxRecDepth 100000 in
theorem c_X5_owner (l : Launch) (G : gG) (M : Nat → Nat → Int) (hl0 : l.stackTraces = false) (hdm : ∀ k, k < 169 → gdm G k) (R : Nat → Int) (hR : q_tr M 0 R) (hI : q_inv R) (a : Int) (ha9 : -2147483648 ≤ a ∧ a < 2147483648) : gMx l yX5_owner wsX5_owner ({ frames := 6, cells := 1, slots := 6, locals := 90 } : Room) G M [.ref (gad G 152), .int (iZ a)] (fun z M1 => (if 0 ≤ a ∧ a ≤ 5 then (0 : Int) else 1) = 0 ∧ z = q_os R a ∧ q_cs M M1) (fun E M1 => (((if 0 ≤ a ∧ a ≤ 5 then (0 : Int) else 1) = 1 ∧ E = "java/lang/IllegalArgumentException")) ∧ q_cs M M1) := by
  refine gMx_of (cc := cX5_owner) (maxL := 2) (ret := some .int) (by decide) rfl (Nat.le_of_ble_eq_true rfl) ?_
  intro p e s m below meth c ls hx hb hr hml hown hts hlocks hl hX ht9 hG
  have hown : s.vm.findClass RX5 = some m.cls := hown
  have hl : lv_has ls 2 [(0, .ref (gad G 152)), (1, .int (iZ a))] := hl
  have hinX5 : ∀ w ∈ u_ws RX5 TX5 8, w ∈ wsX5_owner := by decide +kernel
  have f10 := hts (.fieldLink RX5 10 "DogTrials" "now" "LDogTrials$Trial;") (by decide +kernel)
  refine lv_iload_n hx hb dX5_owner_0 rfl (lv_at hl 1 rfl) ?_
  refine g_callS (As := [.int (iZ a)]) (rest := []) ⟨hx, hb, hml, hown, hts⟩ (c_X5_isOwner l G M a (by omega)) (va_cwS 1 hts gX5_owner_X5_isOwner rfl rfl rfl (by decide +kernel) ⟨Nat.le_of_ble_eq_true rfl, Nat.le_of_ble_eq_true rfl⟩) hG rfl hl.1 rfl (Nat.le_of_ble_eq_true rfl) dX5_owner_1 ⟨Nat.zero_le _, Nat.zero_le _⟩ (fun z1 M2 H locs hp_1 hG => ?_)
  obtain ⟨hz_1, hM_1⟩ := hp_1; replace hz_1 := hz_1.symm; subst hz_1; replace hM_1 := hM_1.symm; subst hM_1
  refine z_ifP_ne (tgt := 17) hx hb dX5_owner_4 (by decide) (fun c_4 => ?_) (fun c_4 => ?_)
  · skip
    refine lv_aload_n hx hb dX5_owner_17 rfl (lv_at hl 0 rfl) ?_
    refine g_get hx hb hts hinX5 hown hG (o := 152) (hdm 152 (by decide)) rfl rfl 0 (by decide) f10 (fun _ h => h) rfl dX5_owner_18 ?_
    refine lv_iload_n hx hb dX5_owner_21 rfl (lv_at hl 1 rfl) ?_
    refine g_callV (b := 0) (As := [.int (iZ a)]) (rest := []) ⟨hx, hb, hml, hown, hts⟩ (c_X3_scoreOfOwner l G M hdm 0 ⟨by decide, by decide⟩ R hR hI a (by omega)) (cwV 1 hts gX5_owner_X3_scoreOfOwner rfl rfl rfl (by decide +kernel) ⟨Nat.le_of_ble_eq_true rfl, Nat.le_of_ble_eq_true rfl⟩) hG (g_recv hG (b := 0) (hdm 0 (by decide)) (gE_T ⟨by decide, by decide⟩ G _) rfl) rfl hl.1 rfl (Nat.le_of_ble_eq_true rfl) dX5_owner_22 ⟨Nat.zero_le _, Nat.zero_le _⟩ (fun z3 M4 H locs hp_22 hG => ?_)
    obtain ⟨hz_22, hM_22⟩ := hp_22; replace hz_22 := hz_22.symm; subst hz_22; replace hM_22 := hM_22.symm; subst hM_22
    exact g_iretX (post := fun z M1 => (if 0 ≤ a ∧ a ≤ 5 then (0 : Int) else 1) = 0 ∧ z = q_os R a ∧ q_cs M M1) (px := fun E M1 => (((if 0 ≤ a ∧ a ≤ 5 then (0 : Int) else 1) = 1 ∧ E = "java/lang/IllegalArgumentException")) ∧ q_cs M M1) (z := (q_os R a)) hx hb hr hG hlocks (⟨by (repeat' split) <;> first | rfl | omega | (exfalso; omega) | contradiction, rfl, (q_cs.rf M)⟩) dX5_owner_25
  · skip
    exact g_throwIA hx hb hl0 hown hX hG ht9 (hl.1.trans hml.symm) (hts (.classLink RX5 55 "java/lang/IllegalArgumentException") (by decide +kernel)) (hts (.initialized "java/lang/IllegalArgumentException") (by decide +kernel)) (fun w hw => hts w (List.mem_cons_of_mem _ (List.mem_append_right _ hw))) (is := 186) (text := "there is no such owner") (by decide +kernel) dX5_owner_7 dX5_owner_10 dX5_owner_11 dX5_owner_13 dX5_owner_16 ⟨Nat.le_of_ble_eq_true rfl, Nat.le_of_ble_eq_true rfl, Nat.le_of_ble_eq_true rfl, Nat.le_of_ble_eq_true rfl⟩ hlocks (⟨⟨by (repeat' split) <;> first | rfl | omega | (exfalso; omega) | contradiction, rfl⟩, (q_cs.rf M)⟩)
set_option maxHeartbeats 4000000 in
set_option maxRecDepth 100000 in
theorem c_X5_whyNot (l : Launch) (G : gG) (M : Nat → Nat → Int) (hdm : ∀ k, k < 169 → gdm G k) (R : Nat → Int) (hR : q_tr M 0 R) (hI : q_inv R) : gMi l yX5_whyNot wsX5_whyNot ({ frames := 3, cells := 0, slots := 0, locals := 63 } : Room) G M [.ref (gad G 152)] (fun z M1 => z = q_ob R ∧ M1 = M) := by
  refine gMi_of (cc := cX5_whyNot) (maxL := 1) (ret := some .int) (by decide) rfl (Nat.le_of_ble_eq_true rfl) ?_
  intro p e s m below meth c ls hx hb hr hml hown hts hlocks hl hG
  have hown : s.vm.findClass RX5 = some m.cls := hown
  have hl : lv_has ls 1 [(0, .ref (gad G 152))] := hl
  have hinX5 : ∀ w ∈ u_ws RX5 TX5 8, w ∈ wsX5_whyNot := by decide +kernel
  have f10 := hts (.fieldLink RX5 10 "DogTrials" "now" "LDogTrials$Trial;") (by decide +kernel)
  refine lv_aload_n hx hb dX5_whyNot_0 rfl (lv_at hl 0 rfl) ?_
  refine g_get hx hb hts hinX5 hown hG (o := 152) (hdm 152 (by decide)) rfl rfl 0 (by decide) f10 (fun _ h => h) rfl dX5_whyNot_1 ?_
  refine g_callV (b := 0) (As := []) (rest := []) ⟨hx, hb, hml, hown, hts⟩ (c_X3_obstacle l G M hdm 0 ⟨by decide, by decide⟩ R hR hI) (cwV 0 hts gX5_whyNot_X3_obstacle rfl rfl rfl (by decide +kernel) ⟨Nat.le_of_ble_eq_true rfl, Nat.le_of_ble_eq_true rfl⟩) hG (g_recv hG (b := 0) (hdm 0 (by decide)) (gE_T ⟨by decide, by decide⟩ G _) rfl) rfl hl.1 rfl (Nat.le_of_ble_eq_true rfl) dX5_whyNot_4 ⟨Nat.zero_le _, Nat.zero_le _⟩ (fun z1 M2 H locs hp_4 hG => ?_)
  obtain ⟨hz_4, hM_4⟩ := hp_4; replace hz_4 := hz_4.symm; subst hz_4; replace hM_4 := hM_4.symm; subst hM_4
  exact g_iret (post := fun z M1 => z = q_ob R ∧ M1 = M) (z := (q_ob R)) hx hb hr hG hlocks (⟨rfl, rfl⟩) dX5_whyNot_7
set_option maxHeartbeats 4000000 in
set_option maxRecDepth 100000 in
theorem c_X5_runsLeft (l : Launch) (G : gG) (M : Nat → Nat → Int) (hl0 : l.stackTraces = false) (hdm : ∀ k, k < 169 → gdm G k) (R : Nat → Int) (hR : q_tr M 0 R) (hI : q_inv R) (a : Int) (ha9 : -2147483648 ≤ a ∧ a < 2147483648) : gMx l yX5_runsLeft wsX5_runsLeft ({ frames := 6, cells := 1, slots := 6, locals := 90 } : Room) G M [.ref (gad G 152), .int (iZ a)] (fun z M1 => (if 1 ≤ a ∧ a ≤ 30 then (0 : Int) else 1) = 0 ∧ z = min (q_nwait R) ((R 2 - R 1) / a) ∧ q_cs M M1) (fun E M1 => (((if 1 ≤ a ∧ a ≤ 30 then (0 : Int) else 1) = 1 ∧ E = "java/lang/IllegalArgumentException")) ∧ q_cs M M1) := by
  refine gMx_of (cc := cX5_runsLeft) (maxL := 2) (ret := some .int) (by decide) rfl (Nat.le_of_ble_eq_true rfl) ?_
  intro p e s m below meth c ls hx hb hr hml hown hts hlocks hl hX ht9 hG
  have hown : s.vm.findClass RX5 = some m.cls := hown
  have hl : lv_has ls 2 [(0, .ref (gad G 152)), (1, .int (iZ a))] := hl
  have hinX3 : ∀ w ∈ u_ws RX3 TX3 15, w ∈ wsX5_runsLeft := by decide +kernel
  have hinX5 : ∀ w ∈ u_ws RX5 TX5 8, w ∈ wsX5_runsLeft := by decide +kernel
  have f10 := hts (.fieldLink RX5 10 "DogTrials" "now" "LDogTrials$Trial;") (by decide +kernel)
  have f110 := hts (.fieldLink RX5 110 "DogTrials$Trial" "minute" "I") (by decide +kernel)
  have f113 := hts (.fieldLink RX5 113 "DogTrials$Trial" "sunset" "I") (by decide +kernel)
  have hnd := hI.1
  have hms := hI.2.2.2.1
  have hs6 := hI.2.2.2.2.1
  have hwt : 0 ≤ q_nwait R ∧ q_nwait R ≤ (q_nd R).toNat := ct_in _ _
  refine lv_iload_n hx hb dX5_runsLeft_0 rfl (lv_at hl 1 rfl) ?_
  refine g_callS (As := [.int (iZ a)]) (rest := []) ⟨hx, hb, hml, hown, hts⟩ (c_X5_isMinutes l G M a (by omega)) (va_cwS 1 hts gX5_runsLeft_X5_isMinutes rfl rfl rfl (by decide +kernel) ⟨Nat.le_of_ble_eq_true rfl, Nat.le_of_ble_eq_true rfl⟩) hG rfl hl.1 rfl (Nat.le_of_ble_eq_true rfl) dX5_runsLeft_1 ⟨Nat.zero_le _, Nat.zero_le _⟩ (fun z1 M2 H locs hp_1 hG => ?_)
  obtain ⟨hz_1, hM_1⟩ := hp_1; replace hz_1 := hz_1.symm; subst hz_1; replace hM_1 := hM_1.symm; subst hM_1
  refine z_ifP_ne (tgt := 18) hx hb dX5_runsLeft_4 (by decide) (fun c_4 => ?_) (fun c_4 => ?_)
  · skip
    refine lv_aload_n hx hb dX5_runsLeft_18 rfl (lv_at hl 0 rfl) ?_
    refine g_get hx hb hts hinX5 hown hG (o := 152) (hdm 152 (by decide)) rfl rfl 0 (by decide) f10 (fun _ h => h) rfl dX5_runsLeft_19 ?_
    refine g_callV (b := 0) (As := []) (rest := []) ⟨hx, hb, hml, hown, hts⟩ (c_X3_dogsToRun l G M hdm 0 ⟨by decide, by decide⟩ R hR hI) (cwV 0 hts gX5_runsLeft_X3_dogsToRun rfl rfl rfl (by decide +kernel) ⟨Nat.le_of_ble_eq_true rfl, Nat.le_of_ble_eq_true rfl⟩) hG (g_recv hG (b := 0) (hdm 0 (by decide)) (gE_T ⟨by decide, by decide⟩ G _) rfl) rfl hl.1 rfl (Nat.le_of_ble_eq_true rfl) dX5_runsLeft_22 ⟨Nat.zero_le _, Nat.zero_le _⟩ (fun z3 M4 H locs hp_22 hG => ?_)
    obtain ⟨hz_22, hM_22⟩ := hp_22; replace hz_22 := hz_22.symm; subst hz_22; replace hM_22 := hM_22.symm; subst hM_22
    refine lv_aload_n hx hb dX5_runsLeft_25 rfl (lv_at hl 0 rfl) ?_
    refine g_get hx hb hts hinX5 hown hG (o := 152) (hdm 152 (by decide)) rfl rfl 0 (by decide) f10 (fun _ h => h) rfl dX5_runsLeft_26 ?_
    refine g_geti (z := (R 2)) hx hb hts hinX3 hown hG (o := 0) (hdm 0 (by decide)) (gE_T ⟨by decide, by decide⟩ G _) rfl 10 (by decide) f113 (fun _ h => h) rfl (tr_s10 hR) dX5_runsLeft_29 ?_
    refine lv_aload_n hx hb dX5_runsLeft_32 rfl (lv_at hl 0 rfl) ?_
    refine g_get hx hb hts hinX5 hown hG (o := 152) (hdm 152 (by decide)) rfl rfl 0 (by decide) f10 (fun _ h => h) rfl dX5_runsLeft_33 ?_
    refine g_geti (z := (R 1)) hx hb hts hinX3 hown hG (o := 0) (hdm 0 (by decide)) (gE_T ⟨by decide, by decide⟩ G _) rfl 9 (by decide) f110 (fun _ h => h) rfl (tr_s9 hR) dX5_runsLeft_36 ?_
    refine z_isub (z := ((R 2) - (R 1))) hx hb (by omega) dX5_runsLeft_39 ?_
    refine lv_iload_n hx hb dX5_runsLeft_40 rfl (lv_at hl 1 rfl) ?_
    refine z_idiv (z := (((R 2) - (R 1)) / a)) hx hb (by omega) (by omega) rfl dX5_runsLeft_41 ?_
    have hdv : 0 ≤ (R 2 - R 1) / a ∧ (R 2 - R 1) / a ≤ R 2 - R 1 := ⟨Int.ediv_nonneg (by omega) (by omega), Int.ediv_le_self _ (by omega)⟩
    refine g_mmin hx hb (hml.trans hl.1.symm) hown (hts (.methodLink RX5 264 Lib.Math.min.name) (by decide +kernel)) (hts (.static Lib.Math.min.name) (by decide +kernel)) (hts (.initialized "java/lang/Math") (by decide +kernel)) (hts (.code Lib.Math.min.name Lib.Math.min.code 2 (some .int)) (by decide +kernel)) (Nat.le_of_ble_eq_true rfl) (Nat.le_of_ble_eq_true rfl) (Nat.zero_le _) (Nat.zero_le _) (by omega) (by omega) dX5_runsLeft_42 ?_
    exact g_iretX (post := fun z M1 => (if 1 ≤ a ∧ a ≤ 30 then (0 : Int) else 1) = 0 ∧ z = min (q_nwait R) ((R 2 - R 1) / a) ∧ q_cs M M1) (px := fun E M1 => (((if 1 ≤ a ∧ a ≤ 30 then (0 : Int) else 1) = 1 ∧ E = "java/lang/IllegalArgumentException")) ∧ q_cs M M1) (z := (min (q_nwait R) (((R 2) - (R 1)) / a))) hx hb hr hG hlocks (⟨by (repeat' split) <;> first | rfl | omega | (exfalso; omega) | contradiction, rfl, (q_cs.rf M)⟩) dX5_runsLeft_45
  · skip
    exact g_throwWIA hx hb hl0 hown hX hG ht9 (hl.1.trans hml.symm) (hts (.classLink RX5 55 "java/lang/IllegalArgumentException") (by decide +kernel)) (hts (.initialized "java/lang/IllegalArgumentException") (by decide +kernel)) (fun w hw => hts w (List.mem_cons_of_mem _ (List.mem_append_right _ hw))) (is := 262) (text := "the minutes are out of range") (by decide +kernel) dX5_runsLeft_7 dX5_runsLeft_10 dX5_runsLeft_11 dX5_runsLeft_14 dX5_runsLeft_17 ⟨Nat.le_of_ble_eq_true rfl, Nat.le_of_ble_eq_true rfl, Nat.le_of_ble_eq_true rfl, Nat.le_of_ble_eq_true rfl⟩ hlocks (⟨⟨by (repeat' split) <;> first | rfl | omega | (exfalso; omega) | contradiction, rfl⟩, (q_cs.rf M)⟩)
set_option maxHeartbeats 4000000 in
set_option maxRecDepth 100000 in
theorem c_X5_supposeFaultlessRun (l : Launch) (G : gG) (M : Nat → Nat → Int) (hdm : ∀ k, k < 169 → gdm G k) (R : Nat → Int) (hR : q_tr M 0 R) (hI : q_inv R) (i : Nat) (hi : (i : Int) < q_nd R) : gMv l yX5_supposeFaultlessRun wsX5_supposeFaultlessRun ({ frames := 2, cells := 0, slots := 0, locals := 70 } : Room) G M [.ref (gad G 152), .int (iZ (i : Int))] (fun M1 => q_tr M1 8 (q_nr R i (fun _ => 0)) ∧ q_cs M M1) := by
  refine gMv_of (cc := cX5_supposeFaultlessRun) (maxL := 2) (ret := none) (by decide) rfl (Nat.le_of_ble_eq_true rfl) ?_
  intro p e s m below meth c ls hx hb hr hml hown hts hlocks hl hG
  have hown : s.vm.findClass RX5 = some m.cls := hown
  have hl : lv_has ls 2 [(0, .ref (gad G 152)), (1, .int (iZ (i : Int)))] := hl
  have hinX0 : ∀ w ∈ u_ws RX0 TX0 4, w ∈ wsX5_supposeFaultlessRun := by decide +kernel
  have hinX5 : ∀ w ∈ u_ws RX5 TX5 8, w ∈ wsX5_supposeFaultlessRun := by decide +kernel
  have f10 := hts (.fieldLink RX5 10 "DogTrials" "now" "LDogTrials$Trial;") (by decide +kernel)
  have f16 := hts (.fieldLink RX5 16 "DogTrials" "supposed" "LDogTrials$Trial;") (by decide +kernel)
  have f22 := hts (.fieldLink RX5 22 "DogTrials" "course" "LDogTrials$Course;") (by decide +kernel)
  have f289 := hts (.fieldLink RX5 289 "DogTrials$Course" "losses" "[I") (by decide +kernel)
  have hnd := hI.1
  refine lv_aload_n hx hb dX5_supposeFaultlessRun_0 rfl (lv_at hl 0 rfl) ?_
  refine g_get hx hb hts hinX5 hown hG (o := 152) (hdm 152 (by decide)) rfl rfl 1 (by decide) f16 (fun _ h => h) rfl dX5_supposeFaultlessRun_1 ?_
  refine lv_aload_n hx hb dX5_supposeFaultlessRun_4 rfl (lv_at hl 0 rfl) ?_
  refine g_get hx hb hts hinX5 hown hG (o := 152) (hdm 152 (by decide)) rfl rfl 0 (by decide) f10 (fun _ h => h) rfl dX5_supposeFaultlessRun_5 ?_
  refine g_vcallV (b := 8) (As := [.ref (gad G 0)]) (rest := []) ⟨hx, hb, hml, hown, hts⟩ (c_X3_copyFrom l G M hdm 8 ⟨by decide, by decide⟩ 0 ⟨by decide, by decide⟩ (by omega) R hR hI) (cwV 1 hts gX5_supposeFaultlessRun_X3_copyFrom rfl rfl rfl (by decide +kernel) ⟨Nat.le_of_ble_eq_true rfl, Nat.le_of_ble_eq_true rfl⟩) hG (g_recv hG (b := 8) (hdm 8 (by decide)) (gE_T ⟨by decide, by decide⟩ G _) rfl) rfl hl.1 rfl (Nat.le_of_ble_eq_true rfl) dX5_supposeFaultlessRun_8 ⟨Nat.zero_le _, Nat.zero_le _⟩ (fun M2 H locs hp_8 hG => ?_)
  obtain ⟨ht_M2, ho_M2⟩ := hp_8
  have hR_M2 : q_tr M2 0 R := q_tr_off hR ho_M2 (by omega)
  refine lv_aload_n hx hb dX5_supposeFaultlessRun_11 rfl (lv_at hl 0 rfl) ?_
  refine g_get hx hb hts hinX5 hown hG (o := 152) (hdm 152 (by decide)) rfl rfl 2 (by decide) f22 (fun _ h => h) rfl dX5_supposeFaultlessRun_12 ?_
  refine lv_iconst (v := iZ 0) hx hb dX5_supposeFaultlessRun_15 rfl ?_
  refine g_vcallV (b := 155) (As := [.int (iZ 0)]) (rest := []) ⟨hx, hb, hml, hown, hts⟩ (c_X0_setSameLosses l G M2 hdm 155 (Or.inl rfl) 0) (cwV 1 hts gX5_supposeFaultlessRun_X0_setSameLosses rfl rfl rfl (by decide +kernel) ⟨Nat.le_of_ble_eq_true rfl, Nat.le_of_ble_eq_true rfl⟩) hG (g_recv hG (b := 155) (hdm 155 (by decide)) (gE_C (Or.inl rfl) G _) rfl) rfl hl.1 rfl (Nat.le_of_ble_eq_true rfl) dX5_supposeFaultlessRun_16 ⟨Nat.zero_le _, Nat.zero_le _⟩ (fun M4 H locs hp_16 hG => ?_)
  obtain ⟨hl_M4, ho_M4⟩ := hp_16
  have hR_M2_M4 : q_tr M4 0 R := q_tr_off hR_M2 ho_M4 (by omega)
  have ht_M2_M4 : q_tr M4 8 R := q_tr_off ht_M2 ho_M4 (by omega)
  refine lv_aload_n hx hb dX5_supposeFaultlessRun_19 rfl (lv_at hl 0 rfl) ?_
  refine g_get hx hb hts hinX5 hown hG (o := 152) (hdm 152 (by decide)) rfl rfl 1 (by decide) f16 (fun _ h => h) rfl dX5_supposeFaultlessRun_20 ?_
  refine lv_iload_n hx hb dX5_supposeFaultlessRun_23 rfl (lv_at hl 1 rfl) ?_
  refine lv_aload_n hx hb dX5_supposeFaultlessRun_24 rfl (lv_at hl 0 rfl) ?_
  refine g_get hx hb hts hinX5 hown hG (o := 152) (hdm 152 (by decide)) rfl rfl 2 (by decide) f22 (fun _ h => h) rfl dX5_supposeFaultlessRun_25 ?_
  refine g_get hx hb hts hinX0 hown hG (o := 155) (hdm 155 (by decide)) (gE_C (Or.inl rfl) G _) rfl 3 (by decide) f289 (fun _ h => h) rfl dX5_supposeFaultlessRun_28 ?_
  refine g_vcallV (b := 8) (As := [.int (iZ (i : Int)), .ref (gad G 158)]) (rest := []) ⟨hx, hb, hml, hown, hts⟩ (c_X3_noteRun l G M4 hdm 8 ⟨by decide, by decide⟩ R ht_M2_M4 hI 155 (Or.inl rfl) i (by omega)) (cwV 2 hts gX5_supposeFaultlessRun_X3_noteRun rfl rfl rfl (by decide +kernel) ⟨Nat.le_of_ble_eq_true rfl, Nat.le_of_ble_eq_true rfl⟩) hG (g_recv hG (b := 8) (hdm 8 (by decide)) (gE_T ⟨by decide, by decide⟩ G _) rfl) rfl hl.1 rfl (Nat.le_of_ble_eq_true rfl) dX5_supposeFaultlessRun_31 ⟨Nat.zero_le _, Nat.zero_le _⟩ (fun M6 H locs hp_31 hG => ?_)
  obtain ⟨ht_M6, ho_M6⟩ := hp_31
  have hR_M2_M4_M6 : q_tr M6 0 R := q_tr_off hR_M2_M4 ho_M6 (by omega)
  exact g_vret hx hb hr hG hlocks (⟨by rw [← q_nr_congr R i (L := fun p => M4 158 p) (fun p hp => hl_M4 p hp)]; exact ht_M6, (q_cs.sup (q_cs.off (q_cs.sup (q_cs.rf M) ho_M2 ht_M2) ho_M4 (by omega)) ho_M6 ht_M6)⟩) dX5_supposeFaultlessRun_34
set_option maxHeartbeats 4000000 in
set_option maxRecDepth 100000 in
theorem c_X5_bestPlaceOf (l : Launch) (G : gG) (M : Nat → Nat → Int) (hdm : ∀ k, k < 169 → gdm G k) (R : Nat → Int) (hR : q_tr M 0 R) (hI : q_inv R) (i : Nat) (hi : (i : Int) < q_nd R) : gMi l yX5_bestPlaceOf wsX5_bestPlaceOf ({ frames := 4, cells := 0, slots := 0, locals := 96 } : Room) G M [.ref (gad G 152), .int (iZ (i : Int))] (fun z M1 => z = q_bp R i ∧ q_cs M M1) := by
  refine gMi_of (cc := cX5_bestPlaceOf) (maxL := 2) (ret := some .int) (by decide) rfl (Nat.le_of_ble_eq_true rfl) ?_
  intro p e s m below meth c ls hx hb hr hml hown hts hlocks hl hG
  have hown : s.vm.findClass RX5 = some m.cls := hown
  have hl : lv_has ls 2 [(0, .ref (gad G 152)), (1, .int (iZ (i : Int)))] := hl
  have hinX5 : ∀ w ∈ u_ws RX5 TX5 8, w ∈ wsX5_bestPlaceOf := by decide +kernel
  have f10 := hts (.fieldLink RX5 10 "DogTrials" "now" "LDogTrials$Trial;") (by decide +kernel)
  have f16 := hts (.fieldLink RX5 16 "DogTrials" "supposed" "LDogTrials$Trial;") (by decide +kernel)
  have hnd := hI.1
  have hIs9 : q_inv (q_nr R i (fun _ => 0)) := inv_nr hI (fun p hp => by have := wth_in p; omega)
  have hns9 := q_nr_nd R i (fun _ => 0)
  refine lv_aload_n hx hb dX5_bestPlaceOf_0 rfl (lv_at hl 0 rfl) ?_
  refine g_get hx hb hts hinX5 hown hG (o := 152) (hdm 152 (by decide)) rfl rfl 0 (by decide) f10 (fun _ h => h) rfl dX5_bestPlaceOf_1 ?_
  refine lv_iload_n hx hb dX5_bestPlaceOf_4 rfl (lv_at hl 1 rfl) ?_
  refine g_callV (b := 0) (As := [.int (iZ (i : Int))]) (rest := []) ⟨hx, hb, hml, hown, hts⟩ (c_X3_isToRun l G M hdm 0 ⟨by decide, by decide⟩ R hR hI i (by omega)) (cwV 1 hts gX5_bestPlaceOf_X3_isToRun rfl rfl rfl (by decide +kernel) ⟨Nat.le_of_ble_eq_true rfl, Nat.le_of_ble_eq_true rfl⟩) hG (g_recv hG (b := 0) (hdm 0 (by decide)) (gE_T ⟨by decide, by decide⟩ G _) rfl) rfl hl.1 rfl (Nat.le_of_ble_eq_true rfl) dX5_bestPlaceOf_5 ⟨Nat.zero_le _, Nat.zero_le _⟩ (fun z1 M2 H locs hp_5 hG => ?_)
  obtain ⟨hz_5, hM_5⟩ := hp_5; replace hz_5 := hz_5.symm; subst hz_5; replace hM_5 := hM_5.symm; subst hM_5
  refine z_ifP_ne (tgt := 20) hx hb dX5_bestPlaceOf_8 (by decide) (fun c_8 => ?_) (fun c_8 => ?_)
  · skip
    refine lv_aload_n hx hb dX5_bestPlaceOf_20 rfl (lv_at hl 0 rfl) ?_
    refine lv_iload_n hx hb dX5_bestPlaceOf_21 rfl (lv_at hl 1 rfl) ?_
    refine g_vcallV (b := 152) (As := [.int (iZ (i : Int))]) (rest := []) ⟨hx, hb, hml, hown, hts⟩ (c_X5_supposeFaultlessRun l G M hdm R hR hI i (by omega)) (cwV 1 hts gX5_bestPlaceOf_X5_supposeFaultlessRun rfl rfl rfl (by decide +kernel) ⟨Nat.le_of_ble_eq_true rfl, Nat.le_of_ble_eq_true rfl⟩) hG (g_recv hG (b := 152) (hdm 152 (by decide)) rfl rfl) rfl hl.1 rfl (Nat.le_of_ble_eq_true rfl) dX5_bestPlaceOf_22 ⟨Nat.zero_le _, Nat.zero_le _⟩ (fun M4 H locs hp_22 hG => ?_)
    obtain ⟨ht_M4, hcs_M4⟩ := hp_22
    have hR_M4 : q_tr M4 0 R := q_cs.tr0 hcs_M4 hR
    refine lv_aload_n hx hb dX5_bestPlaceOf_25 rfl (lv_at hl 0 rfl) ?_
    refine g_get hx hb hts hinX5 hown hG (o := 152) (hdm 152 (by decide)) rfl rfl 1 (by decide) f16 (fun _ h => h) rfl dX5_bestPlaceOf_26 ?_
    refine lv_iload_n hx hb dX5_bestPlaceOf_29 rfl (lv_at hl 1 rfl) ?_
    refine g_callV (b := 8) (As := [.int (iZ (i : Int))]) (rest := []) ⟨hx, hb, hml, hown, hts⟩ (c_X3_placeOf l G M4 hdm 8 ⟨by decide, by decide⟩ (q_nr R i (fun _ => 0)) ht_M4 hIs9 i (by omega)) (cwV 1 hts gX5_bestPlaceOf_X3_placeOf rfl rfl rfl (by decide +kernel) ⟨Nat.le_of_ble_eq_true rfl, Nat.le_of_ble_eq_true rfl⟩) hG (g_recv hG (b := 8) (hdm 8 (by decide)) (gE_T ⟨by decide, by decide⟩ G _) rfl) rfl hl.1 rfl (Nat.le_of_ble_eq_true rfl) dX5_bestPlaceOf_30 ⟨Nat.zero_le _, Nat.zero_le _⟩ (fun z5 M6 H locs hp_30 hG => ?_)
    obtain ⟨hz_30, hM_30⟩ := hp_30; replace hz_30 := hz_30.symm; subst hz_30; replace hM_30 := hM_30.symm; subst hM_30
    exact g_iret (post := fun z M1 => z = q_bp R i ∧ q_cs M M1) (z := (q_pl (q_nr R i (fun _ => 0)) i)) hx hb hr hG hlocks (⟨by unfold q_bp; first | (rw [if_pos (by assumption)]; done) | (rw [if_neg (by assumption)]; done), (q_cs.tr (q_cs.rf M) hcs_M4)⟩) dX5_bestPlaceOf_33
  · skip
    refine lv_aload_n hx hb dX5_bestPlaceOf_11 rfl (lv_at hl 0 rfl) ?_
    refine g_get hx hb hts hinX5 hown hG (o := 152) (hdm 152 (by decide)) rfl rfl 0 (by decide) f10 (fun _ h => h) rfl dX5_bestPlaceOf_12 ?_
    refine lv_iload_n hx hb dX5_bestPlaceOf_15 rfl (lv_at hl 1 rfl) ?_
    refine g_callV (b := 0) (As := [.int (iZ (i : Int))]) (rest := []) ⟨hx, hb, hml, hown, hts⟩ (c_X3_placeOf l G M hdm 0 ⟨by decide, by decide⟩ R hR hI i (by omega)) (cwV 1 hts gX5_bestPlaceOf_X3_placeOf rfl rfl rfl (by decide +kernel) ⟨Nat.le_of_ble_eq_true rfl, Nat.le_of_ble_eq_true rfl⟩) hG (g_recv hG (b := 0) (hdm 0 (by decide)) (gE_T ⟨by decide, by decide⟩ G _) rfl) rfl hl.1 rfl (Nat.le_of_ble_eq_true rfl) dX5_bestPlaceOf_16 ⟨Nat.zero_le _, Nat.zero_le _⟩ (fun z7 M8 H locs hp_16 hG => ?_)
    obtain ⟨hz_16, hM_16⟩ := hp_16; replace hz_16 := hz_16.symm; subst hz_16; replace hM_16 := hM_16.symm; subst hM_16
    exact g_iret (post := fun z M1 => z = q_bp R i ∧ q_cs M M1) (z := (q_pl R i)) hx hb hr hG hlocks (⟨by unfold q_bp; first | (rw [if_pos (by assumption)]; done) | (rw [if_neg (by assumption)]; done), (q_cs.rf M)⟩) dX5_bestPlaceOf_19
set_option maxHeartbeats 4000000 in
set_option maxRecDepth 100000 in
theorem c_X5_bestPlace (l : Launch) (G : gG) (M : Nat → Nat → Int) (hl0 : l.stackTraces = false) (hdm : ∀ k, k < 169 → gdm G k) (R : Nat → Int) (hR : q_tr M 0 R) (hI : q_inv R) (a : Int) (ha9 : -2147483648 ≤ a ∧ a < 2147483648) : gMx l yX5_bestPlace wsX5_bestPlace ({ frames := 6, cells := 1, slots := 6, locals := 117 } : Room) G M [.ref (gad G 152), .int (iZ a)] (fun z M1 => (if 0 ≤ a ∧ a < q_nd R then (0 : Int) else 1) = 0 ∧ z = q_bp R a.toNat ∧ q_cs M M1) (fun E M1 => (((if 0 ≤ a ∧ a < q_nd R then (0 : Int) else 1) = 1 ∧ E = "java/lang/IndexOutOfBoundsException")) ∧ q_cs M M1) := by
  refine gMx_of (cc := cX5_bestPlace) (maxL := 2) (ret := some .int) (by decide) rfl (Nat.le_of_ble_eq_true rfl) ?_
  intro p e s m below meth c ls hx hb hr hml hown hts hlocks hl hX ht9 hG
  have hown : s.vm.findClass RX5 = some m.cls := hown
  have hl : lv_has ls 2 [(0, .ref (gad G 152)), (1, .int (iZ a))] := hl
  have hinX5 : ∀ w ∈ u_ws RX5 TX5 8, w ∈ wsX5_bestPlace := by decide +kernel
  have f10 := hts (.fieldLink RX5 10 "DogTrials" "now" "LDogTrials$Trial;") (by decide +kernel)
  have hnd := hI.1
  refine lv_aload_n hx hb dX5_bestPlace_0 rfl (lv_at hl 0 rfl) ?_
  refine g_get hx hb hts hinX5 hown hG (o := 152) (hdm 152 (by decide)) rfl rfl 0 (by decide) f10 (fun _ h => h) rfl dX5_bestPlace_1 ?_
  refine lv_iload_n hx hb dX5_bestPlace_4 rfl (lv_at hl 1 rfl) ?_
  refine g_callV (b := 0) (As := [.int (iZ a)]) (rest := []) ⟨hx, hb, hml, hown, hts⟩ (c_X3_hasDog l G M hdm 0 ⟨by decide, by decide⟩ R hR hI a (by omega)) (cwV 1 hts gX5_bestPlace_X3_hasDog rfl rfl rfl (by decide +kernel) ⟨Nat.le_of_ble_eq_true rfl, Nat.le_of_ble_eq_true rfl⟩) hG (g_recv hG (b := 0) (hdm 0 (by decide)) (gE_T ⟨by decide, by decide⟩ G _) rfl) rfl hl.1 rfl (Nat.le_of_ble_eq_true rfl) dX5_bestPlace_5 ⟨Nat.zero_le _, Nat.zero_le _⟩ (fun z1 M2 H locs hp_5 hG => ?_)
  obtain ⟨hz_5, hM_5⟩ := hp_5; replace hz_5 := hz_5.symm; subst hz_5; replace hM_5 := hM_5.symm; subst hM_5
  refine z_ifP_ne (tgt := 21) hx hb dX5_bestPlace_8 (by decide) (fun c_8 => ?_) (fun c_8 => ?_)
  · skip
    have hna : a = ((a.toNat : Nat) : Int) := by omega
    refine lv_aload_n hx hb dX5_bestPlace_21 rfl (lv_at hl 0 rfl) ?_
    refine lv_iload_n hx hb dX5_bestPlace_22 rfl (lv_at hl 1 rfl) ?_
    refine g_callV (b := 152) (As := [.int (iZ ((a.toNat) : Int))]) (rest := []) ⟨hx, hb, hml, hown, hts⟩ (c_X5_bestPlaceOf l G M hdm R hR hI ((a.toNat)) (by omega)) (cwV 1 hts gX5_bestPlace_X5_bestPlaceOf rfl rfl rfl (by decide +kernel) ⟨Nat.le_of_ble_eq_true rfl, Nat.le_of_ble_eq_true rfl⟩) hG (g_recv hG (b := 152) (hdm 152 (by decide)) rfl rfl) rfl hl.1 (by rw [← hna]; rfl) (Nat.le_of_ble_eq_true rfl) dX5_bestPlace_23 ⟨Nat.zero_le _, Nat.zero_le _⟩ (fun z3 M4 H locs hp_23 hG => ?_)
    obtain ⟨hz_23, hcs_M4⟩ := hp_23; replace hz_23 := hz_23.symm; subst hz_23
    have hR_M4 : q_tr M4 0 R := q_cs.tr0 hcs_M4 hR
    exact g_iretX (post := fun z M1 => (if 0 ≤ a ∧ a < q_nd R then (0 : Int) else 1) = 0 ∧ z = q_bp R a.toNat ∧ q_cs M M1) (px := fun E M1 => (((if 0 ≤ a ∧ a < q_nd R then (0 : Int) else 1) = 1 ∧ E = "java/lang/IndexOutOfBoundsException")) ∧ q_cs M M1) (z := (q_bp R ((a.toNat)))) hx hb hr hG hlocks (⟨by (repeat' split) <;> first | rfl | omega | (exfalso; omega) | contradiction, rfl, (q_cs.tr (q_cs.rf M) hcs_M4)⟩) dX5_bestPlace_26
  · skip
    exact g_throwIO hx hb hl0 hown hX hG ht9 (hl.1.trans hml.symm) (hts (.classLink RX5 136 "java/lang/IndexOutOfBoundsException") (by decide +kernel)) (hts (.initialized "java/lang/IndexOutOfBoundsException") (by decide +kernel)) (fun w hw => hts w (List.mem_cons_of_mem _ (List.mem_append_right _ hw))) (is := 138) (text := "there is no such dog") (by decide +kernel) dX5_bestPlace_11 dX5_bestPlace_14 dX5_bestPlace_15 dX5_bestPlace_17 dX5_bestPlace_20 ⟨Nat.le_of_ble_eq_true rfl, Nat.le_of_ble_eq_true rfl, Nat.le_of_ble_eq_true rfl, Nat.le_of_ble_eq_true rfl⟩ hlocks (⟨⟨by (repeat' split) <;> first | rfl | omega | (exfalso; omega) | contradiction, rfl⟩, (q_cs.rf M)⟩)
set_option maxHeartbeats 4000000 in
set_option maxRecDepth 100000 in
theorem c_X5_mayLose (l : Launch) (G : gG) (M : Nat → Nat → Int) (hl0 : l.stackTraces = false) (hdm : ∀ k, k < 169 → gdm G k) (R : Nat → Int) (hR : q_tr M 0 R) (hI : q_inv R) (a : Int) (ha9 : -2147483648 ≤ a ∧ a < 2147483648) (b : Int) (hb9 : -2147483648 ≤ b ∧ b < 2147483648) : gMx l yX5_mayLose wsX5_mayLose ({ frames := 6, cells := 1, slots := 6, locals := 91 } : Room) G M [.ref (gad G 152), .int (iZ a), .int (iZ b)] (fun z M1 => (if ¬ (0 ≤ a ∧ a < q_nd R) then (1 : Int) else if ¬ (1 ≤ b ∧ b ≤ 12) then 2 else 0) = 0 ∧ z = q_ml R a.toNat b ∧ q_cs M M1) (fun E M1 => (((if ¬ (0 ≤ a ∧ a < q_nd R) then (1 : Int) else if ¬ (1 ≤ b ∧ b ≤ 12) then 2 else 0) = 1 ∧ E = "java/lang/IndexOutOfBoundsException") ∨ ((if ¬ (0 ≤ a ∧ a < q_nd R) then (1 : Int) else if ¬ (1 ≤ b ∧ b ≤ 12) then 2 else 0) = 2 ∧ E = "java/lang/IllegalArgumentException")) ∧ q_cs M M1) := by
  refine gMx_of (cc := cX5_mayLose) (maxL := 5) (ret := some .int) (by decide) rfl (Nat.le_of_ble_eq_true rfl) ?_
  intro p e s m below meth c ls hx hb hr hml hown hts hlocks hl hX ht9 hG
  have hown : s.vm.findClass RX5 = some m.cls := hown
  have hl : lv_has ls 5 [(0, .ref (gad G 152)), (1, .int (iZ a)), (2, .int (iZ b))] := hl
  have hinX5 : ∀ w ∈ u_ws RX5 TX5 8, w ∈ wsX5_mayLose := by decide +kernel
  have f10 := hts (.fieldLink RX5 10 "DogTrials" "now" "LDogTrials$Trial;") (by decide +kernel)
  have f16 := hts (.fieldLink RX5 16 "DogTrials" "supposed" "LDogTrials$Trial;") (by decide +kernel)
  have hnd := hI.1
  refine lv_aload_n hx hb dX5_mayLose_0 rfl (lv_at hl 0 rfl) ?_
  refine g_get hx hb hts hinX5 hown hG (o := 152) (hdm 152 (by decide)) rfl rfl 0 (by decide) f10 (fun _ h => h) rfl dX5_mayLose_1 ?_
  refine lv_iload_n hx hb dX5_mayLose_4 rfl (lv_at hl 1 rfl) ?_
  refine g_callV (b := 0) (As := [.int (iZ a)]) (rest := []) ⟨hx, hb, hml, hown, hts⟩ (c_X3_hasDog l G M hdm 0 ⟨by decide, by decide⟩ R hR hI a (by omega)) (cwV 1 hts gX5_mayLose_X3_hasDog rfl rfl rfl (by decide +kernel) ⟨Nat.le_of_ble_eq_true rfl, Nat.le_of_ble_eq_true rfl⟩) hG (g_recv hG (b := 0) (hdm 0 (by decide)) (gE_T ⟨by decide, by decide⟩ G _) rfl) rfl hl.1 rfl (Nat.le_of_ble_eq_true rfl) dX5_mayLose_5 ⟨Nat.zero_le _, Nat.zero_le _⟩ (fun z1 M2 H locs hp_5 hG => ?_)
  obtain ⟨hz_5, hM_5⟩ := hp_5; replace hz_5 := hz_5.symm; subst hz_5; replace hM_5 := hM_5.symm; subst hM_5
  refine z_ifP_ne (tgt := 21) hx hb dX5_mayLose_8 (by decide) (fun c_8 => ?_) (fun c_8 => ?_)
  · skip
    have hna : a = ((a.toNat : Nat) : Int) := by omega
    refine lv_iload_n hx hb dX5_mayLose_21 rfl (lv_at hl 2 rfl) ?_
    refine lv_iconst (v := iZ 1) hx hb dX5_mayLose_22 rfl ?_
    refine z_icmp_lt (tgt := 32) hx hb (by omega) (by decide) dX5_mayLose_23 (by decide) (fun c_23 => ?_) (fun c_23 => ?_)
    · skip
      exact g_throwWIA hx hb hl0 hown hX hG ht9 (hl.1.trans hml.symm) (hts (.classLink RX5 55 "java/lang/IllegalArgumentException") (by decide +kernel)) (hts (.initialized "java/lang/IllegalArgumentException") (by decide +kernel)) (fun w hw => hts w (List.mem_cons_of_mem _ (List.mem_append_right _ hw))) (is := 272) (text := "the place is out of range") (by decide +kernel) dX5_mayLose_32 dX5_mayLose_35 dX5_mayLose_36 dX5_mayLose_39 dX5_mayLose_42 ⟨Nat.le_of_ble_eq_true rfl, Nat.le_of_ble_eq_true rfl, Nat.le_of_ble_eq_true rfl, Nat.le_of_ble_eq_true rfl⟩ hlocks (⟨Or.inr (⟨by (repeat' split) <;> first | rfl | omega | (exfalso; omega) | contradiction, rfl⟩), (q_cs.rf M)⟩)
    · skip
      refine lv_iload_n hx hb dX5_mayLose_26 rfl (lv_at hl 2 rfl) ?_
      refine lv_bipush (v := iZ (12)) hx hb dX5_mayLose_27 (by decide) ?_
      refine z_icmp_le (tgt := 43) hx hb (by omega) (by decide) dX5_mayLose_29 (by decide) (fun c_29 => ?_) (fun c_29 => ?_)
      · skip
        have hIs9 : q_inv (q_nr R a.toNat (fun _ => 0)) := inv_nr hI (fun p hp => by have := wth_in p; omega)
        have hns9 := q_nr_nd R a.toNat (fun _ => 0)
        have htw9 := q_tw_in hI (i := a.toNat) (by omega)
        refine lv_aload_n hx hb dX5_mayLose_43 rfl (lv_at hl 0 rfl) ?_
        refine g_get hx hb hts hinX5 hown hG (o := 152) (hdm 152 (by decide)) rfl rfl 0 (by decide) f10 (fun _ h => h) rfl dX5_mayLose_44 ?_
        refine lv_iload_n hx hb dX5_mayLose_47 rfl (lv_at hl 1 rfl) ?_
        refine g_callV (b := 0) (As := [.int (iZ ((a.toNat) : Int))]) (rest := []) ⟨hx, hb, hml, hown, hts⟩ (c_X3_isToRun l G M hdm 0 ⟨by decide, by decide⟩ R hR hI ((a.toNat)) (by omega)) (cwV 1 hts gX5_mayLose_X3_isToRun rfl rfl rfl (by decide +kernel) ⟨Nat.le_of_ble_eq_true rfl, Nat.le_of_ble_eq_true rfl⟩) hG (g_recv hG (b := 0) (hdm 0 (by decide)) (gE_T ⟨by decide, by decide⟩ G _) rfl) rfl hl.1 (by rw [← hna]; rfl) (Nat.le_of_ble_eq_true rfl) dX5_mayLose_48 ⟨Nat.zero_le _, Nat.zero_le _⟩ (fun z3 M4 H locs hp_48 hG => ?_)
        obtain ⟨hz_48, hM_48⟩ := hp_48; replace hz_48 := hz_48.symm; subst hz_48; replace hM_48 := hM_48.symm; subst hM_48
        refine z_ifP_ne (tgt := 57) hx hb dX5_mayLose_51 (by decide) (fun c_51 => ?_) (fun c_51 => ?_)
        · skip
          refine lv_aload_n hx hb dX5_mayLose_57 rfl (lv_at hl 0 rfl) ?_
          refine lv_iload_n hx hb dX5_mayLose_58 rfl (lv_at hl 1 rfl) ?_
          refine g_vcallV (b := 152) (As := [.int (iZ ((a.toNat) : Int))]) (rest := []) ⟨hx, hb, hml, hown, hts⟩ (c_X5_supposeFaultlessRun l G M hdm R hR hI ((a.toNat)) (by omega)) (cwV 1 hts gX5_mayLose_X5_supposeFaultlessRun rfl rfl rfl (by decide +kernel) ⟨Nat.le_of_ble_eq_true rfl, Nat.le_of_ble_eq_true rfl⟩) hG (g_recv hG (b := 152) (hdm 152 (by decide)) rfl rfl) rfl hl.1 (by rw [← hna]; rfl) (Nat.le_of_ble_eq_true rfl) dX5_mayLose_59 ⟨Nat.zero_le _, Nat.zero_le _⟩ (fun M6 H locs hp_59 hG => ?_)
          obtain ⟨ht_M6, hcs_M6⟩ := hp_59
          have hR_M6 : q_tr M6 0 R := q_cs.tr0 hcs_M6 hR
          refine lv_aload_n hx hb dX5_mayLose_62 rfl (lv_at hl 0 rfl) ?_
          refine g_get hx hb hts hinX5 hown hG (o := 152) (hdm 152 (by decide)) rfl rfl 1 (by decide) f16 (fun _ h => h) rfl dX5_mayLose_63 ?_
          refine lv_iload_n hx hb dX5_mayLose_66 rfl (lv_at hl 1 rfl) ?_
          refine g_callV (b := 8) (As := [.int (iZ ((a.toNat) : Int))]) (rest := []) ⟨hx, hb, hml, hown, hts⟩ (c_X3_scoreOf l G M6 hdm 8 ⟨by decide, by decide⟩ (q_nr R ((a.toNat)) (fun _ => 0)) ht_M6 hIs9 ((a.toNat)) (by omega)) (cwV 1 hts gX5_mayLose_X3_scoreOf rfl rfl rfl (by decide +kernel) ⟨Nat.le_of_ble_eq_true rfl, Nat.le_of_ble_eq_true rfl⟩) hG (g_recv hG (b := 8) (hdm 8 (by decide)) (gE_T ⟨by decide, by decide⟩ G _) rfl) rfl hl.1 (by rw [← hna]; rfl) (Nat.le_of_ble_eq_true rfl) dX5_mayLose_67 ⟨Nat.zero_le _, Nat.zero_le _⟩ (fun z7 M8 H locs hp_67 hG => ?_)
          obtain ⟨hz_67, hM_67⟩ := hp_67; replace hz_67 := hz_67.symm; subst hz_67; replace hM_67 := hM_67.symm; subst hM_67
          have hbs9 := sc_in (hIs9.2.1 a.toNat (by omega))
          refine lv_istore_n (lv' := [(3, .int (iZ (q_sc (q_nr R ((a.toNat)) (fun _ => 0)) ((a.toNat))))), (0, .ref (gad G 152)), (1, .int (iZ a)), (2, .int (iZ b))]) hx hb dX5_mayLose_70 rfl hl (by decide) rfl (fun ls hl => ?_)
          refine lv_aload_n hx hb dX5_mayLose_71 rfl (lv_at hl 1 rfl) ?_
          refine g_get hx hb hts hinX5 hown hG (o := 152) (hdm 152 (by decide)) rfl rfl 0 (by decide) f10 (fun _ h => h) rfl dX5_mayLose_72 ?_
          refine lv_iload_n hx hb dX5_mayLose_75 rfl (lv_at hl 2 rfl) ?_
          refine g_callV (b := 0) (As := [.int (iZ ((a.toNat) : Int))]) (rest := []) ⟨hx, hb, hml, hown, hts⟩ (c_X3_worthToRun l G M6 hdm 0 ⟨by decide, by decide⟩ R hR_M6 hI ((a.toNat)) (by omega)) (cwV 1 hts gX5_mayLose_X3_worthToRun rfl rfl rfl (by decide +kernel) ⟨Nat.le_of_ble_eq_true rfl, Nat.le_of_ble_eq_true rfl⟩) hG (g_recv hG (b := 0) (hdm 0 (by decide)) (gE_T ⟨by decide, by decide⟩ G _) rfl) rfl hl.1 (by rw [← hna]; rfl) (Nat.le_of_ble_eq_true rfl) dX5_mayLose_76 ⟨Nat.zero_le _, Nat.zero_le _⟩ (fun z9 M10 H locs hp_76 hG => ?_)
          obtain ⟨hz_76, hM_76⟩ := hp_76; replace hz_76 := hz_76.symm; subst hz_76; replace hM_76 := hM_76.symm; subst hM_76
          refine lv_istore (lv' := [(4, .int (iZ (q_tw R ((a.toNat))))), (3, .int (iZ (q_sc (q_nr R ((a.toNat)) (fun _ => 0)) ((a.toNat))))), (0, .ref (gad G 152)), (1, .int (iZ a)), (2, .int (iZ b))]) hx hb dX5_mayLose_79 hl (by decide) rfl (fun ls hl => ?_)
          have L_81 : ∀ (n_81 : Nat) (k : Nat) (x_i : Int), (x_i = ((k : Int) - 1)) → ((k : Int) ≤ q_tw R a.toNat + 1) → (q_dsc (fun x => decide (q_ab R (q_sc (q_nr R a.toNat (fun _ => 0)) a.toNat - (x : Int)) ≤ b - 1)) (q_tw R a.toNat).toNat = if k = 0 then -9 else q_dsc (fun x => decide (q_ab R (q_sc (q_nr R a.toNat (fun _ => 0)) a.toNat - (x : Int)) ≤ b - 1)) (k - 1)) → k + 1 < n_81 → ∀ (H : Heap) (locs : List Loc) (ls : Array Slot), gH G M6 s H locs → lv_has ls 5 [(4, .int (iZ x_i)), (3, .int (iZ (q_sc (q_nr R ((a.toNat)) (fun _ => 0)) ((a.toNat))))), (0, .ref (gad G 152)), (1, .int (iZ a)), (2, .int (iZ b))] → W p l e ({ frames := 6, cells := 1, slots := 6, locals := 91 } : Room) s m [.ref (gad G 152), .int (iZ a), .int (iZ b)].toArray below meth c H locs 0 0 (vx_MQ below (va_Qi (fun r (u : Int × (Nat → Nat → Int)) => r = iZ u.1 ∧ (fun z M1 => (if ¬ (0 ≤ a ∧ a < q_nd R) then (1 : Int) else if ¬ (1 ≤ b ∧ b ≤ 12) then 2 else 0) = 0 ∧ z = q_ml R a.toNat b ∧ q_cs M M1) u.1 u.2) (fun u U => gB G u.2 U) (gA G)) (gXC G (fun E M1 => (((if ¬ (0 ≤ a ∧ a < q_nd R) then (1 : Int) else if ¬ (1 ≤ b ∧ b ≤ 12) then 2 else 0) = 1 ∧ E = "java/lang/IndexOutOfBoundsException") ∨ ((if ¬ (0 ≤ a ∧ a < q_nd R) then (1 : Int) else if ¬ (1 ≤ b ∧ b ≤ 12) then 2 else 0) = 2 ∧ E = "java/lang/IllegalArgumentException")) ∧ q_cs M M1)) [.ref (gad G 152), .int (iZ a), .int (iZ b)].toArray s 1 6 (gA G)) (F0 m 81 ls []) := by
            intro n_81
            induction n_81 with
            | zero => intro k x_i he_x_i hk hds hm_81; exact absurd hm_81 (Nat.not_lt_zero _)
            | succ n_81 ih_81 =>
              intro k x_i he_x_i hk hds hm_81 H locs ls hG hl
              subst he_x_i
              have hcab := fun v : Int => ct_in (fun j => decide (v < q_sc R j)) (q_nd R).toNat
              refine lv_iload hx hb dX5_mayLose_81 (lv_at hl 0 rfl) ?_
              refine z_if_lt (tgt := 112) hx hb (by omega) dX5_mayLose_83 (by decide) (fun c_83 => ?_) (fun c_83 => ?_)
              · skip
                refine lv_bipush (v := iZ (-9)) hx hb dX5_mayLose_112 (by decide) ?_
                exact g_iretX (post := fun z M1 => (if ¬ (0 ≤ a ∧ a < q_nd R) then (1 : Int) else if ¬ (1 ≤ b ∧ b ≤ 12) then 2 else 0) = 0 ∧ z = q_ml R a.toNat b ∧ q_cs M M1) (px := fun E M1 => (((if ¬ (0 ≤ a ∧ a < q_nd R) then (1 : Int) else if ¬ (1 ≤ b ∧ b ≤ 12) then 2 else 0) = 1 ∧ E = "java/lang/IndexOutOfBoundsException") ∨ ((if ¬ (0 ≤ a ∧ a < q_nd R) then (1 : Int) else if ¬ (1 ≤ b ∧ b ≤ 12) then 2 else 0) = 2 ∧ E = "java/lang/IllegalArgumentException")) ∧ q_cs M M1) (z := (-9)) hx hb hr hG hlocks (⟨by (repeat' split) <;> first | rfl | omega | (exfalso; omega) | contradiction, by unfold q_ml; rw [if_pos (by assumption), hds, if_pos (by omega)], (q_cs.tr (q_cs.rf M) hcs_M6)⟩) dX5_mayLose_114
              · skip
                refine lv_aload_n hx hb dX5_mayLose_86 rfl (lv_at hl 2 rfl) ?_
                refine g_get hx hb hts hinX5 hown hG (o := 152) (hdm 152 (by decide)) rfl rfl 0 (by decide) f10 (fun _ h => h) rfl dX5_mayLose_87 ?_
                refine lv_iload_n hx hb dX5_mayLose_90 rfl (lv_at hl 1 rfl) ?_
                refine lv_iload hx hb dX5_mayLose_91 (lv_at hl 0 rfl) ?_
                refine z_isub (z := (q_sc (q_nr R a.toNat (fun _ => 0)) a.toNat - ((k : Int) - 1))) hx hb (by omega) dX5_mayLose_93 ?_
                refine g_callV (b := 0) (As := [.int (iZ (q_sc (q_nr R a.toNat (fun _ => 0)) a.toNat - ((k : Int) - 1)))]) (rest := []) ⟨hx, hb, hml, hown, hts⟩ (c_X3_dogsWithScoreAbove l G M6 hdm 0 ⟨by decide, by decide⟩ R hR_M6 hI (q_sc (q_nr R a.toNat (fun _ => 0)) a.toNat - ((k : Int) - 1)) (by omega)) (cwV 1 hts gX5_mayLose_X3_dogsWithScoreAbove rfl rfl rfl (by decide +kernel) ⟨Nat.le_of_ble_eq_true rfl, Nat.le_of_ble_eq_true rfl⟩) hG (g_recv hG (b := 0) (hdm 0 (by decide)) (gE_T ⟨by decide, by decide⟩ G _) rfl) rfl hl.1 rfl (Nat.le_of_ble_eq_true rfl) dX5_mayLose_94 ⟨Nat.zero_le _, Nat.zero_le _⟩ (fun z11 M12 H locs hp_94 hG => ?_)
                obtain ⟨hz_94, hM_94⟩ := hp_94; replace hz_94 := hz_94.symm; subst hz_94; replace hM_94 := hM_94.symm; subst hM_94
                have hab9 : 0 ≤ q_ab R (q_sc (q_nr R a.toNat (fun _ => 0)) a.toNat - ((k : Int) - 1)) ∧ q_ab R (q_sc (q_nr R a.toNat (fun _ => 0)) a.toNat - ((k : Int) - 1)) ≤ (q_nd R).toNat := hcab _
                refine lv_iload_n hx hb dX5_mayLose_97 rfl (lv_at hl 4 rfl) ?_
                refine lv_iconst (v := iZ 1) hx hb dX5_mayLose_98 rfl ?_
                refine z_isub (z := (b - 1)) hx hb (by omega) dX5_mayLose_99 ?_
                refine z_icmp_gt (tgt := 106) hx hb (by omega) (by omega) dX5_mayLose_100 (by decide) (fun c_100 => ?_) (fun c_100 => ?_)
                · skip
                  refine z_iinc (z := ((k : Int) - 2)) (lv' := [(4, .int (iZ ((k : Int) - 2))), (3, .int (iZ (q_sc (q_nr R ((a.toNat)) (fun _ => 0)) ((a.toNat))))), (0, .ref (gad G 152)), (1, .int (iZ a)), (2, .int (iZ b))]) hx hb dX5_mayLose_106 hl (k := 0) rfl (by omega) (by decide) rfl (fun ls hl => ?_)
                  refine lv_goto (tgt := 81) hx hb dX5_mayLose_109 (by decide) ?_
                  exact ih_81 (k - 1) ((k : Int) - 2)  (by omega) (by omega) (by rw [hds, if_neg (by omega)]; exact q_ml_step (P := (fun x => decide (q_ab R (q_sc (q_nr R a.toNat (fun _ => 0)) a.toNat - (x : Int)) ≤ b - 1))) (by omega) (fun h9 => by have h8 := of_decide_eq_true h9; rw [show ((k - 1 : Nat) : Int) = (k : Int) - 1 by omega] at h8; omega)) (by omega) _ _ _ hG (lv_sub hl [0, 1, 2, 3, 4] rfl)
                · skip
                  refine lv_iload hx hb dX5_mayLose_103 (lv_at hl 0 rfl) ?_
                  exact g_iretX (post := fun z M1 => (if ¬ (0 ≤ a ∧ a < q_nd R) then (1 : Int) else if ¬ (1 ≤ b ∧ b ≤ 12) then 2 else 0) = 0 ∧ z = q_ml R a.toNat b ∧ q_cs M M1) (px := fun E M1 => (((if ¬ (0 ≤ a ∧ a < q_nd R) then (1 : Int) else if ¬ (1 ≤ b ∧ b ≤ 12) then 2 else 0) = 1 ∧ E = "java/lang/IndexOutOfBoundsException") ∨ ((if ¬ (0 ≤ a ∧ a < q_nd R) then (1 : Int) else if ¬ (1 ≤ b ∧ b ≤ 12) then 2 else 0) = 2 ∧ E = "java/lang/IllegalArgumentException")) ∧ q_cs M M1) (z := ((k : Int) - 1)) hx hb hr hG hlocks (⟨by (repeat' split) <;> first | rfl | omega | (exfalso; omega) | contradiction, by unfold q_ml; rw [if_pos (by assumption), hds, if_neg (by omega), q_dsc_yes (P := (fun x => decide (q_ab R (q_sc (q_nr R a.toNat (fun _ => 0)) a.toNat - (x : Int)) ≤ b - 1))) (decide_eq_true (by rw [show ((k - 1 : Nat) : Int) = (k : Int) - 1 by omega]; omega))]; omega, (q_cs.tr (q_cs.rf M) hcs_M6)⟩) dX5_mayLose_105
          exact L_81 _ ((q_tw R a.toNat).toNat + 1) (q_tw R ((a.toNat)))  (by omega) (by omega) (by rw [if_neg (by omega), show (q_tw R a.toNat).toNat + 1 - 1 = (q_tw R a.toNat).toNat by omega]) (Nat.lt_succ_self _) _ _ _ hG (lv_sub hl [0, 1, 2, 3, 4] rfl)
        · skip
          refine lv_bipush (v := iZ (-9)) hx hb dX5_mayLose_54 (by decide) ?_
          exact g_iretX (post := fun z M1 => (if ¬ (0 ≤ a ∧ a < q_nd R) then (1 : Int) else if ¬ (1 ≤ b ∧ b ≤ 12) then 2 else 0) = 0 ∧ z = q_ml R a.toNat b ∧ q_cs M M1) (px := fun E M1 => (((if ¬ (0 ≤ a ∧ a < q_nd R) then (1 : Int) else if ¬ (1 ≤ b ∧ b ≤ 12) then 2 else 0) = 1 ∧ E = "java/lang/IndexOutOfBoundsException") ∨ ((if ¬ (0 ≤ a ∧ a < q_nd R) then (1 : Int) else if ¬ (1 ≤ b ∧ b ≤ 12) then 2 else 0) = 2 ∧ E = "java/lang/IllegalArgumentException")) ∧ q_cs M M1) (z := (-9)) hx hb hr hG hlocks (⟨by (repeat' split) <;> first | rfl | omega | (exfalso; omega) | contradiction, by unfold q_ml; rw [if_neg (by assumption)], (q_cs.rf M)⟩) dX5_mayLose_56
      · skip
        exact g_throwWIA hx hb hl0 hown hX hG ht9 (hl.1.trans hml.symm) (hts (.classLink RX5 55 "java/lang/IllegalArgumentException") (by decide +kernel)) (hts (.initialized "java/lang/IllegalArgumentException") (by decide +kernel)) (fun w hw => hts w (List.mem_cons_of_mem _ (List.mem_append_right _ hw))) (is := 272) (text := "the place is out of range") (by decide +kernel) dX5_mayLose_32 dX5_mayLose_35 dX5_mayLose_36 dX5_mayLose_39 dX5_mayLose_42 ⟨Nat.le_of_ble_eq_true rfl, Nat.le_of_ble_eq_true rfl, Nat.le_of_ble_eq_true rfl, Nat.le_of_ble_eq_true rfl⟩ hlocks (⟨Or.inr (⟨by (repeat' split) <;> first | rfl | omega | (exfalso; omega) | contradiction, rfl⟩), (q_cs.rf M)⟩)
  · skip
    exact g_throwIO hx hb hl0 hown hX hG ht9 (hl.1.trans hml.symm) (hts (.classLink RX5 136 "java/lang/IndexOutOfBoundsException") (by decide +kernel)) (hts (.initialized "java/lang/IndexOutOfBoundsException") (by decide +kernel)) (fun w hw => hts w (List.mem_cons_of_mem _ (List.mem_append_left _ (List.mem_append_right _ hw)))) (is := 138) (text := "there is no such dog") (by decide +kernel) dX5_mayLose_11 dX5_mayLose_14 dX5_mayLose_15 dX5_mayLose_17 dX5_mayLose_20 ⟨Nat.le_of_ble_eq_true rfl, Nat.le_of_ble_eq_true rfl, Nat.le_of_ble_eq_true rfl, Nat.le_of_ble_eq_true rfl⟩ hlocks (⟨Or.inl ⟨by (repeat' split) <;> first | rfl | omega | (exfalso; omega) | contradiction, rfl⟩, (q_cs.rf M)⟩)
set_option maxHeartbeats 4000000 in
set_option maxRecDepth 100000 in
theorem c_X5_runScript (l : Launch) (G : gG) (M : Nat → Nat → Int) (hl0 : l.stackTraces = false) (hdm : ∀ k, k < 169 → gdm G k) (R : Nat → Int) (hR : q_tr M 0 R) (hI : q_inv R) (a : Int) (ha9 : -2147483648 ≤ a ∧ a < 2147483648) (v : Int) (hv9 : -9223372036854775808 ≤ v ∧ v < 9223372036854775808) : gMx l yX5_runScript wsX5_runScript ({ frames := 6, cells := 1, slots := 6, locals := 143 } : Room) G M [.ref (gad G 152), .int (iZ a), .long (lZ v)] (fun z M1 => (if (1 ≤ a ∧ a ≤ 4) ∧ 0 ≤ v ∧ v < q_p4 a.toNat then (0 : Int) else 1) = 0 ∧ z = q_ff (q_cmd v a.toNat) R a.toNat ∧ q_cs M M1) (fun E M1 => (((if (1 ≤ a ∧ a ≤ 4) ∧ 0 ≤ v ∧ v < q_p4 a.toNat then (0 : Int) else 1) = 1 ∧ E = "java/lang/IllegalArgumentException")) ∧ q_cs M M1) := by
  refine gMx_of (cc := cX5_runScript) (maxL := 4) (ret := some .int) (by decide) rfl (Nat.le_of_ble_eq_true rfl) ?_
  intro p e s m below meth c ls hx hb hr hml hown hts hlocks hl hX ht9 hG
  have hown : s.vm.findClass RX5 = some m.cls := hown
  have hl : lv_has ls 4 [(0, .ref (gad G 152)), (1, .int (iZ a)), (2, .long (lZ v))] := hl
  have hinX5 : ∀ w ∈ u_ws RX5 TX5 8, w ∈ wsX5_runScript := by decide +kernel
  have f10 := hts (.fieldLink RX5 10 "DogTrials" "now" "LDogTrials$Trial;") (by decide +kernel)
  have f29 := hts (.fieldLink RX5 29 "DogTrials" "rehearsal" "LDogTrials$Rehearsal;") (by decide +kernel)
  refine lv_iload_n hx hb dX5_runScript_0 rfl (lv_at hl 1 rfl) ?_
  refine lv_iconst (v := iZ 1) hx hb dX5_runScript_1 rfl ?_
  refine z_icmp_lt (tgt := 22) hx hb (by omega) (by decide) dX5_runScript_2 (by decide) (fun c_2 => ?_) (fun c_2 => ?_)
  · skip
    exact g_throwWIA hx hb hl0 hown hX hG ht9 (hl.1.trans hml.symm) (hts (.classLink RX5 55 "java/lang/IllegalArgumentException") (by decide +kernel)) (hts (.initialized "java/lang/IllegalArgumentException") (by decide +kernel)) (fun w hw => hts w (List.mem_cons_of_mem _ (List.mem_append_right _ hw))) (is := 300) (text := "n or the script is out of range") (by decide +kernel) dX5_runScript_22 dX5_runScript_25 dX5_runScript_26 dX5_runScript_29 dX5_runScript_32 ⟨Nat.le_of_ble_eq_true rfl, Nat.le_of_ble_eq_true rfl, Nat.le_of_ble_eq_true rfl, Nat.le_of_ble_eq_true rfl⟩ hlocks (⟨⟨by (repeat' split) <;> first | rfl | omega | (exfalso; omega) | contradiction, rfl⟩, (q_cs.rf M)⟩)
  · skip
    refine lv_iload_n hx hb dX5_runScript_5 rfl (lv_at hl 1 rfl) ?_
    refine lv_iconst (v := iZ 4) hx hb dX5_runScript_6 rfl ?_
    refine z_icmp_gt (tgt := 22) hx hb (by omega) (by decide) dX5_runScript_7 (by decide) (fun c_7 => ?_) (fun c_7 => ?_)
    · skip
      exact g_throwWIA hx hb hl0 hown hX hG ht9 (hl.1.trans hml.symm) (hts (.classLink RX5 55 "java/lang/IllegalArgumentException") (by decide +kernel)) (hts (.initialized "java/lang/IllegalArgumentException") (by decide +kernel)) (fun w hw => hts w (List.mem_cons_of_mem _ (List.mem_append_right _ hw))) (is := 300) (text := "n or the script is out of range") (by decide +kernel) dX5_runScript_22 dX5_runScript_25 dX5_runScript_26 dX5_runScript_29 dX5_runScript_32 ⟨Nat.le_of_ble_eq_true rfl, Nat.le_of_ble_eq_true rfl, Nat.le_of_ble_eq_true rfl, Nat.le_of_ble_eq_true rfl⟩ hlocks (⟨⟨by (repeat' split) <;> first | rfl | omega | (exfalso; omega) | contradiction, rfl⟩, (q_cs.rf M)⟩)
    · skip
      have hna : a = ((a.toNat : Nat) : Int) := by omega
      refine lv_aload_n hx hb dX5_runScript_10 rfl (lv_at hl 0 rfl) ?_
      refine g_get hx hb hts hinX5 hown hG (o := 152) (hdm 152 (by decide)) rfl rfl 3 (by decide) f29 (fun _ h => h) rfl dX5_runScript_11 ?_
      refine lv_iload_n hx hb dX5_runScript_14 rfl (lv_at hl 1 rfl) ?_
      refine lv_lload_n hx hb dX5_runScript_15 rfl (lv_at hl 2 rfl) ?_
      refine g_callV (b := 163) (As := [.int (iZ ((a.toNat) : Int)), .long (lZ v)]) (rest := []) ⟨hx, hb, hml, hown, hts⟩ (c_X2_readScript l G M hdm ((a.toNat)) (by omega) v (by omega)) (cwV 2 hts gX5_runScript_X2_readScript rfl rfl rfl (by decide +kernel) ⟨Nat.le_of_ble_eq_true rfl, Nat.le_of_ble_eq_true rfl⟩) hG (g_recv hG (b := 163) (hdm 163 (by decide)) rfl rfl) rfl hl.1 (by rw [← hna]; rfl) (Nat.le_of_ble_eq_true rfl) dX5_runScript_16 ⟨Nat.zero_le _, Nat.zero_le _⟩ (fun z1 M2 H locs hp_16 hG => ?_)
      obtain ⟨hz_16, hcm_M2, ho_M2⟩ := hp_16; replace hz_16 := hz_16.symm; subst hz_16
      have hR_M2 : q_tr M2 0 R := q_tr_off hR (show q_off M M2 164 165 from fun a ha => ho_M2 a (by omega)) (by omega)
      refine z_ifP_ne (tgt := 33) hx hb dX5_runScript_19 (by decide) (fun c_19 => ?_) (fun c_19 => ?_)
      · skip
        refine lv_aload_n hx hb dX5_runScript_33 rfl (lv_at hl 0 rfl) ?_
        refine g_get hx hb hts hinX5 hown hG (o := 152) (hdm 152 (by decide)) rfl rfl 3 (by decide) f29 (fun _ h => h) rfl dX5_runScript_34 ?_
        refine lv_aload_n hx hb dX5_runScript_37 rfl (lv_at hl 0 rfl) ?_
        refine g_get hx hb hts hinX5 hown hG (o := 152) (hdm 152 (by decide)) rfl rfl 0 (by decide) f10 (fun _ h => h) rfl dX5_runScript_38 ?_
        refine lv_iload_n hx hb dX5_runScript_41 rfl (lv_at hl 1 rfl) ?_
        refine g_callV (b := 163) (As := [.ref (gad G 0), .int (iZ ((a.toNat) : Int))]) (rest := []) ⟨hx, hb, hml, hown, hts⟩ (c_X2_firstFailure l G M2 hdm R hR_M2 hI a.toNat (by omega) (q_cmd v a.toNat) (fun k hk => ⟨hcm_M2 (by omega) k hk, q_cmd_in v a.toNat k⟩)) (cwV 2 hts gX5_runScript_X2_firstFailure rfl rfl rfl (by decide +kernel) ⟨Nat.le_of_ble_eq_true rfl, Nat.le_of_ble_eq_true rfl⟩) hG (g_recv hG (b := 163) (hdm 163 (by decide)) rfl rfl) rfl hl.1 (by rw [← hna]; rfl) (Nat.le_of_ble_eq_true rfl) dX5_runScript_42 ⟨Nat.zero_le _, Nat.zero_le _⟩ (fun z3 M4 H locs hp_42 hG => ?_)
        obtain ⟨hz_42, hrh_M4⟩ := hp_42; replace hz_42 := hz_42.symm; subst hz_42
        have hR_M2_M4 : q_tr M4 0 R := q_tr_rh hR_M2 hrh_M4 (by omega)
        exact g_iretX (post := fun z M1 => (if (1 ≤ a ∧ a ≤ 4) ∧ 0 ≤ v ∧ v < q_p4 a.toNat then (0 : Int) else 1) = 0 ∧ z = q_ff (q_cmd v a.toNat) R a.toNat ∧ q_cs M M1) (px := fun E M1 => (((if (1 ≤ a ∧ a ≤ 4) ∧ 0 ≤ v ∧ v < q_p4 a.toNat then (0 : Int) else 1) = 1 ∧ E = "java/lang/IllegalArgumentException")) ∧ q_cs M M1) (z := (q_ff (q_cmd v a.toNat) R ((a.toNat)))) hx hb hr hG hlocks (⟨by (repeat' split) <;> first | rfl | omega | (exfalso; omega) | contradiction, rfl, (q_cs.rh (q_cs.at164 (q_cs.rf M) ho_M2) hrh_M4)⟩) dX5_runScript_45
      · skip
        exact g_throwWIA hx hb hl0 hown hX hG ht9 (hl.1.trans hml.symm) (hts (.classLink RX5 55 "java/lang/IllegalArgumentException") (by decide +kernel)) (hts (.initialized "java/lang/IllegalArgumentException") (by decide +kernel)) (fun w hw => hts w (List.mem_cons_of_mem _ (List.mem_append_right _ hw))) (is := 300) (text := "n or the script is out of range") (by decide +kernel) dX5_runScript_22 dX5_runScript_25 dX5_runScript_26 dX5_runScript_29 dX5_runScript_32 ⟨Nat.le_of_ble_eq_true rfl, Nat.le_of_ble_eq_true rfl, Nat.le_of_ble_eq_true rfl, Nat.le_of_ble_eq_true rfl⟩ hlocks (⟨⟨by (repeat' split) <;> first | rfl | omega | (exfalso; omega) | contradiction, rfl⟩, (q_cs.at164 (q_cs.rf M) ho_M2)⟩)
set_option maxHeartbeats 4000000 in
set_option maxRecDepth 100000 in
theorem c_X5_simulate (l : Launch) (G : gG) (M : Nat → Nat → Int) (hl0 : l.stackTraces = false) (hdm : ∀ k, k < 169 → gdm G k) (R : Nat → Int) (hR : q_tr M 0 R) (hI : q_inv R) (v : Int) (hv9 : -9223372036854775808 ≤ v ∧ v < 9223372036854775808) (a : Int) (ha9 : -2147483648 ≤ a ∧ a < 2147483648) : gMx l yX5_simulate wsX5_simulate ({ frames := 6, cells := 1, slots := 6, locals := 144 } : Room) G M [.ref (gad G 152), .long (lZ v), .int (iZ a)] (fun z M1 => (if 1 ≤ a ∧ a ≤ 99 then (0 : Int) else 1) = 0 ∧ z = 1000 * (q_sim R v a.toNat) 0 + q_sum (q_sim R v a.toNat) ∧ q_cs M M1) (fun E M1 => (((if 1 ≤ a ∧ a ≤ 99 then (0 : Int) else 1) = 1 ∧ E = "java/lang/IllegalArgumentException")) ∧ q_cs M M1) := by
  refine gMx_of (cc := cX5_simulate) (maxL := 4) (ret := some .int) (by decide) rfl (Nat.le_of_ble_eq_true rfl) ?_
  intro p e s m below meth c ls hx hb hr hml hown hts hlocks hl hX ht9 hG
  have hown : s.vm.findClass RX5 = some m.cls := hown
  have hl : lv_has ls 4 [(0, .ref (gad G 152)), (1, .long (lZ v)), (3, .int (iZ a))] := hl
  have hinX5 : ∀ w ∈ u_ws RX5 TX5 8, w ∈ wsX5_simulate := by decide +kernel
  have f10 := hts (.fieldLink RX5 10 "DogTrials" "now" "LDogTrials$Trial;") (by decide +kernel)
  have f29 := hts (.fieldLink RX5 29 "DogTrials" "rehearsal" "LDogTrials$Rehearsal;") (by decide +kernel)
  refine lv_iload_n hx hb dX5_simulate_0 rfl (lv_at hl 2 rfl) ?_
  refine lv_iconst (v := iZ 1) hx hb dX5_simulate_1 rfl ?_
  refine z_icmp_lt (tgt := 11) hx hb (by omega) (by decide) dX5_simulate_2 (by decide) (fun c_2 => ?_) (fun c_2 => ?_)
  · skip
    exact g_throwWIA hx hb hl0 hown hX hG ht9 (hl.1.trans hml.symm) (hts (.classLink RX5 55 "java/lang/IllegalArgumentException") (by decide +kernel)) (hts (.initialized "java/lang/IllegalArgumentException") (by decide +kernel)) (fun w hw => hts w (List.mem_cons_of_mem _ (List.mem_append_right _ hw))) (is := 305) (text := "m is out of range") (by decide +kernel) dX5_simulate_11 dX5_simulate_14 dX5_simulate_15 dX5_simulate_18 dX5_simulate_21 ⟨Nat.le_of_ble_eq_true rfl, Nat.le_of_ble_eq_true rfl, Nat.le_of_ble_eq_true rfl, Nat.le_of_ble_eq_true rfl⟩ hlocks (⟨⟨by (repeat' split) <;> first | rfl | omega | (exfalso; omega) | contradiction, rfl⟩, (q_cs.rf M)⟩)
  · skip
    refine lv_iload_n hx hb dX5_simulate_5 rfl (lv_at hl 2 rfl) ?_
    refine lv_bipush (v := iZ (99)) hx hb dX5_simulate_6 (by decide) ?_
    refine z_icmp_le (tgt := 22) hx hb (by omega) (by decide) dX5_simulate_8 (by decide) (fun c_8 => ?_) (fun c_8 => ?_)
    · skip
      have hna : a = ((a.toNat : Nat) : Int) := by omega
      refine lv_aload_n hx hb dX5_simulate_22 rfl (lv_at hl 0 rfl) ?_
      refine g_get hx hb hts hinX5 hown hG (o := 152) (hdm 152 (by decide)) rfl rfl 3 (by decide) f29 (fun _ h => h) rfl dX5_simulate_23 ?_
      refine lv_aload_n hx hb dX5_simulate_26 rfl (lv_at hl 0 rfl) ?_
      refine g_get hx hb hts hinX5 hown hG (o := 152) (hdm 152 (by decide)) rfl rfl 0 (by decide) f10 (fun _ h => h) rfl dX5_simulate_27 ?_
      refine lv_lload_n hx hb dX5_simulate_30 rfl (lv_at hl 1 rfl) ?_
      refine lv_iload_n hx hb dX5_simulate_31 rfl (lv_at hl 2 rfl) ?_
      refine g_callV (b := 163) (As := [.ref (gad G 0), .long (lZ v), .int (iZ ((a.toNat) : Int))]) (rest := []) ⟨hx, hb, hml, hown, hts⟩ (c_X2_playRounds l G M hdm R hR hI v a.toNat (by omega)) (cwV 3 hts gX5_simulate_X2_playRounds rfl rfl rfl (by decide +kernel) ⟨Nat.le_of_ble_eq_true rfl, Nat.le_of_ble_eq_true rfl⟩) hG (g_recv hG (b := 163) (hdm 163 (by decide)) rfl rfl) rfl hl.1 (by rw [← hna]; rfl) (Nat.le_of_ble_eq_true rfl) dX5_simulate_32 ⟨Nat.zero_le _, Nat.zero_le _⟩ (fun z1 M2 H locs hp_32 hG => ?_)
      obtain ⟨hz_32, hrh_M2⟩ := hp_32; replace hz_32 := hz_32.symm; subst hz_32
      have hR_M2 : q_tr M2 0 R := q_tr_rh hR hrh_M2 (by omega)
      exact g_iretX (post := fun z M1 => (if 1 ≤ a ∧ a ≤ 99 then (0 : Int) else 1) = 0 ∧ z = 1000 * (q_sim R v a.toNat) 0 + q_sum (q_sim R v a.toNat) ∧ q_cs M M1) (px := fun E M1 => (((if 1 ≤ a ∧ a ≤ 99 then (0 : Int) else 1) = 1 ∧ E = "java/lang/IllegalArgumentException")) ∧ q_cs M M1) (z := (1000 * ((q_sim R v ((a.toNat))) 0) + (q_sum (q_sim R v ((a.toNat)))))) hx hb hr hG hlocks (⟨by (repeat' split) <;> first | rfl | omega | (exfalso; omega) | contradiction, rfl, (q_cs.rh (q_cs.rf M) hrh_M2)⟩) dX5_simulate_35
    · skip
      exact g_throwWIA hx hb hl0 hown hX hG ht9 (hl.1.trans hml.symm) (hts (.classLink RX5 55 "java/lang/IllegalArgumentException") (by decide +kernel)) (hts (.initialized "java/lang/IllegalArgumentException") (by decide +kernel)) (fun w hw => hts w (List.mem_cons_of_mem _ (List.mem_append_right _ hw))) (is := 305) (text := "m is out of range") (by decide +kernel) dX5_simulate_11 dX5_simulate_14 dX5_simulate_15 dX5_simulate_18 dX5_simulate_21 ⟨Nat.le_of_ble_eq_true rfl, Nat.le_of_ble_eq_true rfl, Nat.le_of_ble_eq_true rfl, Nat.le_of_ble_eq_true rfl⟩ hlocks (⟨⟨by (repeat' split) <;> first | rfl | omega | (exfalso; omega) | contradiction, rfl⟩, (q_cs.rf M)⟩)
