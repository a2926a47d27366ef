set_option maxHeartbeats 4000000 in
set_option maxRecDepth 100000 in
theorem c_X5_enter (l : Launch) (G : gG) (M : Nat → Nat → Int) (hl0 : l.stackTraces = false) (hdm : ∀ k, k < 169 → gdm G k) (R : Nat → Int) (hR : q_tr M 0 R) (hI : q_inv R) (o n : Nat) (ho : o < 14) (hn : n ≤ 14) (hm1 : M 165 1 = (o : Int)) (hm2 : M 165 2 = (n : Int)) (a : Int) (ha9 : -2147483648 ≤ a ∧ a < 2147483648) (b : Int) (hb9 : -2147483648 ≤ b ∧ b < 2147483648) : gMx l yX5_enter wsX5_enter ({ frames := 6, cells := 1, slots := 6, locals := 91 } : Room) G M [.ref (gad G 152), .int (iZ a), .int (iZ b)] (fun z M1 => (if ¬ (0 ≤ a ∧ a ≤ 5 ∧ 1 ≤ b ∧ b ≤ 99) then (1 : Int) else if 12 ≤ q_nd R ∨ q_dn R b (-9) (q_nd R).toNat = true then 2 else 0) = 0 ∧ z = q_nd R ∧ q_act M M1 R (q_ent R (q_nd R).toNat a b) o n) (fun E M1 => (((if ¬ (0 ≤ a ∧ a ≤ 5 ∧ 1 ≤ b ∧ b ≤ 99) then (1 : Int) else if 12 ≤ q_nd R ∨ q_dn R b (-9) (q_nd R).toNat = true then 2 else 0) = 1 ∧ E = "java/lang/IllegalArgumentException") ∨ ((if ¬ (0 ≤ a ∧ a ≤ 5 ∧ 1 ≤ b ∧ b ≤ 99) then (1 : Int) else if 12 ≤ q_nd R ∨ q_dn R b (-9) (q_nd R).toNat = true then 2 else 0) = 2 ∧ E = "java/lang/IllegalStateException")) ∧ q_cs M M1) := by
  refine gMx_of (cc := cX5_enter) (maxL := 3) (ret := some .int) (by decide) rfl (Nat.le_of_ble_eq_true rfl) ?_
  intro p e s m below meth c ls hx hb hr hml hown hts hlocks hl hX ht9 hG
  have hown : s.vm.findClass RX5 = some m.cls := hown
  have hl : lv_has ls 3 [(0, .ref (gad G 152)), (1, .int (iZ a)), (2, .int (iZ b))] := hl
  have hinX3 : ∀ w ∈ u_ws RX3 TX3 15, w ∈ wsX5_enter := by decide +kernel
  have hinX5 : ∀ w ∈ u_ws RX5 TX5 8, w ∈ wsX5_enter := by decide +kernel
  have f10 := hts (.fieldLink RX5 10 "DogTrials" "now" "LDogTrials$Trial;") (by decide +kernel)
  have f36 := hts (.fieldLink RX5 36 "DogTrials" "memory" "LDogTrials$Memory;") (by decide +kernel)
  have f92 := hts (.fieldLink RX5 92 "DogTrials$Trial" "dogs" "I") (by decide +kernel)
  have hnd := hI.1
  refine lv_iload_n hx hb dX5_enter_0 rfl (lv_at hl 1 rfl) ?_
  refine g_callS (As := [.int (iZ a)]) (rest := []) ⟨hx, hb, hml, hown, hts⟩ (c_X5_isOwner l G M a (by omega)) (va_cwS 1 hts gX5_enter_X5_isOwner rfl rfl rfl (by decide +kernel) ⟨Nat.le_of_ble_eq_true rfl, Nat.le_of_ble_eq_true rfl⟩) hG rfl hl.1 rfl (Nat.le_of_ble_eq_true rfl) dX5_enter_1 ⟨Nat.zero_le _, Nat.zero_le _⟩ (fun z1 M2 H locs hp_1 hG => ?_)
  obtain ⟨hz_1, hM_1⟩ := hp_1; replace hz_1 := hz_1.symm; subst hz_1; replace hM_1 := hM_1.symm; subst hM_1
  refine z_ifP_eq (tgt := 14) hx hb dX5_enter_4 (by decide) (fun c_4 => ?_) (fun c_4 => ?_)
  · skip
    exact g_throwIA hx hb hl0 hown hX hG ht9 (hl.1.trans hml.symm) (hts (.classLink RX5 55 "java/lang/IllegalArgumentException") (by decide +kernel)) (hts (.initialized "java/lang/IllegalArgumentException") (by decide +kernel)) (fun w hw => hts w (List.mem_cons_of_mem _ (List.mem_append_left _ (List.mem_append_right _ hw)))) (is := 194) (text := "owner or draw is out of range") (by decide +kernel) dX5_enter_14 dX5_enter_17 dX5_enter_18 dX5_enter_20 dX5_enter_23 ⟨Nat.le_of_ble_eq_true rfl, Nat.le_of_ble_eq_true rfl, Nat.le_of_ble_eq_true rfl, Nat.le_of_ble_eq_true rfl⟩ hlocks (⟨Or.inl ⟨by (repeat' split) <;> first | rfl | omega | (exfalso; omega) | contradiction, rfl⟩, (q_cs.rf M)⟩)
  · skip
    refine lv_iload_n hx hb dX5_enter_7 rfl (lv_at hl 2 rfl) ?_
    refine g_callS (As := [.int (iZ b)]) (rest := []) ⟨hx, hb, hml, hown, hts⟩ (c_X5_isDraw l G M b (by omega)) (va_cwS 1 hts gX5_enter_X5_isDraw rfl rfl rfl (by decide +kernel) ⟨Nat.le_of_ble_eq_true rfl, Nat.le_of_ble_eq_true rfl⟩) hG rfl hl.1 rfl (Nat.le_of_ble_eq_true rfl) dX5_enter_8 ⟨Nat.zero_le _, Nat.zero_le _⟩ (fun z3 M4 H locs hp_8 hG => ?_)
    obtain ⟨hz_8, hM_8⟩ := hp_8; replace hz_8 := hz_8.symm; subst hz_8; replace hM_8 := hM_8.symm; subst hM_8
    refine z_ifP_ne (tgt := 24) hx hb dX5_enter_11 (by decide) (fun c_11 => ?_) (fun c_11 => ?_)
    · skip
      refine lv_aload_n hx hb dX5_enter_24 rfl (lv_at hl 0 rfl) ?_
      refine g_get hx hb hts hinX5 hown hG (o := 152) (hdm 152 (by decide)) rfl rfl 0 (by decide) f10 (fun _ h => h) rfl dX5_enter_25 ?_
      refine g_geti (z := (q_nd R)) hx hb hts hinX3 hown hG (o := 0) (hdm 0 (by decide)) (gE_T ⟨by decide, by decide⟩ G _) rfl 0 (by decide) f92 (fun _ h => h) rfl (tr_nd hR) dX5_enter_28 ?_
      refine lv_bipush (v := iZ (12)) hx hb dX5_enter_31 (by decide) ?_
      refine z_icmp_ge (tgt := 49) hx hb (by omega) (by decide) dX5_enter_33 (by decide) (fun c_33 => ?_) (fun c_33 => ?_)
      · skip
        exact g_throwIS hx hb hl0 hown hX hG ht9 (hl.1.trans hml.symm) (hts (.classLink RX5 66 "java/lang/IllegalStateException") (by decide +kernel)) (hts (.initialized "java/lang/IllegalStateException") (by decide +kernel)) (fun w hw => hts w (List.mem_cons_of_mem _ (List.mem_append_right _ hw))) (is := 199) (text := "there are 12 dogs, or one with this draw") (by decide +kernel) dX5_enter_49 dX5_enter_52 dX5_enter_53 dX5_enter_55 dX5_enter_58 ⟨Nat.le_of_ble_eq_true rfl, Nat.le_of_ble_eq_true rfl, Nat.le_of_ble_eq_true rfl, Nat.le_of_ble_eq_true rfl⟩ hlocks (⟨Or.inr (⟨by first | (rw [if_neg (by omega), if_pos (Or.inl (by omega))]; done) | (rcases hz_41 with ⟨h9, h8⟩ | ⟨i9, h9, h8, h7⟩; (exfalso; omega); (rw [if_neg (by omega), if_pos (Or.inr (q_dn_yes (by omega) h7 (by omega)))])), rfl⟩), (q_cs.rf M)⟩)
      · skip
        refine lv_aload_n hx hb dX5_enter_36 rfl (lv_at hl 0 rfl) ?_
        refine g_get hx hb hts hinX5 hown hG (o := 152) (hdm 152 (by decide)) rfl rfl 0 (by decide) f10 (fun _ h => h) rfl dX5_enter_37 ?_
        refine lv_iload_n hx hb dX5_enter_40 rfl (lv_at hl 2 rfl) ?_
        refine g_callV (b := 0) (As := [.int (iZ b)]) (rest := []) ⟨hx, hb, hml, hown, hts⟩ (c_X3_dogWithDraw l G M hdm 0 ⟨by decide, by decide⟩ R hR hI b (by omega)) (cwV 1 hts gX5_enter_X3_dogWithDraw rfl rfl rfl (by decide +kernel) ⟨Nat.le_of_ble_eq_true rfl, Nat.le_of_ble_eq_true rfl⟩) hG (g_recv hG (b := 0) (hdm 0 (by decide)) (gE_T ⟨by decide, by decide⟩ G _) rfl) rfl hl.1 rfl (Nat.le_of_ble_eq_true rfl) dX5_enter_41 ⟨Nat.zero_le _, Nat.zero_le _⟩ (fun z5 M6 H locs hp_41 hG => ?_)
        obtain ⟨hz_41, hM_41⟩ := hp_41; replace hM_41 := hM_41.symm; subst hM_41
        have hz9r : -9 ≤ z5 ∧ z5 < 12 := by rcases hz_41 with ⟨h9, h8⟩ | ⟨i9, h9, h8, h7⟩ <;> omega
        refine lv_bipush (v := iZ (-9)) hx hb dX5_enter_44 (by decide) ?_
        refine z_icmp_eq (tgt := 59) hx hb (by omega) (by decide) dX5_enter_46 (by decide) (fun c_46 => ?_) (fun c_46 => ?_)
        · skip
          have hdn9 : q_dn R b (-9) (q_nd R).toNat = false := by rcases hz_41 with ⟨h9, h8⟩ | ⟨i9, h9, h8, h7⟩; exact h8; (exfalso; omega)
          refine lv_aload_n hx hb dX5_enter_59 rfl (lv_at hl 0 rfl) ?_
          refine g_get hx hb hts hinX5 hown hG (o := 152) (hdm 152 (by decide)) rfl rfl 4 (by decide) f36 (fun _ h => h) rfl dX5_enter_60 ?_
          refine lv_aload_n hx hb dX5_enter_63 rfl (lv_at hl 0 rfl) ?_
          refine g_get hx hb hts hinX5 hown hG (o := 152) (hdm 152 (by decide)) rfl rfl 0 (by decide) f10 (fun _ h => h) rfl dX5_enter_64 ?_
          refine g_vcallV (b := 165) (As := [.ref (gad G 0)]) (rest := []) ⟨hx, hb, hml, hown, hts⟩ (c_X1_remember l G M hdm R hR hI o n ho hn hm1 hm2) (cwV 1 hts gX5_enter_X1_remember rfl rfl rfl (by decide +kernel) ⟨Nat.le_of_ble_eq_true rfl, Nat.le_of_ble_eq_true rfl⟩) hG (g_recv hG (b := 165) (hdm 165 (by decide)) rfl rfl) rfl hl.1 rfl (Nat.le_of_ble_eq_true rfl) dX5_enter_67 ⟨Nat.zero_le _, Nat.zero_le _⟩ (fun M8 H locs hp_67 hG => ?_)
          obtain ⟨hm1_M8, hm2_M8, hm3_M8, hm4_M8⟩ := hp_67
          have hsl_M8 := q_slot_in (q_ro o n) (q_rn n)
          have hR_M8 : q_tr M8 0 R := q_tr_keep hR (fun a h7 h8 => hm4_M8 a (by omega) (by omega))
          refine lv_aload_n hx hb dX5_enter_70 rfl (lv_at hl 0 rfl) ?_
          refine g_get hx hb hts hinX5 hown hG (o := 152) (hdm 152 (by decide)) rfl rfl 0 (by decide) f10 (fun _ h => h) rfl dX5_enter_71 ?_
          refine lv_iload_n hx hb dX5_enter_74 rfl (lv_at hl 1 rfl) ?_
          refine lv_iload_n hx hb dX5_enter_75 rfl (lv_at hl 2 rfl) ?_
          refine g_callV (b := 0) (As := [.int (iZ a), .int (iZ b)]) (rest := []) ⟨hx, hb, hml, hown, hts⟩ (c_X3_addDog l G M8 hdm 0 ⟨by decide, by decide⟩ R hR_M8 hI (q_nd R).toNat (by omega) (by omega) a b) (cwV 2 hts gX5_enter_X3_addDog rfl rfl rfl (by decide +kernel) ⟨Nat.le_of_ble_eq_true rfl, Nat.le_of_ble_eq_true rfl⟩) hG (g_recv hG (b := 0) (hdm 0 (by decide)) (gE_T ⟨by decide, by decide⟩ G _) rfl) rfl hl.1 rfl (Nat.le_of_ble_eq_true rfl) dX5_enter_76 ⟨Nat.zero_le _, Nat.zero_le _⟩ (fun z9 M10 H locs hp_76 hG => ?_)
          obtain ⟨hz_76, ht_M10, ho_M10⟩ := hp_76; replace hz_76 := hz_76.symm; subst hz_76
          exact g_iretX (post := fun z M1 => (if ¬ (0 ≤ a ∧ a ≤ 5 ∧ 1 ≤ b ∧ b ≤ 99) then (1 : Int) else if 12 ≤ q_nd R ∨ q_dn R b (-9) (q_nd R).toNat = true then 2 else 0) = 0 ∧ z = q_nd R ∧ q_act M M1 R (q_ent R (q_nd R).toNat a b) o n) (px := fun E M1 => (((if ¬ (0 ≤ a ∧ a ≤ 5 ∧ 1 ≤ b ∧ b ≤ 99) then (1 : Int) else if 12 ≤ q_nd R ∨ q_dn R b (-9) (q_nd R).toNat = true then 2 else 0) = 1 ∧ E = "java/lang/IllegalArgumentException") ∨ ((if ¬ (0 ≤ a ∧ a ≤ 5 ∧ 1 ≤ b ∧ b ≤ 99) then (1 : Int) else if 12 ≤ q_nd R ∨ q_dn R b (-9) (q_nd R).toNat = true then 2 else 0) = 2 ∧ E = "java/lang/IllegalStateException")) ∧ q_cs M M1) (z := (((q_nd R).toNat) : Int)) hx hb hr hG hlocks (⟨by rw [if_neg (by omega), if_neg (fun h9 => by rcases h9 with h9 | h9; omega; (rw [hdn9] at h9; cases h9))], by omega, q_act.mk (q_cs.rf M) hm1_M8 hm2_M8 hm3_M8 hm4_M8 (q_off.tr (q_off.rf _ _ _) ho_M10 (by omega) (by omega)) ht_M10⟩) dX5_enter_79
        · skip
          exact g_throwIS hx hb hl0 hown hX hG ht9 (hl.1.trans hml.symm) (hts (.classLink RX5 66 "java/lang/IllegalStateException") (by decide +kernel)) (hts (.initialized "java/lang/IllegalStateException") (by decide +kernel)) (fun w hw => hts w (List.mem_cons_of_mem _ (List.mem_append_right _ hw))) (is := 199) (text := "there are 12 dogs, or one with this draw") (by decide +kernel) dX5_enter_49 dX5_enter_52 dX5_enter_53 dX5_enter_55 dX5_enter_58 ⟨Nat.le_of_ble_eq_true rfl, Nat.le_of_ble_eq_true rfl, Nat.le_of_ble_eq_true rfl, Nat.le_of_ble_eq_true rfl⟩ hlocks (⟨Or.inr (⟨by first | (rw [if_neg (by omega), if_pos (Or.inl (by omega))]; done) | (rcases hz_41 with ⟨h9, h8⟩ | ⟨i9, h9, h8, h7⟩; (exfalso; omega); (rw [if_neg (by omega), if_pos (Or.inr (q_dn_yes (by omega) h7 (by omega)))])), rfl⟩), (q_cs.rf M)⟩)
    · skip
      exact g_throwIA hx hb hl0 hown hX hG ht9 (hl.1.trans hml.symm) (hts (.classLink RX5 55 "java/lang/IllegalArgumentException") (by decide +kernel)) (hts (.initialized "java/lang/IllegalArgumentException") (by decide +kernel)) (fun w hw => hts w (List.mem_cons_of_mem _ (List.mem_append_left _ (List.mem_append_right _ hw)))) (is := 194) (text := "owner or draw is out of range") (by decide +kernel) dX5_enter_14 dX5_enter_17 dX5_enter_18 dX5_enter_20 dX5_enter_23 ⟨Nat.le_of_ble_eq_true rfl, Nat.le_of_ble_eq_true rfl, Nat.le_of_ble_eq_true rfl, Nat.le_of_ble_eq_true rfl⟩ hlocks (⟨Or.inl ⟨by (repeat' split) <;> first | rfl | omega | (exfalso; omega) | contradiction, rfl⟩, (q_cs.rf M)⟩)
set_option maxHeartbeats 4000000 in
set_option maxRecDepth 100000 in
theorem c_X5_withdraw (l : Launch) (G : gG) (M : Nat → Nat → Int) (hl0 : l.stackTraces = false) (hdm : ∀ k, k < 169 → gdm G k) (R : Nat → Int) (hR : q_tr M 0 R) (hI : q_inv R) (o n : Nat) (ho : o < 14) (hn : n ≤ 14) (hm1 : M 165 1 = (o : Int)) (hm2 : M 165 2 = (n : Int)) (a : Int) (ha9 : -2147483648 ≤ a ∧ a < 2147483648) : gMx l yX5_withdraw wsX5_withdraw ({ frames := 6, cells := 1, slots := 6, locals := 91 } : Room) G M [.ref (gad G 152), .int (iZ a)] (fun z M1 => (if ¬ (0 ≤ a ∧ a < q_nd R) then (1 : Int) else if q_sa R a.toNat = 3 then 2 else 0) = 0 ∧ z = q_sa R a.toNat ∧ q_act M M1 R (q_gon R a.toNat) o n) (fun E M1 => (((if ¬ (0 ≤ a ∧ a < q_nd R) then (1 : Int) else if q_sa R a.toNat = 3 then 2 else 0) = 1 ∧ E = "java/lang/IndexOutOfBoundsException") ∨ ((if ¬ (0 ≤ a ∧ a < q_nd R) then (1 : Int) else if q_sa R a.toNat = 3 then 2 else 0) = 2 ∧ E = "java/lang/IllegalStateException")) ∧ q_cs M M1) := by
  refine gMx_of (cc := cX5_withdraw) (maxL := 3) (ret := some .int) (by decide) rfl (Nat.le_of_ble_eq_true rfl) ?_
  intro p e s m below meth c ls hx hb hr hml hown hts hlocks hl hX ht9 hG
  have hown : s.vm.findClass RX5 = some m.cls := hown
  have hl : lv_has ls 3 [(0, .ref (gad G 152)), (1, .int (iZ a))] := hl
  have hinX3 : ∀ w ∈ u_ws RX3 TX3 15, w ∈ wsX5_withdraw := by decide +kernel
  have hinX5 : ∀ w ∈ u_ws RX5 TX5 8, w ∈ wsX5_withdraw := by decide +kernel
  have f10 := hts (.fieldLink RX5 10 "DogTrials" "now" "LDogTrials$Trial;") (by decide +kernel)
  have f36 := hts (.fieldLink RX5 36 "DogTrials" "memory" "LDogTrials$Memory;") (by decide +kernel)
  have f147 := hts (.fieldLink RX5 147 "DogTrials$Trial" "states" "[I") (by decide +kernel)
  have hnd := hI.1
  refine lv_aload_n hx hb dX5_withdraw_0 rfl (lv_at hl 0 rfl) ?_
  refine g_get hx hb hts hinX5 hown hG (o := 152) (hdm 152 (by decide)) rfl rfl 0 (by decide) f10 (fun _ h => h) rfl dX5_withdraw_1 ?_
  refine lv_iload_n hx hb dX5_withdraw_4 rfl (lv_at hl 1 rfl) ?_
  refine g_callV (b := 0) (As := [.int (iZ a)]) (rest := []) ⟨hx, hb, hml, hown, hts⟩ (c_X3_hasDog l G M hdm 0 ⟨by decide, by decide⟩ R hR hI a (by omega)) (cwV 1 hts gX5_withdraw_X3_hasDog rfl rfl rfl (by decide +kernel) ⟨Nat.le_of_ble_eq_true rfl, Nat.le_of_ble_eq_true rfl⟩) hG (g_recv hG (b := 0) (hdm 0 (by decide)) (gE_T ⟨by decide, by decide⟩ G _) rfl) rfl hl.1 rfl (Nat.le_of_ble_eq_true rfl) dX5_withdraw_5 ⟨Nat.zero_le _, Nat.zero_le _⟩ (fun z1 M2 H locs hp_5 hG => ?_)
  obtain ⟨hz_5, hM_5⟩ := hp_5; replace hz_5 := hz_5.symm; subst hz_5; replace hM_5 := hM_5.symm; subst hM_5
  refine z_ifP_ne (tgt := 21) hx hb dX5_withdraw_8 (by decide) (fun c_8 => ?_) (fun c_8 => ?_)
  · skip
    have hna : a = ((a.toNat : Nat) : Int) := by omega
    have hdo := dok5 hI a.toNat (by omega)
    refine lv_aload_n hx hb dX5_withdraw_21 rfl (lv_at hl 0 rfl) ?_
    refine g_get hx hb hts hinX5 hown hG (o := 152) (hdm 152 (by decide)) rfl rfl 0 (by decide) f10 (fun _ h => h) rfl dX5_withdraw_22 ?_
    refine g_get hx hb hts hinX3 hown hG (o := 0) (hdm 0 (by decide)) (gE_T ⟨by decide, by decide⟩ G _) rfl 3 (by decide) f147 (fun _ h => h) rfl dX5_withdraw_25 ?_
    refine lv_iload_n hx hb dX5_withdraw_28 rfl (lv_at hl 1 rfl) ?_
    refine g_iald (z := (q_sa R ((a.toNat)))) (j := ((a.toNat))) hx hb hG (o := 3) (hdm 3 (by decide)) (gE_tI ⟨by decide, by decide⟩ 3 (by decide) G _) (by omega) (by omega) (by omega) (tr_sa hR (i := ((a.toNat))) (by omega)) dX5_withdraw_29 ?_
    refine lv_iconst (v := iZ 3) hx hb dX5_withdraw_30 rfl ?_
    refine z_icmp_ne (tgt := 44) hx hb (by omega) (by decide) dX5_withdraw_31 (by decide) (fun c_31 => ?_) (fun c_31 => ?_)
    · skip
      refine lv_aload_n hx hb dX5_withdraw_44 rfl (lv_at hl 0 rfl) ?_
      refine g_get hx hb hts hinX5 hown hG (o := 152) (hdm 152 (by decide)) rfl rfl 4 (by decide) f36 (fun _ h => h) rfl dX5_withdraw_45 ?_
      refine lv_aload_n hx hb dX5_withdraw_48 rfl (lv_at hl 0 rfl) ?_
      refine g_get hx hb hts hinX5 hown hG (o := 152) (hdm 152 (by decide)) rfl rfl 0 (by decide) f10 (fun _ h => h) rfl dX5_withdraw_49 ?_
      refine g_vcallV (b := 165) (As := [.ref (gad G 0)]) (rest := []) ⟨hx, hb, hml, hown, hts⟩ (c_X1_remember l G M hdm R hR hI o n ho hn hm1 hm2) (cwV 1 hts gX5_withdraw_X1_remember rfl rfl rfl (by decide +kernel) ⟨Nat.le_of_ble_eq_true rfl, Nat.le_of_ble_eq_true rfl⟩) hG (g_recv hG (b := 165) (hdm 165 (by decide)) rfl rfl) rfl hl.1 rfl (Nat.le_of_ble_eq_true rfl) dX5_withdraw_52 ⟨Nat.zero_le _, Nat.zero_le _⟩ (fun M4 H locs hp_52 hG => ?_)
      obtain ⟨hm1_M4, hm2_M4, hm3_M4, hm4_M4⟩ := hp_52
      have hsl_M4 := q_slot_in (q_ro o n) (q_rn n)
      have hR_M4 : q_tr M4 0 R := q_tr_keep hR (fun a h7 h8 => hm4_M4 a (by omega) (by omega))
      refine lv_aload_n hx hb dX5_withdraw_55 rfl (lv_at hl 0 rfl) ?_
      refine g_get hx hb hts hinX5 hown hG (o := 152) (hdm 152 (by decide)) rfl rfl 0 (by decide) f10 (fun _ h => h) rfl dX5_withdraw_56 ?_
      refine g_get hx hb hts hinX3 hown hG (o := 0) (hdm 0 (by decide)) (gE_T ⟨by decide, by decide⟩ G _) rfl 3 (by decide) f147 (fun _ h => h) rfl dX5_withdraw_59 ?_
      refine lv_iload_n hx hb dX5_withdraw_62 rfl (lv_at hl 1 rfl) ?_
      refine g_iald (z := (q_sa R ((a.toNat)))) (j := ((a.toNat))) hx hb hG (o := 3) (hdm 3 (by decide)) (gE_tI ⟨by decide, by decide⟩ 3 (by decide) G _) (by omega) (by omega) (by omega) (tr_sa hR_M4 (i := ((a.toNat))) (by omega)) dX5_withdraw_63 ?_
      refine lv_istore_n (lv' := [(2, .int (iZ (q_sa R ((a.toNat))))), (0, .ref (gad G 152)), (1, .int (iZ a))]) hx hb dX5_withdraw_64 rfl hl (by decide) rfl (fun ls hl => ?_)
      refine lv_aload_n hx hb dX5_withdraw_65 rfl (lv_at hl 1 rfl) ?_
      refine g_get hx hb hts hinX5 hown hG (o := 152) (hdm 152 (by decide)) rfl rfl 0 (by decide) f10 (fun _ h => h) rfl dX5_withdraw_66 ?_
      refine g_get hx hb hts hinX3 hown hG (o := 0) (hdm 0 (by decide)) (gE_T ⟨by decide, by decide⟩ G _) rfl 3 (by decide) f147 (fun _ h => h) rfl dX5_withdraw_69 ?_
      refine lv_iload_n hx hb dX5_withdraw_72 rfl (lv_at hl 2 rfl) ?_
      refine lv_iconst (v := iZ 3) hx hb dX5_withdraw_73 rfl ?_
      refine g_iast (j := ((a.toNat))) hx hb hG (o := 3) (hdm 3 (by decide)) (fun f => gE_tI ⟨by decide, by decide⟩ 3 (by decide) G f) (by omega) (by omega) (by omega) dX5_withdraw_74 (fun H locs hG => ?_)
      obtain ⟨M5, hM5⟩ : ∃ X, X = (q_wr M4 3 ((a.toNat)) 3) := ⟨_, rfl⟩
      rw [← hM5] at hG
      have hv0_M5 : q_tr M5 0 (q_gon R a.toNat) := by
        subst hM5
        obtain ⟨r0, rd, rk9, r8, r9, r10, r11, r12, r13, r14, rb⟩ := hR_M4
        refine ⟨?_, fun j hj => ?_, fun k hk => ?_, ?_, ?_, ?_, ?_, ?_, ?_, ?_, fun j hj => ?_⟩
        · rw [q_gon_nd]; simp only [wr_ap, true_and, and_true, false_and, and_false, reduceIte] <;> (repeat' split) <;> omega
        · rw [q_gon_nd] at hj; obtain ⟨d1, d2, d3, d4, d5, d6⟩ := rd j hj; rw [q_gon_ow, q_gon_dr, q_gon_sa, q_gon_hs, q_gon_fr]
          refine ⟨?_, ?_, ?_, ?_, ?_, fun hh p hp => ?_⟩
          · simp only [wr_ap, true_and, and_true, false_and, and_false, reduceIte] <;> (repeat' split) <;> omega
          · simp only [wr_ap, true_and, and_true, false_and, and_false, reduceIte] <;> (repeat' split) <;> omega
          · simp only [wr_ap, true_and, and_true, false_and, and_false, reduceIte] <;> (repeat' split) <;> omega
          · simp only [wr_ap, true_and, and_true, false_and, and_false, reduceIte] <;> (repeat' split) <;> omega
          · simp only [wr_ap, true_and, and_true, false_and, and_false, reduceIte] <;> (repeat' split) <;> omega
          · rw [q_gon_ls _ a.toNat j p hp]; have d7 := d6 (by first | exact hh | omega) p hp; simp only [wr_ap, true_and, and_true, false_and, and_false, reduceIte] <;> (repeat' split) <;> omega
        · rw [q_gon_rk _ a.toNat k hk]; have d8 := rk9 k hk; simp only [wr_ap, true_and, and_true, false_and, and_false, reduceIte] <;> (repeat' split) <;> omega
        · rw [q_gon_s0]; simp only [wr_ap, true_and, and_true, false_and, and_false, reduceIte] <;> (repeat' split) <;> omega
        · rw [q_gon_s1]; simp only [wr_ap, true_and, and_true, false_and, and_false, reduceIte] <;> (repeat' split) <;> omega
        · rw [q_gon_s2]; simp only [wr_ap, true_and, and_true, false_and, and_false, reduceIte] <;> (repeat' split) <;> omega
        · rw [q_gon_s3]; simp only [wr_ap, true_and, and_true, false_and, and_false, reduceIte] <;> (repeat' split) <;> omega
        · rw [q_gon_s4]; simp only [wr_ap, true_and, and_true, false_and, and_false, reduceIte] <;> (repeat' split) <;> omega
        · rw [q_gon_s5]; simp only [wr_ap, true_and, and_true, false_and, and_false, reduceIte] <;> (repeat' split) <;> omega
        · rw [q_gon_s6]; simp only [wr_ap, true_and, and_true, false_and, and_false, reduceIte] <;> (repeat' split) <;> omega
        · have d9 := rb j hj; simp only [wr_ap, true_and, and_true, false_and, and_false, reduceIte] <;> (repeat' split) <;> omega
      refine lv_iload_n hx hb dX5_withdraw_75 rfl (lv_at hl 0 rfl) ?_
      exact g_iretX (post := fun z M1 => (if ¬ (0 ≤ a ∧ a < q_nd R) then (1 : Int) else if q_sa R a.toNat = 3 then 2 else 0) = 0 ∧ z = q_sa R a.toNat ∧ q_act M M1 R (q_gon R a.toNat) o n) (px := fun E M1 => (((if ¬ (0 ≤ a ∧ a < q_nd R) then (1 : Int) else if q_sa R a.toNat = 3 then 2 else 0) = 1 ∧ E = "java/lang/IndexOutOfBoundsException") ∨ ((if ¬ (0 ≤ a ∧ a < q_nd R) then (1 : Int) else if q_sa R a.toNat = 3 then 2 else 0) = 2 ∧ E = "java/lang/IllegalStateException")) ∧ q_cs M M1) (z := (q_sa R ((a.toNat)))) hx hb hr hG hlocks (⟨by (repeat' split) <;> first | rfl | omega | (exfalso; omega) | contradiction, rfl, q_act.mk (q_cs.rf M) hm1_M4 hm2_M4 hm3_M4 hm4_M4 (by rw [hM5]; exact q_off.wr (q_off.rf _ _ _) (by omega) (by omega)) hv0_M5⟩) dX5_withdraw_76
    · skip
      exact g_throwIS hx hb hl0 hown hX hG ht9 (hl.1.trans hml.symm) (hts (.classLink RX5 66 "java/lang/IllegalStateException") (by decide +kernel)) (hts (.initialized "java/lang/IllegalStateException") (by decide +kernel)) (fun w hw => hts w (List.mem_cons_of_mem _ (List.mem_append_right _ hw))) (is := 207) (text := "the dog has withdrawn") (by decide +kernel) dX5_withdraw_34 dX5_withdraw_37 dX5_withdraw_38 dX5_withdraw_40 dX5_withdraw_43 ⟨Nat.le_of_ble_eq_true rfl, Nat.le_of_ble_eq_true rfl, Nat.le_of_ble_eq_true rfl, Nat.le_of_ble_eq_true rfl⟩ hlocks (⟨Or.inr (⟨by (repeat' split) <;> first | rfl | omega | (exfalso; omega) | contradiction, rfl⟩), (q_cs.rf M)⟩)
  · skip
    exact g_throwIO hx hb hl0 hown hX hG ht9 (hl.1.trans hml.symm) (hts (.classLink RX5 136 "java/lang/IndexOutOfBoundsException") (by decide +kernel)) (hts (.initialized "java/lang/IndexOutOfBoundsException") (by decide +kernel)) (fun w hw => hts w (List.mem_cons_of_mem _ (List.mem_append_left _ (List.mem_append_right _ hw)))) (is := 138) (text := "there is no such dog") (by decide +kernel) dX5_withdraw_11 dX5_withdraw_14 dX5_withdraw_15 dX5_withdraw_17 dX5_withdraw_20 ⟨Nat.le_of_ble_eq_true rfl, Nat.le_of_ble_eq_true rfl, Nat.le_of_ble_eq_true rfl, Nat.le_of_ble_eq_true rfl⟩ hlocks (⟨Or.inl ⟨by (repeat' split) <;> first | rfl | omega | (exfalso; omega) | contradiction, rfl⟩, (q_cs.rf M)⟩)
set_option maxHeartbeats 4000000 in
set_option maxRecDepth 100000 in
theorem c_X5_interfere (l : Launch) (G : gG) (M : Nat → Nat → Int) (hl0 : l.stackTraces = false) (hdm : ∀ k, k < 169 → gdm G k) (R : Nat → Int) (hR : q_tr M 0 R) (hI : q_inv R) (o n : Nat) (ho : o < 14) (hn : n ≤ 14) (hm1 : M 165 1 = (o : Int)) (hm2 : M 165 2 = (n : Int)) (a : Int) (ha9 : -2147483648 ≤ a ∧ a < 2147483648) (b : Int) (hb9 : -2147483648 ≤ b ∧ b < 2147483648) : gMx l yX5_interfere wsX5_interfere ({ frames := 6, cells := 1, slots := 6, locals := 91 } : Room) G M [.ref (gad G 152), .int (iZ a), .int (iZ b)] (fun z M1 => (if ¬ (0 ≤ a ∧ a < q_nd R ∧ 0 ≤ b ∧ b ≤ 5) then (1 : Int) else if q_sa R a.toNat ≠ 1 then 2 else 0) = 0 ∧ z = q_sc (q_brk R a.toNat b) a.toNat ∧ q_act M M1 R (q_brk R a.toNat b) o n) (fun E M1 => (((if ¬ (0 ≤ a ∧ a < q_nd R ∧ 0 ≤ b ∧ b ≤ 5) then (1 : Int) else if q_sa R a.toNat ≠ 1 then 2 else 0) = 1 ∧ E = "java/lang/IndexOutOfBoundsException") ∨ ((if ¬ (0 ≤ a ∧ a < q_nd R ∧ 0 ≤ b ∧ b ≤ 5) then (1 : Int) else if q_sa R a.toNat ≠ 1 then 2 else 0) = 2 ∧ E = "java/lang/IllegalStateException")) ∧ q_cs M M1) := by
  refine gMx_of (cc := cX5_interfere) (maxL := 3) (ret := some .int) (by decide) rfl (Nat.le_of_ble_eq_true rfl) ?_
  intro p e s m below meth c ls hx hb hr hml hown hts hlocks hl hX ht9 hG
  have hown : s.vm.findClass RX5 = some m.cls := hown
  have hl : lv_has ls 3 [(0, .ref (gad G 152)), (1, .int (iZ a)), (2, .int (iZ b))] := hl
  have hinX3 : ∀ w ∈ u_ws RX3 TX3 15, w ∈ wsX5_interfere := by decide +kernel
  have hinX5 : ∀ w ∈ u_ws RX5 TX5 8, w ∈ wsX5_interfere := by decide +kernel
  have f10 := hts (.fieldLink RX5 10 "DogTrials" "now" "LDogTrials$Trial;") (by decide +kernel)
  have f36 := hts (.fieldLink RX5 36 "DogTrials" "memory" "LDogTrials$Memory;") (by decide +kernel)
  have f147 := hts (.fieldLink RX5 147 "DogTrials$Trial" "states" "[I") (by decide +kernel)
  have hnd := hI.1
  refine lv_aload_n hx hb dX5_interfere_0 rfl (lv_at hl 0 rfl) ?_
  refine g_get hx hb hts hinX5 hown hG (o := 152) (hdm 152 (by decide)) rfl rfl 0 (by decide) f10 (fun _ h => h) rfl dX5_interfere_1 ?_
  refine lv_iload_n hx hb dX5_interfere_4 rfl (lv_at hl 1 rfl) ?_
  refine g_callV (b := 0) (As := [.int (iZ a)]) (rest := []) ⟨hx, hb, hml, hown, hts⟩ (c_X3_hasDog l G M hdm 0 ⟨by decide, by decide⟩ R hR hI a (by omega)) (cwV 1 hts gX5_interfere_X3_hasDog rfl rfl rfl (by decide +kernel) ⟨Nat.le_of_ble_eq_true rfl, Nat.le_of_ble_eq_true rfl⟩) hG (g_recv hG (b := 0) (hdm 0 (by decide)) (gE_T ⟨by decide, by decide⟩ G _) rfl) rfl hl.1 rfl (Nat.le_of_ble_eq_true rfl) dX5_interfere_5 ⟨Nat.zero_le _, Nat.zero_le _⟩ (fun z1 M2 H locs hp_5 hG => ?_)
  obtain ⟨hz_5, hM_5⟩ := hp_5; replace hz_5 := hz_5.symm; subst hz_5; replace hM_5 := hM_5.symm; subst hM_5
  refine z_ifP_eq (tgt := 18) hx hb dX5_interfere_8 (by decide) (fun c_8 => ?_) (fun c_8 => ?_)
  · skip
    exact g_throwIO hx hb hl0 hown hX hG ht9 (hl.1.trans hml.symm) (hts (.classLink RX5 136 "java/lang/IndexOutOfBoundsException") (by decide +kernel)) (hts (.initialized "java/lang/IndexOutOfBoundsException") (by decide +kernel)) (fun w hw => hts w (List.mem_cons_of_mem _ (List.mem_append_left _ (List.mem_append_right _ hw)))) (is := 169) (text := "there is no such dog or phase") (by decide +kernel) dX5_interfere_18 dX5_interfere_21 dX5_interfere_22 dX5_interfere_24 dX5_interfere_27 ⟨Nat.le_of_ble_eq_true rfl, Nat.le_of_ble_eq_true rfl, Nat.le_of_ble_eq_true rfl, Nat.le_of_ble_eq_true rfl⟩ hlocks (⟨Or.inl ⟨by (repeat' split) <;> first | rfl | omega | (exfalso; omega) | contradiction, rfl⟩, (q_cs.rf M)⟩)
  · skip
    refine lv_iload_n hx hb dX5_interfere_11 rfl (lv_at hl 2 rfl) ?_
    refine g_callS (As := [.int (iZ b)]) (rest := []) ⟨hx, hb, hml, hown, hts⟩ (c_X5_isPhase l G M b (by omega)) (va_cwS 1 hts gX5_interfere_X5_isPhase rfl rfl rfl (by decide +kernel) ⟨Nat.le_of_ble_eq_true rfl, Nat.le_of_ble_eq_true rfl⟩) hG rfl hl.1 rfl (Nat.le_of_ble_eq_true rfl) dX5_interfere_12 ⟨Nat.zero_le _, Nat.zero_le _⟩ (fun z3 M4 H locs hp_12 hG => ?_)
    obtain ⟨hz_12, hM_12⟩ := hp_12; replace hz_12 := hz_12.symm; subst hz_12; replace hM_12 := hM_12.symm; subst hM_12
    refine z_ifP_ne (tgt := 28) hx hb dX5_interfere_15 (by decide) (fun c_15 => ?_) (fun c_15 => ?_)
    · skip
      have hna : a = ((a.toNat : Nat) : Int) := by omega
      have hdo := dok5 hI a.toNat (by omega)
      have hnb9 := q_brk_nd R a.toNat b
      refine lv_aload_n hx hb dX5_interfere_28 rfl (lv_at hl 0 rfl) ?_
      refine g_get hx hb hts hinX5 hown hG (o := 152) (hdm 152 (by decide)) rfl rfl 0 (by decide) f10 (fun _ h => h) rfl dX5_interfere_29 ?_
      refine g_get hx hb hts hinX3 hown hG (o := 0) (hdm 0 (by decide)) (gE_T ⟨by decide, by decide⟩ G _) rfl 3 (by decide) f147 (fun _ h => h) rfl dX5_interfere_32 ?_
      refine lv_iload_n hx hb dX5_interfere_35 rfl (lv_at hl 1 rfl) ?_
      refine g_iald (z := (q_sa R ((a.toNat)))) (j := ((a.toNat))) hx hb hG (o := 3) (hdm 3 (by decide)) (gE_tI ⟨by decide, by decide⟩ 3 (by decide) G _) (by omega) (by omega) (by omega) (tr_sa hR (i := ((a.toNat))) (by omega)) dX5_interfere_36 ?_
      refine lv_iconst (v := iZ 1) hx hb dX5_interfere_37 rfl ?_
      refine z_icmp_eq (tgt := 51) hx hb (by omega) (by decide) dX5_interfere_38 (by decide) (fun c_38 => ?_) (fun c_38 => ?_)
      · skip
        have hdk9 := dok hI a.toNat (by omega)
        have hI1 : q_inv (q_brk R a.toNat b) := inv_brk hI (hdk9.2.2.2.2.2.2 (by omega)) (by omega)
        refine lv_aload_n hx hb dX5_interfere_51 rfl (lv_at hl 0 rfl) ?_
        refine g_get hx hb hts hinX5 hown hG (o := 152) (hdm 152 (by decide)) rfl rfl 4 (by decide) f36 (fun _ h => h) rfl dX5_interfere_52 ?_
        refine lv_aload_n hx hb dX5_interfere_55 rfl (lv_at hl 0 rfl) ?_
        refine g_get hx hb hts hinX5 hown hG (o := 152) (hdm 152 (by decide)) rfl rfl 0 (by decide) f10 (fun _ h => h) rfl dX5_interfere_56 ?_
        refine g_vcallV (b := 165) (As := [.ref (gad G 0)]) (rest := []) ⟨hx, hb, hml, hown, hts⟩ (c_X1_remember l G M hdm R hR hI o n ho hn hm1 hm2) (cwV 1 hts gX5_interfere_X1_remember rfl rfl rfl (by decide +kernel) ⟨Nat.le_of_ble_eq_true rfl, Nat.le_of_ble_eq_true rfl⟩) hG (g_recv hG (b := 165) (hdm 165 (by decide)) rfl rfl) rfl hl.1 rfl (Nat.le_of_ble_eq_true rfl) dX5_interfere_59 ⟨Nat.zero_le _, Nat.zero_le _⟩ (fun M6 H locs hp_59 hG => ?_)
        obtain ⟨hm1_M6, hm2_M6, hm3_M6, hm4_M6⟩ := hp_59
        have hsl_M6 := q_slot_in (q_ro o n) (q_rn n)
        have hR_M6 : q_tr M6 0 R := q_tr_keep hR (fun a h7 h8 => hm4_M6 a (by omega) (by omega))
        refine lv_aload_n hx hb dX5_interfere_62 rfl (lv_at hl 0 rfl) ?_
        refine g_get hx hb hts hinX5 hown hG (o := 152) (hdm 152 (by decide)) rfl rfl 0 (by decide) f10 (fun _ h => h) rfl dX5_interfere_63 ?_
        refine lv_iload_n hx hb dX5_interfere_66 rfl (lv_at hl 1 rfl) ?_
        refine lv_iload_n hx hb dX5_interfere_67 rfl (lv_at hl 2 rfl) ?_
        refine g_vcallV (b := 0) (As := [.int (iZ ((a.toNat) : Int)), .int (iZ b)]) (rest := []) ⟨hx, hb, hml, hown, hts⟩ (c_X3_interfereWith l G M6 hdm 0 ⟨by decide, by decide⟩ R hR_M6 hI ((a.toNat)) (by omega) b) (cwV 2 hts gX5_interfere_X3_interfereWith rfl rfl rfl (by decide +kernel) ⟨Nat.le_of_ble_eq_true rfl, Nat.le_of_ble_eq_true rfl⟩) hG (g_recv hG (b := 0) (hdm 0 (by decide)) (gE_T ⟨by decide, by decide⟩ G _) rfl) rfl hl.1 (by rw [← hna]; rfl) (Nat.le_of_ble_eq_true rfl) dX5_interfere_68 ⟨Nat.zero_le _, Nat.zero_le _⟩ (fun M8 H locs hp_68 hG => ?_)
        obtain ⟨ht_M8, ho_M8⟩ := hp_68
        refine lv_aload_n hx hb dX5_interfere_71 rfl (lv_at hl 0 rfl) ?_
        refine g_get hx hb hts hinX5 hown hG (o := 152) (hdm 152 (by decide)) rfl rfl 0 (by decide) f10 (fun _ h => h) rfl dX5_interfere_72 ?_
        refine lv_iload_n hx hb dX5_interfere_75 rfl (lv_at hl 1 rfl) ?_
        refine g_callV (b := 0) (As := [.int (iZ ((a.toNat) : Int))]) (rest := []) ⟨hx, hb, hml, hown, hts⟩ (c_X3_scoreOf l G M8 hdm 0 ⟨by decide, by decide⟩ (q_brk R ((a.toNat)) b) ht_M8 hI1 ((a.toNat)) (by omega)) (cwV 1 hts gX5_interfere_X3_scoreOf rfl rfl rfl (by decide +kernel) ⟨Nat.le_of_ble_eq_true rfl, Nat.le_of_ble_eq_true rfl⟩) hG (g_recv hG (b := 0) (hdm 0 (by decide)) (gE_T ⟨by decide, by decide⟩ G _) rfl) rfl hl.1 (by rw [← hna]; rfl) (Nat.le_of_ble_eq_true rfl) dX5_interfere_76 ⟨Nat.zero_le _, Nat.zero_le _⟩ (fun z9 M10 H locs hp_76 hG => ?_)
        obtain ⟨hz_76, hM_76⟩ := hp_76; replace hz_76 := hz_76.symm; subst hz_76; replace hM_76 := hM_76.symm; subst hM_76
        exact g_iretX (post := fun z M1 => (if ¬ (0 ≤ a ∧ a < q_nd R ∧ 0 ≤ b ∧ b ≤ 5) then (1 : Int) else if q_sa R a.toNat ≠ 1 then 2 else 0) = 0 ∧ z = q_sc (q_brk R a.toNat b) a.toNat ∧ q_act M M1 R (q_brk R a.toNat b) o n) (px := fun E M1 => (((if ¬ (0 ≤ a ∧ a < q_nd R ∧ 0 ≤ b ∧ b ≤ 5) then (1 : Int) else if q_sa R a.toNat ≠ 1 then 2 else 0) = 1 ∧ E = "java/lang/IndexOutOfBoundsException") ∨ ((if ¬ (0 ≤ a ∧ a < q_nd R ∧ 0 ≤ b ∧ b ≤ 5) then (1 : Int) else if q_sa R a.toNat ≠ 1 then 2 else 0) = 2 ∧ E = "java/lang/IllegalStateException")) ∧ q_cs M M1) (z := (q_sc (q_brk R ((a.toNat)) b) ((a.toNat)))) hx hb hr hG hlocks (⟨by (repeat' split) <;> first | rfl | omega | (exfalso; omega) | contradiction, rfl, q_act.mk (q_cs.rf M) hm1_M6 hm2_M6 hm3_M6 hm4_M6 (q_off.tr (q_off.rf _ _ _) ho_M8 (by omega) (by omega)) ht_M8⟩) dX5_interfere_79
      · skip
        exact g_throwIS hx hb hl0 hown hX hG ht9 (hl.1.trans hml.symm) (hts (.classLink RX5 66 "java/lang/IllegalStateException") (by decide +kernel)) (hts (.initialized "java/lang/IllegalStateException") (by decide +kernel)) (fun w hw => hts w (List.mem_cons_of_mem _ (List.mem_append_right _ hw))) (is := 230) (text := "the dog has not just run") (by decide +kernel) dX5_interfere_41 dX5_interfere_44 dX5_interfere_45 dX5_interfere_47 dX5_interfere_50 ⟨Nat.le_of_ble_eq_true rfl, Nat.le_of_ble_eq_true rfl, Nat.le_of_ble_eq_true rfl, Nat.le_of_ble_eq_true rfl⟩ hlocks (⟨Or.inr (⟨by (repeat' split) <;> first | rfl | omega | (exfalso; omega) | contradiction, rfl⟩), (q_cs.rf M)⟩)
    · skip
      exact g_throwIO hx hb hl0 hown hX hG ht9 (hl.1.trans hml.symm) (hts (.classLink RX5 136 "java/lang/IndexOutOfBoundsException") (by decide +kernel)) (hts (.initialized "java/lang/IndexOutOfBoundsException") (by decide +kernel)) (fun w hw => hts w (List.mem_cons_of_mem _ (List.mem_append_left _ (List.mem_append_right _ hw)))) (is := 169) (text := "there is no such dog or phase") (by decide +kernel) dX5_interfere_18 dX5_interfere_21 dX5_interfere_22 dX5_interfere_24 dX5_interfere_27 ⟨Nat.le_of_ble_eq_true rfl, Nat.le_of_ble_eq_true rfl, Nat.le_of_ble_eq_true rfl, Nat.le_of_ble_eq_true rfl⟩ hlocks (⟨Or.inl ⟨by (repeat' split) <;> first | rfl | omega | (exfalso; omega) | contradiction, rfl⟩, (q_cs.rf M)⟩)
set_option maxHeartbeats 4000000 in
set_option maxRecDepth 100000 in
theorem c_X5_nextDay (l : Launch) (G : gG) (M : Nat → Nat → Int) (hl0 : l.stackTraces = false) (hdm : ∀ k, k < 169 → gdm G k) (R : Nat → Int) (hR : q_tr M 0 R) (hI : q_inv R) (o n : Nat) (ho : o < 14) (hn : n ≤ 14) (hm1 : M 165 1 = (o : Int)) (hm2 : M 165 2 = (n : Int)) (a : Int) (ha9 : -2147483648 ≤ a ∧ a < 2147483648) : gMx l yX5_nextDay wsX5_nextDay ({ frames := 6, cells := 1, slots := 6, locals := 91 } : Room) G M [.ref (gad G 152), .int (iZ a)] (fun z M1 => (if 60 ≤ a ∧ a ≤ 600 then (0 : Int) else 1) = 0 ∧ z = (q_nxt R a) 0 ∧ q_act M M1 R (q_nxt R a) o n) (fun E M1 => (((if 60 ≤ a ∧ a ≤ 600 then (0 : Int) else 1) = 1 ∧ E = "java/lang/IllegalArgumentException")) ∧ q_cs M M1) := by
  refine gMx_of (cc := cX5_nextDay) (maxL := 2) (ret := some .int) (by decide) rfl (Nat.le_of_ble_eq_true rfl) ?_
  intro p e s m below meth c ls hx hb hr hml hown hts hlocks hl hX ht9 hG
  have hown : s.vm.findClass RX5 = some m.cls := hown
  have hl : lv_has ls 2 [(0, .ref (gad G 152)), (1, .int (iZ a))] := hl
  have hinX3 : ∀ w ∈ u_ws RX3 TX3 15, w ∈ wsX5_nextDay := by decide +kernel
  have hinX5 : ∀ w ∈ u_ws RX5 TX5 8, w ∈ wsX5_nextDay := by decide +kernel
  have f10 := hts (.fieldLink RX5 10 "DogTrials" "now" "LDogTrials$Trial;") (by decide +kernel)
  have f36 := hts (.fieldLink RX5 36 "DogTrials" "memory" "LDogTrials$Memory;") (by decide +kernel)
  have f107 := hts (.fieldLink RX5 107 "DogTrials$Trial" "day" "I") (by decide +kernel)
  have hnd := hI.1
  refine lv_iload_n hx hb dX5_nextDay_0 rfl (lv_at hl 1 rfl) ?_
  refine g_callS (As := [.int (iZ a)]) (rest := []) ⟨hx, hb, hml, hown, hts⟩ (c_X5_isSunset l G M a (by omega)) (va_cwS 1 hts gX5_nextDay_X5_isSunset rfl rfl rfl (by decide +kernel) ⟨Nat.le_of_ble_eq_true rfl, Nat.le_of_ble_eq_true rfl⟩) hG rfl hl.1 rfl (Nat.le_of_ble_eq_true rfl) dX5_nextDay_1 ⟨Nat.zero_le _, Nat.zero_le _⟩ (fun z1 M2 H locs hp_1 hG => ?_)
  obtain ⟨hz_1, hM_1⟩ := hp_1; replace hz_1 := hz_1.symm; subst hz_1; replace hM_1 := hM_1.symm; subst hM_1
  refine z_ifP_ne (tgt := 17) hx hb dX5_nextDay_4 (by decide) (fun c_4 => ?_) (fun c_4 => ?_)
  · skip
    refine lv_aload_n hx hb dX5_nextDay_17 rfl (lv_at hl 0 rfl) ?_
    refine g_get hx hb hts hinX5 hown hG (o := 152) (hdm 152 (by decide)) rfl rfl 4 (by decide) f36 (fun _ h => h) rfl dX5_nextDay_18 ?_
    refine lv_aload_n hx hb dX5_nextDay_21 rfl (lv_at hl 0 rfl) ?_
    refine g_get hx hb hts hinX5 hown hG (o := 152) (hdm 152 (by decide)) rfl rfl 0 (by decide) f10 (fun _ h => h) rfl dX5_nextDay_22 ?_
    refine g_vcallV (b := 165) (As := [.ref (gad G 0)]) (rest := []) ⟨hx, hb, hml, hown, hts⟩ (c_X1_remember l G M hdm R hR hI o n ho hn hm1 hm2) (cwV 1 hts gX5_nextDay_X1_remember rfl rfl rfl (by decide +kernel) ⟨Nat.le_of_ble_eq_true rfl, Nat.le_of_ble_eq_true rfl⟩) hG (g_recv hG (b := 165) (hdm 165 (by decide)) rfl rfl) rfl hl.1 rfl (Nat.le_of_ble_eq_true rfl) dX5_nextDay_25 ⟨Nat.zero_le _, Nat.zero_le _⟩ (fun M4 H locs hp_25 hG => ?_)
    obtain ⟨hm1_M4, hm2_M4, hm3_M4, hm4_M4⟩ := hp_25
    have hsl_M4 := q_slot_in (q_ro o n) (q_rn n)
    have hR_M4 : q_tr M4 0 R := q_tr_keep hR (fun a h7 h8 => hm4_M4 a (by omega) (by omega))
    refine lv_aload_n hx hb dX5_nextDay_28 rfl (lv_at hl 0 rfl) ?_
    refine g_get hx hb hts hinX5 hown hG (o := 152) (hdm 152 (by decide)) rfl rfl 0 (by decide) f10 (fun _ h => h) rfl dX5_nextDay_29 ?_
    refine lv_iload_n hx hb dX5_nextDay_32 rfl (lv_at hl 1 rfl) ?_
    refine g_vcallV (b := 0) (As := [.int (iZ a)]) (rest := []) ⟨hx, hb, hml, hown, hts⟩ (c_X3_beginDay l G M4 hdm 0 ⟨by decide, by decide⟩ R hR_M4 hI a) (cwV 1 hts gX5_nextDay_X3_beginDay rfl rfl rfl (by decide +kernel) ⟨Nat.le_of_ble_eq_true rfl, Nat.le_of_ble_eq_true rfl⟩) hG (g_recv hG (b := 0) (hdm 0 (by decide)) (gE_T ⟨by decide, by decide⟩ G _) rfl) rfl hl.1 rfl (Nat.le_of_ble_eq_true rfl) dX5_nextDay_33 ⟨Nat.zero_le _, Nat.zero_le _⟩ (fun M6 H locs hp_33 hG => ?_)
    obtain ⟨ht_M6, ho_M6⟩ := hp_33
    refine lv_aload_n hx hb dX5_nextDay_36 rfl (lv_at hl 0 rfl) ?_
    refine g_get hx hb hts hinX5 hown hG (o := 152) (hdm 152 (by decide)) rfl rfl 0 (by decide) f10 (fun _ h => h) rfl dX5_nextDay_37 ?_
    refine g_geti (z := ((q_nxt R a) 0)) hx hb hts hinX3 hown hG (o := 0) (hdm 0 (by decide)) (gE_T ⟨by decide, by decide⟩ G _) rfl 8 (by decide) f107 (fun _ h => h) rfl (tr_s8 ht_M6) dX5_nextDay_40 ?_
    exact g_iretX (post := fun z M1 => (if 60 ≤ a ∧ a ≤ 600 then (0 : Int) else 1) = 0 ∧ z = (q_nxt R a) 0 ∧ q_act M M1 R (q_nxt R a) o n) (px := fun E M1 => (((if 60 ≤ a ∧ a ≤ 600 then (0 : Int) else 1) = 1 ∧ E = "java/lang/IllegalArgumentException")) ∧ q_cs M M1) (z := ((q_nxt R a) 0)) hx hb hr hG hlocks (⟨by (repeat' split) <;> first | rfl | omega | (exfalso; omega) | contradiction, rfl, q_act.mk (q_cs.rf M) hm1_M4 hm2_M4 hm3_M4 hm4_M4 (q_off.tr (q_off.rf _ _ _) ho_M6 (by omega) (by omega)) ht_M6⟩) dX5_nextDay_43
  · skip
    exact g_throwIA hx hb hl0 hown hX hG ht9 (hl.1.trans hml.symm) (hts (.classLink RX5 55 "java/lang/IllegalArgumentException") (by decide +kernel)) (hts (.initialized "java/lang/IllegalArgumentException") (by decide +kernel)) (fun w hw => hts w (List.mem_cons_of_mem _ (List.mem_append_right _ hw))) (is := 239) (text := "the sunset is out of range") (by decide +kernel) dX5_nextDay_7 dX5_nextDay_10 dX5_nextDay_11 dX5_nextDay_13 dX5_nextDay_16 ⟨Nat.le_of_ble_eq_true rfl, Nat.le_of_ble_eq_true rfl, Nat.le_of_ble_eq_true rfl, Nat.le_of_ble_eq_true rfl⟩ hlocks (⟨⟨by (repeat' split) <;> first | rfl | omega | (exfalso; omega) | contradiction, rfl⟩, (q_cs.rf M)⟩)
set_option maxHeartbeats 4000000 in
set_option maxRecDepth 100000 in
theorem c_X5_setRank (l : Launch) (G : gG) (M : Nat → Nat → Int) (hl0 : l.stackTraces = false) (hdm : ∀ k, k < 169 → gdm G k) (R : Nat → Int) (hR : q_tr M 0 R) (hI : q_inv R) (o n : Nat) (ho : o < 14) (hn : n ≤ 14) (hm1 : M 165 1 = (o : Int)) (hm2 : M 165 2 = (n : Int)) (a : Int) (ha9 : -2147483648 ≤ a ∧ a < 2147483648) : gMx l yX5_setRank wsX5_setRank ({ frames := 6, cells := 1, slots := 6, locals := 96 } : Room) G M [.ref (gad G 152), .int (iZ a)] (fun z M1 => (if q_isr a = true then (0 : Int) else 1) = 0 ∧ z = q_ct (fun i => decide (q_pl R i ≠ q_pl (q_srk R (fun k => q_kd a (5 - k))) i)) (q_nd R).toNat ∧ q_act M M1 R (q_srk R (fun k => q_kd a (5 - k))) o n) (fun E M1 => (((if q_isr a = true then (0 : Int) else 1) = 1 ∧ E = "java/lang/IllegalArgumentException")) ∧ q_cs M M1) := by
  refine gMx_of (cc := cX5_setRank) (maxL := 4) (ret := some .int) (by decide) rfl (Nat.le_of_ble_eq_true rfl) ?_
  intro p e s m below meth c ls hx hb hr hml hown hts hlocks hl hX ht9 hG
  have hown : s.vm.findClass RX5 = some m.cls := hown
  have hl : lv_has ls 4 [(0, .ref (gad G 152)), (1, .int (iZ a))] := hl
  have hinX3 : ∀ w ∈ u_ws RX3 TX3 15, w ∈ wsX5_setRank := by decide +kernel
  have hinX5 : ∀ w ∈ u_ws RX5 TX5 8, w ∈ wsX5_setRank := by decide +kernel
  have f10 := hts (.fieldLink RX5 10 "DogTrials" "now" "LDogTrials$Trial;") (by decide +kernel)
  have f16 := hts (.fieldLink RX5 16 "DogTrials" "supposed" "LDogTrials$Trial;") (by decide +kernel)
  have f36 := hts (.fieldLink RX5 36 "DogTrials" "memory" "LDogTrials$Memory;") (by decide +kernel)
  have f92 := hts (.fieldLink RX5 92 "DogTrials$Trial" "dogs" "I") (by decide +kernel)
  have hnd := hI.1
  refine lv_aload_n hx hb dX5_setRank_0 rfl (lv_at hl 0 rfl) ?_
  refine g_get hx hb hts hinX5 hown hG (o := 152) (hdm 152 (by decide)) rfl rfl 1 (by decide) f16 (fun _ h => h) rfl dX5_setRank_1 ?_
  refine lv_aload_n hx hb dX5_setRank_4 rfl (lv_at hl 0 rfl) ?_
  refine g_get hx hb hts hinX5 hown hG (o := 152) (hdm 152 (by decide)) rfl rfl 0 (by decide) f10 (fun _ h => h) rfl dX5_setRank_5 ?_
  refine g_vcallV (b := 8) (As := [.ref (gad G 0)]) (rest := []) ⟨hx, hb, hml, hown, hts⟩ (c_X3_copyFrom l G M hdm 8 ⟨by decide, by decide⟩ 0 ⟨by decide, by decide⟩ (by omega) R hR hI) (cwV 1 hts gX5_setRank_X3_copyFrom rfl rfl rfl (by decide +kernel) ⟨Nat.le_of_ble_eq_true rfl, Nat.le_of_ble_eq_true rfl⟩) hG (g_recv hG (b := 8) (hdm 8 (by decide)) (gE_T ⟨by decide, by decide⟩ G _) rfl) rfl hl.1 rfl (Nat.le_of_ble_eq_true rfl) dX5_setRank_8 ⟨Nat.zero_le _, Nat.zero_le _⟩ (fun M2 H locs hp_8 hG => ?_)
  obtain ⟨ht_M2, ho_M2⟩ := hp_8
  have hR_M2 : q_tr M2 0 R := q_tr_off hR ho_M2 (by omega)
  refine lv_aload_n hx hb dX5_setRank_11 rfl (lv_at hl 0 rfl) ?_
  refine g_get hx hb hts hinX5 hown hG (o := 152) (hdm 152 (by decide)) rfl rfl 1 (by decide) f16 (fun _ h => h) rfl dX5_setRank_12 ?_
  refine lv_iload_n hx hb dX5_setRank_15 rfl (lv_at hl 1 rfl) ?_
  refine g_callV (b := 8) (As := [.int (iZ a)]) (rest := []) ⟨hx, hb, hml, hown, hts⟩ (c_X3_takeRank l G M2 hdm R ht_M2 a (by omega)) (cwV 1 hts gX5_setRank_X3_takeRank rfl rfl rfl (by decide +kernel) ⟨Nat.le_of_ble_eq_true rfl, Nat.le_of_ble_eq_true rfl⟩) hG (g_recv hG (b := 8) (hdm 8 (by decide)) (gE_T ⟨by decide, by decide⟩ G _) rfl) rfl hl.1 rfl (Nat.le_of_ble_eq_true rfl) dX5_setRank_16 ⟨Nat.zero_le _, Nat.zero_le _⟩ (fun z3 M4 H locs hp_16 hG => ?_)
  obtain ⟨hz_16, hpg_M4, ho_M4⟩ := hp_16
  by_cases hc_16 : q_isr a = true
  have hR_M2_M4 : q_tr M4 0 R := q_tr_off hR_M2 (show q_off M2 M4 15 16 from fun a ha => ho_M4 a (by omega)) (by omega)
  · skip
    rw [if_pos hc_16] at hz_16; replace hz_16 := hz_16.symm; subst hz_16
    have ht_M4 := hpg_M4 hc_16
    refine z_if_ne (tgt := 32) hx hb (by decide) dX5_setRank_19 (by decide) (fun c_19 => ?_) (fun c_19 => ?_)
    · skip
      have hI8 : q_inv (q_srk R (fun k => q_kd a (5 - k))) := inv_srk hI (q_isr_dig hc_16).2
      have hns9 := q_srk_nd R (fun k => q_kd a (5 - k))
      refine lv_iconst (v := iZ 0) hx hb dX5_setRank_32 rfl ?_
      refine lv_istore_n (lv' := [(2, .int (iZ 0)), (0, .ref (gad G 152)), (1, .int (iZ a))]) hx hb dX5_setRank_33 rfl hl (by decide) rfl (fun ls hl => ?_)
      refine lv_iconst (v := iZ 0) hx hb dX5_setRank_34 rfl ?_
      refine lv_istore_n (lv' := [(3, .int (iZ 0)), (2, .int (iZ 0)), (0, .ref (gad G 152)), (1, .int (iZ a))]) hx hb dX5_setRank_35 rfl hl (by decide) rfl (fun ls hl => ?_)
      have L_36 : ∀ (n_36 : Nat) (k : Nat) (x_i : Int) (x_c : Int), (x_i = (k : Int)) → (x_c = (q_ct (fun i => decide (q_pl R i ≠ q_pl (q_srk R (fun k => q_kd a (5 - k))) i)) k)) → ((k : Int) ≤ q_nd R) → 12 - k < n_36 → ∀ (H : Heap) (locs : List Loc) (ls : Array Slot), gH G M4 s H locs → lv_has ls 4 [(3, .int (iZ x_i)), (2, .int (iZ x_c)), (0, .ref (gad G 152)), (1, .int (iZ a))] → W p l e ({ frames := 6, cells := 1, slots := 6, locals := 96 } : Room) s m [.ref (gad G 152), .int (iZ a)].toArray below meth c H locs 0 0 (vx_MQ below (va_Qi (fun r (u : Int × (Nat → Nat → Int)) => r = iZ u.1 ∧ (fun z M1 => (if q_isr a = true then (0 : Int) else 1) = 0 ∧ z = q_ct (fun i => decide (q_pl R i ≠ q_pl (q_srk R (fun k => q_kd a (5 - k))) i)) (q_nd R).toNat ∧ q_act M M1 R (q_srk R (fun k => q_kd a (5 - k))) o n) u.1 u.2) (fun u U => gB G u.2 U) (gA G)) (gXC G (fun E M1 => (((if q_isr a = true then (0 : Int) else 1) = 1 ∧ E = "java/lang/IllegalArgumentException")) ∧ q_cs M M1)) [.ref (gad G 152), .int (iZ a)].toArray s 1 6 (gA G)) (F0 m 36 ls []) := by
        intro n_36
        induction n_36 with
        | zero => intro k x_i x_c he_x_i he_x_c hk hm_36; exact absurd hm_36 (Nat.not_lt_zero _)
        | succ n_36 ih_36 =>
          intro k x_i x_c he_x_i he_x_c hk hm_36 H locs ls hG hl
          subst he_x_i
          subst he_x_c
          have hck := ct_in (fun i => decide (q_pl R i ≠ q_pl (q_srk R (fun k => q_kd a (5 - k))) i)) k
          refine lv_iload_n hx hb dX5_setRank_36 rfl (lv_at hl 0 rfl) ?_
          refine lv_aload_n hx hb dX5_setRank_37 rfl (lv_at hl 2 rfl) ?_
          refine g_get hx hb hts hinX5 hown hG (o := 152) (hdm 152 (by decide)) rfl rfl 0 (by decide) f10 (fun _ h => h) rfl dX5_setRank_38 ?_
          refine g_geti (z := (q_nd R)) hx hb hts hinX3 hown hG (o := 0) (hdm 0 (by decide)) (gE_T ⟨by decide, by decide⟩ G _) rfl 0 (by decide) f92 (fun _ h => h) rfl (tr_nd hR_M2_M4) dX5_setRank_41 ?_
          refine z_icmp_ge (tgt := 75) hx hb (by omega) (by omega) dX5_setRank_44 (by decide) (fun c_44 => ?_) (fun c_44 => ?_)
          · skip
            refine lv_aload_n hx hb dX5_setRank_75 rfl (lv_at hl 2 rfl) ?_
            refine g_get hx hb hts hinX5 hown hG (o := 152) (hdm 152 (by decide)) rfl rfl 4 (by decide) f36 (fun _ h => h) rfl dX5_setRank_76 ?_
            refine lv_aload_n hx hb dX5_setRank_79 rfl (lv_at hl 2 rfl) ?_
            refine g_get hx hb hts hinX5 hown hG (o := 152) (hdm 152 (by decide)) rfl rfl 0 (by decide) f10 (fun _ h => h) rfl dX5_setRank_80 ?_
            refine g_vcallV (b := 165) (As := [.ref (gad G 0)]) (rest := []) ⟨hx, hb, hml, hown, hts⟩ (c_X1_remember l G M4 hdm R hR_M2_M4 hI o n ho hn ((congrFun (q_cs.mem (q_cs.at15 (q_cs.sup (q_cs.rf M) ho_M2 ht_M2) ho_M4)) 1).trans hm1) ((congrFun (q_cs.mem (q_cs.at15 (q_cs.sup (q_cs.rf M) ho_M2 ht_M2) ho_M4)) 2).trans hm2)) (cwV 1 hts gX5_setRank_X1_remember rfl rfl rfl (by decide +kernel) ⟨Nat.le_of_ble_eq_true rfl, Nat.le_of_ble_eq_true rfl⟩) hG (g_recv hG (b := 165) (hdm 165 (by decide)) rfl rfl) rfl hl.1 rfl (Nat.le_of_ble_eq_true rfl) dX5_setRank_83 ⟨Nat.zero_le _, Nat.zero_le _⟩ (fun M6 H locs hp_83 hG => ?_)
            obtain ⟨hm1_M6, hm2_M6, hm3_M6, hm4_M6⟩ := hp_83
            have hsl_M6 := q_slot_in (q_ro o n) (q_rn n)
            have hR_M2_M4_M6 : q_tr M6 0 R := q_tr_keep hR_M2_M4 (fun a h7 h8 => hm4_M6 a (by omega) (by omega))
            have ht_M4_M6 : q_tr M6 8 (q_srk R (fun k => q_kd a (5 - k))) := q_tr_keep ht_M4 (fun a h7 h8 => hm4_M6 a (by omega) (by omega))
            refine lv_aload_n hx hb dX5_setRank_86 rfl (lv_at hl 2 rfl) ?_
            refine g_get hx hb hts hinX5 hown hG (o := 152) (hdm 152 (by decide)) rfl rfl 0 (by decide) f10 (fun _ h => h) rfl dX5_setRank_87 ?_
            refine lv_aload_n hx hb dX5_setRank_90 rfl (lv_at hl 2 rfl) ?_
            refine g_get hx hb hts hinX5 hown hG (o := 152) (hdm 152 (by decide)) rfl rfl 1 (by decide) f16 (fun _ h => h) rfl dX5_setRank_91 ?_
            refine g_vcallV (b := 0) (As := [.ref (gad G 8)]) (rest := []) ⟨hx, hb, hml, hown, hts⟩ (c_X3_copyFrom l G M6 hdm 0 ⟨by decide, by decide⟩ 8 ⟨by decide, by decide⟩ (by omega) (q_srk R (fun k => q_kd a (5 - k))) ht_M4_M6 hI8) (cwV 1 hts gX5_setRank_X3_copyFrom rfl rfl rfl (by decide +kernel) ⟨Nat.le_of_ble_eq_true rfl, Nat.le_of_ble_eq_true rfl⟩) hG (g_recv hG (b := 0) (hdm 0 (by decide)) (gE_T ⟨by decide, by decide⟩ G _) rfl) rfl hl.1 rfl (Nat.le_of_ble_eq_true rfl) dX5_setRank_94 ⟨Nat.zero_le _, Nat.zero_le _⟩ (fun M8 H locs hp_94 hG => ?_)
            obtain ⟨ht_M8, ho_M8⟩ := hp_94
            have ht_M4_M6_M8 : q_tr M8 8 (q_srk R (fun k => q_kd a (5 - k))) := q_tr_off ht_M4_M6 ho_M8 (by omega)
            refine lv_iload_n hx hb dX5_setRank_97 rfl (lv_at hl 1 rfl) ?_
            exact g_iretX (post := fun z M1 => (if q_isr a = true then (0 : Int) else 1) = 0 ∧ z = q_ct (fun i => decide (q_pl R i ≠ q_pl (q_srk R (fun k => q_kd a (5 - k))) i)) (q_nd R).toNat ∧ q_act M M1 R (q_srk R (fun k => q_kd a (5 - k))) o n) (px := fun E M1 => (((if q_isr a = true then (0 : Int) else 1) = 1 ∧ E = "java/lang/IllegalArgumentException")) ∧ q_cs M M1) (z := (q_ct (fun i => decide (q_pl R i ≠ q_pl (q_srk R (fun k => q_kd a (5 - k))) i)) k)) hx hb hr hG hlocks (⟨if_pos hc_16, by rw [show (q_nd R).toNat = k by omega], q_act.mk (q_cs.at15 (q_cs.sup (q_cs.rf M) ho_M2 ht_M2) ho_M4) hm1_M6 hm2_M6 hm3_M6 hm4_M6 (q_off.tr (q_off.rf _ _ _) ho_M8 (by omega) (by omega)) ht_M8⟩) dX5_setRank_98
          · skip
            refine lv_aload_n hx hb dX5_setRank_47 rfl (lv_at hl 2 rfl) ?_
            refine g_get hx hb hts hinX5 hown hG (o := 152) (hdm 152 (by decide)) rfl rfl 0 (by decide) f10 (fun _ h => h) rfl dX5_setRank_48 ?_
            refine lv_iload_n hx hb dX5_setRank_51 rfl (lv_at hl 0 rfl) ?_
            refine g_callV (b := 0) (As := [.int (iZ (k : Int))]) (rest := []) ⟨hx, hb, hml, hown, hts⟩ (c_X3_placeOf l G M4 hdm 0 ⟨by decide, by decide⟩ R hR_M2_M4 hI k (by omega)) (cwV 1 hts gX5_setRank_X3_placeOf rfl rfl rfl (by decide +kernel) ⟨Nat.le_of_ble_eq_true rfl, Nat.le_of_ble_eq_true rfl⟩) hG (g_recv hG (b := 0) (hdm 0 (by decide)) (gE_T ⟨by decide, by decide⟩ G _) rfl) rfl hl.1 rfl (Nat.le_of_ble_eq_true rfl) dX5_setRank_52 ⟨Nat.zero_le _, Nat.zero_le _⟩ (fun z9 M10 H locs hp_52 hG => ?_)
            obtain ⟨hz_52, hM_52⟩ := hp_52; replace hz_52 := hz_52.symm; subst hz_52; replace hM_52 := hM_52.symm; subst hM_52
            have hpa9 := q_pl_rg (R := R) (by omega) k
            refine lv_aload_n hx hb dX5_setRank_55 rfl (lv_at hl 2 rfl) ?_
            refine g_get hx hb hts hinX5 hown hG (o := 152) (hdm 152 (by decide)) rfl rfl 1 (by decide) f16 (fun _ h => h) rfl dX5_setRank_56 ?_
            refine lv_iload_n hx hb dX5_setRank_59 rfl (lv_at hl 0 rfl) ?_
            refine g_callV (b := 8) (As := [.int (iZ (k : Int))]) (rest := [.int (iZ (q_pl R k))]) ⟨hx, hb, hml, hown, hts⟩ (c_X3_placeOf l G M4 hdm 8 ⟨by decide, by decide⟩ (q_srk R (fun k => q_kd a (5 - k))) ht_M4 hI8 k (by omega)) (cwV 1 hts gX5_setRank_X3_placeOf rfl rfl rfl (by decide +kernel) ⟨Nat.le_of_ble_eq_true rfl, Nat.le_of_ble_eq_true rfl⟩) hG (g_recv hG (b := 8) (hdm 8 (by decide)) (gE_T ⟨by decide, by decide⟩ G _) rfl) rfl hl.1 rfl (Nat.le_of_ble_eq_true rfl) dX5_setRank_60 ⟨Nat.zero_le _, Nat.zero_le _⟩ (fun z11 M12 H locs hp_60 hG => ?_)
            obtain ⟨hz_60, hM_60⟩ := hp_60; replace hz_60 := hz_60.symm; subst hz_60; replace hM_60 := hM_60.symm; subst hM_60
            have hpb9 := q_pl_rg (R := (q_srk R (fun k => q_kd a (5 - k)))) (by omega) k
            refine z_icmp_eq (tgt := 69) hx hb (by omega) (by omega) dX5_setRank_63 (by decide) (fun c_63 => ?_) (fun c_63 => ?_)
            · skip
              refine z_iinc (z := ((k : Int) + 1)) (lv' := [(3, .int (iZ ((k : Int) + 1))), (2, .int (iZ (q_ct (fun i => decide (q_pl R i ≠ q_pl (q_srk R (fun k => q_kd a (5 - k))) i)) k))), (0, .ref (gad G 152)), (1, .int (iZ a))]) hx hb dX5_setRank_69 hl (k := 0) rfl (by omega) (by decide) rfl (fun ls hl => ?_)
              refine lv_goto (tgt := 36) hx hb dX5_setRank_72 (by decide) ?_
              exact ih_36 (k + 1) ((k : Int) + 1) (q_ct (fun i => decide (q_pl R i ≠ q_pl (q_srk R (fun k => q_kd a (5 - k))) i)) k)  (by omega) (by rw [q_ct]; first | (rw [if_pos (by first | assumption | exact decide_eq_true (by omega) | (simp_all; done))] <;> omega) | (rw [if_neg (by first | assumption | (intro h9; have h8 := of_decide_eq_true h9; omega) | (simp_all; done))] <;> omega)) (by omega) (by omega) _ _ _ hG (lv_sub hl [0, 1, 2, 3] rfl)
            · skip
              refine z_iinc (z := ((q_ct (fun i => decide (q_pl R i ≠ q_pl (q_srk R (fun k => q_kd a (5 - k))) i)) k) + 1)) (lv' := [(2, .int (iZ ((q_ct (fun i => decide (q_pl R i ≠ q_pl (q_srk R (fun k => q_kd a (5 - k))) i)) k) + 1))), (3, .int (iZ (k : Int))), (0, .ref (gad G 152)), (1, .int (iZ a))]) hx hb dX5_setRank_66 hl (k := 1) rfl (by omega) (by decide) rfl (fun ls hl => ?_)
              refine z_iinc (z := ((k : Int) + 1)) (lv' := [(3, .int (iZ ((k : Int) + 1))), (2, .int (iZ ((q_ct (fun i => decide (q_pl R i ≠ q_pl (q_srk R (fun k => q_kd a (5 - k))) i)) k) + 1))), (0, .ref (gad G 152)), (1, .int (iZ a))]) hx hb dX5_setRank_69 hl (k := 1) rfl (by omega) (by decide) rfl (fun ls hl => ?_)
              refine lv_goto (tgt := 36) hx hb dX5_setRank_72 (by decide) ?_
              exact ih_36 (k + 1) ((k : Int) + 1) ((q_ct (fun i => decide (q_pl R i ≠ q_pl (q_srk R (fun k => q_kd a (5 - k))) i)) k) + 1)  (by omega) (by rw [q_ct]; first | (rw [if_pos (by first | assumption | exact decide_eq_true (by omega) | (simp_all; done))] <;> omega) | (rw [if_neg (by first | assumption | (intro h9; have h8 := of_decide_eq_true h9; omega) | (simp_all; done))] <;> omega)) (by omega) (by omega) _ _ _ hG (lv_sub hl [0, 1, 2, 3] rfl)
      exact L_36 _ 0 0 0  rfl rfl (by omega) (Nat.lt_succ_self _) _ _ _ hG (lv_sub hl [0, 1, 2, 3] rfl)
    · exfalso; omega
  · skip
    rw [if_neg hc_16] at hz_16; replace hz_16 := hz_16.symm; subst hz_16
    refine z_if_ne (tgt := 32) hx hb (by decide) dX5_setRank_19 (by decide) (fun c_19 => ?_) (fun c_19 => ?_)
    · exfalso; omega
    · skip
      exact g_throwIA hx hb hl0 hown hX hG ht9 (hl.1.trans hml.symm) (hts (.classLink RX5 55 "java/lang/IllegalArgumentException") (by decide +kernel)) (hts (.initialized "java/lang/IllegalArgumentException") (by decide +kernel)) (fun w hw => hts w (List.mem_cons_of_mem _ (List.mem_append_right _ hw))) (is := 248) (text := "the rank does not tell each phase once") (by decide +kernel) dX5_setRank_22 dX5_setRank_25 dX5_setRank_26 dX5_setRank_28 dX5_setRank_31 ⟨Nat.le_of_ble_eq_true rfl, Nat.le_of_ble_eq_true rfl, Nat.le_of_ble_eq_true rfl, Nat.le_of_ble_eq_true rfl⟩ hlocks (⟨⟨if_neg hc_16, rfl⟩, (q_cs.at15 (q_cs.sup (q_cs.rf M) ho_M2 ht_M2) ho_M4)⟩)
set_option maxHeartbeats 4000000 in
set_option maxRecDepth 100000 in
theorem c_X5_setDraw (l : Launch) (G : gG) (M : Nat → Nat → Int) (hl0 : l.stackTraces = false) (hdm : ∀ k, k < 169 → gdm G k) (R : Nat → Int) (hR : q_tr M 0 R) (hI : q_inv R) (o n : Nat) (ho : o < 14) (hn : n ≤ 14) (hm1 : M 165 1 = (o : Int)) (hm2 : M 165 2 = (n : Int)) (a : Int) (ha9 : -2147483648 ≤ a ∧ a < 2147483648) (b : Int) (hb9 : -2147483648 ≤ b ∧ b < 2147483648) : gMx l yX5_setDraw wsX5_setDraw ({ frames := 6, cells := 1, slots := 6, locals := 91 } : Room) G M [.ref (gad G 152), .int (iZ a), .int (iZ b)] (fun z M1 => (if ¬ (0 ≤ a ∧ a < q_nd R) then (1 : Int) else if ¬ (1 ≤ b ∧ b ≤ 99) then 2 else if q_dn R b a (q_nd R).toNat = true then 3 else 0) = 0 ∧ z = q_dr R a.toNat ∧ q_act M M1 R (q_sdr R a.toNat b) o n) (fun E M1 => (((if ¬ (0 ≤ a ∧ a < q_nd R) then (1 : Int) else if ¬ (1 ≤ b ∧ b ≤ 99) then 2 else if q_dn R b a (q_nd R).toNat = true then 3 else 0) = 1 ∧ E = "java/lang/IndexOutOfBoundsException") ∨ ((if ¬ (0 ≤ a ∧ a < q_nd R) then (1 : Int) else if ¬ (1 ≤ b ∧ b ≤ 99) then 2 else if q_dn R b a (q_nd R).toNat = true then 3 else 0) = 2 ∧ E = "java/lang/IllegalArgumentException") ∨ ((if ¬ (0 ≤ a ∧ a < q_nd R) then (1 : Int) else if ¬ (1 ≤ b ∧ b ≤ 99) then 2 else if q_dn R b a (q_nd R).toNat = true then 3 else 0) = 3 ∧ E = "java/lang/IllegalStateException")) ∧ q_cs M M1) := by
  refine gMx_of (cc := cX5_setDraw) (maxL := 5) (ret := some .int) (by decide) rfl (Nat.le_of_ble_eq_true rfl) ?_
  intro p e s m below meth c ls hx hb hr hml hown hts hlocks hl hX ht9 hG
  have hown : s.vm.findClass RX5 = some m.cls := hown
  have hl : lv_has ls 5 [(0, .ref (gad G 152)), (1, .int (iZ a)), (2, .int (iZ b))] := hl
  have hinX3 : ∀ w ∈ u_ws RX3 TX3 15, w ∈ wsX5_setDraw := by decide +kernel
  have hinX5 : ∀ w ∈ u_ws RX5 TX5 8, w ∈ wsX5_setDraw := by decide +kernel
  have f10 := hts (.fieldLink RX5 10 "DogTrials" "now" "LDogTrials$Trial;") (by decide +kernel)
  have f36 := hts (.fieldLink RX5 36 "DogTrials" "memory" "LDogTrials$Memory;") (by decide +kernel)
  have f144 := hts (.fieldLink RX5 144 "DogTrials$Trial" "draws" "[I") (by decide +kernel)
  have hnd := hI.1
  refine lv_aload_n hx hb dX5_setDraw_0 rfl (lv_at hl 0 rfl) ?_
  refine g_get hx hb hts hinX5 hown hG (o := 152) (hdm 152 (by decide)) rfl rfl 0 (by decide) f10 (fun _ h => h) rfl dX5_setDraw_1 ?_
  refine lv_iload_n hx hb dX5_setDraw_4 rfl (lv_at hl 1 rfl) ?_
  refine g_callV (b := 0) (As := [.int (iZ a)]) (rest := []) ⟨hx, hb, hml, hown, hts⟩ (c_X3_hasDog l G M hdm 0 ⟨by decide, by decide⟩ R hR hI a (by omega)) (cwV 1 hts gX5_setDraw_X3_hasDog rfl rfl rfl (by decide +kernel) ⟨Nat.le_of_ble_eq_true rfl, Nat.le_of_ble_eq_true rfl⟩) hG (g_recv hG (b := 0) (hdm 0 (by decide)) (gE_T ⟨by decide, by decide⟩ G _) rfl) rfl hl.1 rfl (Nat.le_of_ble_eq_true rfl) dX5_setDraw_5 ⟨Nat.zero_le _, Nat.zero_le _⟩ (fun z1 M2 H locs hp_5 hG => ?_)
  obtain ⟨hz_5, hM_5⟩ := hp_5; replace hz_5 := hz_5.symm; subst hz_5; replace hM_5 := hM_5.symm; subst hM_5
  refine z_ifP_ne (tgt := 21) hx hb dX5_setDraw_8 (by decide) (fun c_8 => ?_) (fun c_8 => ?_)
  · skip
    have hna : a = ((a.toNat : Nat) : Int) := by omega
    have hdo := dok5 hI a.toNat (by omega)
    refine lv_iload_n hx hb dX5_setDraw_21 rfl (lv_at hl 2 rfl) ?_
    refine g_callS (As := [.int (iZ b)]) (rest := []) ⟨hx, hb, hml, hown, hts⟩ (c_X5_isDraw l G M b (by omega)) (va_cwS 1 hts gX5_setDraw_X5_isDraw rfl rfl rfl (by decide +kernel) ⟨Nat.le_of_ble_eq_true rfl, Nat.le_of_ble_eq_true rfl⟩) hG rfl hl.1 rfl (Nat.le_of_ble_eq_true rfl) dX5_setDraw_22 ⟨Nat.zero_le _, Nat.zero_le _⟩ (fun z3 M4 H locs hp_22 hG => ?_)
    obtain ⟨hz_22, hM_22⟩ := hp_22; replace hz_22 := hz_22.symm; subst hz_22; replace hM_22 := hM_22.symm; subst hM_22
    refine z_ifP_ne (tgt := 38) hx hb dX5_setDraw_25 (by decide) (fun c_25 => ?_) (fun c_25 => ?_)
    · skip
      refine lv_aload_n hx hb dX5_setDraw_38 rfl (lv_at hl 0 rfl) ?_
      refine g_get hx hb hts hinX5 hown hG (o := 152) (hdm 152 (by decide)) rfl rfl 0 (by decide) f10 (fun _ h => h) rfl dX5_setDraw_39 ?_
      refine lv_iload_n hx hb dX5_setDraw_42 rfl (lv_at hl 2 rfl) ?_
      refine g_callV (b := 0) (As := [.int (iZ b)]) (rest := []) ⟨hx, hb, hml, hown, hts⟩ (c_X3_dogWithDraw l G M hdm 0 ⟨by decide, by decide⟩ R hR hI b (by omega)) (cwV 1 hts gX5_setDraw_X3_dogWithDraw rfl rfl rfl (by decide +kernel) ⟨Nat.le_of_ble_eq_true rfl, Nat.le_of_ble_eq_true rfl⟩) hG (g_recv hG (b := 0) (hdm 0 (by decide)) (gE_T ⟨by decide, by decide⟩ G _) rfl) rfl hl.1 rfl (Nat.le_of_ble_eq_true rfl) dX5_setDraw_43 ⟨Nat.zero_le _, Nat.zero_le _⟩ (fun z5 M6 H locs hp_43 hG => ?_)
      obtain ⟨hz_43, hM_43⟩ := hp_43; replace hM_43 := hM_43.symm; subst hM_43
      have hz9r : -9 ≤ z5 ∧ z5 < 12 := by rcases hz_43 with ⟨h9, h8⟩ | ⟨i9, h9, h8, h7⟩ <;> omega
      refine lv_istore_n (lv' := [(3, .int (iZ z5)), (0, .ref (gad G 152)), (1, .int (iZ a)), (2, .int (iZ b))]) hx hb dX5_setDraw_46 rfl hl (by decide) rfl (fun ls hl => ?_)
      refine lv_iload_n hx hb dX5_setDraw_47 rfl (lv_at hl 0 rfl) ?_
      refine lv_bipush (v := iZ (-9)) hx hb dX5_setDraw_48 (by decide) ?_
      refine z_icmp_eq (tgt := 68) hx hb (by omega) (by decide) dX5_setDraw_50 (by decide) (fun c_50 => ?_) (fun c_50 => ?_)
      · skip
        have hdn9 : q_dn R b a (q_nd R).toNat = false := by rcases hz_43 with ⟨h9, h8⟩ | ⟨i9, h9, h8, h7⟩; exact q_dn_all h8; (have h6 : (i9 : Int) = a := (by omega); rw [← h6]; exact q_dn_own hI h9 h7)
        refine lv_aload_n hx hb dX5_setDraw_68 rfl (lv_at hl 1 rfl) ?_
        refine g_get hx hb hts hinX5 hown hG (o := 152) (hdm 152 (by decide)) rfl rfl 4 (by decide) f36 (fun _ h => h) rfl dX5_setDraw_69 ?_
        refine lv_aload_n hx hb dX5_setDraw_72 rfl (lv_at hl 1 rfl) ?_
        refine g_get hx hb hts hinX5 hown hG (o := 152) (hdm 152 (by decide)) rfl rfl 0 (by decide) f10 (fun _ h => h) rfl dX5_setDraw_73 ?_
        refine g_vcallV (b := 165) (As := [.ref (gad G 0)]) (rest := []) ⟨hx, hb, hml, hown, hts⟩ (c_X1_remember l G M hdm R hR hI o n ho hn hm1 hm2) (cwV 1 hts gX5_setDraw_X1_remember rfl rfl rfl (by decide +kernel) ⟨Nat.le_of_ble_eq_true rfl, Nat.le_of_ble_eq_true rfl⟩) hG (g_recv hG (b := 165) (hdm 165 (by decide)) rfl rfl) rfl hl.1 rfl (Nat.le_of_ble_eq_true rfl) dX5_setDraw_76 ⟨Nat.zero_le _, Nat.zero_le _⟩ (fun M8 H locs hp_76 hG => ?_)
        obtain ⟨hm1_M8, hm2_M8, hm3_M8, hm4_M8⟩ := hp_76
        have hsl_M8 := q_slot_in (q_ro o n) (q_rn n)
        have hR_M8 : q_tr M8 0 R := q_tr_keep hR (fun a h7 h8 => hm4_M8 a (by omega) (by omega))
        refine lv_aload_n hx hb dX5_setDraw_79 rfl (lv_at hl 1 rfl) ?_
        refine g_get hx hb hts hinX5 hown hG (o := 152) (hdm 152 (by decide)) rfl rfl 0 (by decide) f10 (fun _ h => h) rfl dX5_setDraw_80 ?_
        refine g_get hx hb hts hinX3 hown hG (o := 0) (hdm 0 (by decide)) (gE_T ⟨by decide, by decide⟩ G _) rfl 2 (by decide) f144 (fun _ h => h) rfl dX5_setDraw_83 ?_
        refine lv_iload_n hx hb dX5_setDraw_86 rfl (lv_at hl 2 rfl) ?_
        refine g_iald (z := (q_dr R ((a.toNat)))) (j := ((a.toNat))) hx hb hG (o := 2) (hdm 2 (by decide)) (gE_tI ⟨by decide, by decide⟩ 2 (by decide) G _) (by omega) (by omega) (by omega) (tr_dr hR_M8 (i := ((a.toNat))) (by omega)) dX5_setDraw_87 ?_
        refine lv_istore (lv' := [(4, .int (iZ (q_dr R ((a.toNat))))), (3, .int (iZ z5)), (0, .ref (gad G 152)), (1, .int (iZ a)), (2, .int (iZ b))]) hx hb dX5_setDraw_88 hl (by decide) rfl (fun ls hl => ?_)
        refine lv_aload_n hx hb dX5_setDraw_90 rfl (lv_at hl 2 rfl) ?_
        refine g_get hx hb hts hinX5 hown hG (o := 152) (hdm 152 (by decide)) rfl rfl 0 (by decide) f10 (fun _ h => h) rfl dX5_setDraw_91 ?_
        refine g_get hx hb hts hinX3 hown hG (o := 0) (hdm 0 (by decide)) (gE_T ⟨by decide, by decide⟩ G _) rfl 2 (by decide) f144 (fun _ h => h) rfl dX5_setDraw_94 ?_
        refine lv_iload_n hx hb dX5_setDraw_97 rfl (lv_at hl 3 rfl) ?_
        refine lv_iload_n hx hb dX5_setDraw_98 rfl (lv_at hl 4 rfl) ?_
        refine g_iast (j := ((a.toNat))) hx hb hG (o := 2) (hdm 2 (by decide)) (fun f => gE_tI ⟨by decide, by decide⟩ 2 (by decide) G f) (by omega) (by omega) (by omega) dX5_setDraw_99 (fun H locs hG => ?_)
        obtain ⟨M9, hM9⟩ : ∃ X, X = (q_wr M8 2 ((a.toNat)) b) := ⟨_, rfl⟩
        rw [← hM9] at hG
        have hv0_M9 : q_tr M9 0 (q_sdr R a.toNat b) := by
          subst hM9
          obtain ⟨r0, rd, rk9, r8, r9, r10, r11, r12, r13, r14, rb⟩ := hR_M8
          refine ⟨?_, fun j hj => ?_, fun k hk => ?_, ?_, ?_, ?_, ?_, ?_, ?_, ?_, fun j hj => ?_⟩
          · rw [q_sdr_nd]; simp only [wr_ap, true_and, and_true, false_and, and_false, reduceIte] <;> (repeat' split) <;> omega
          · rw [q_sdr_nd] at hj; obtain ⟨d1, d2, d3, d4, d5, d6⟩ := rd j hj; rw [q_sdr_ow, q_sdr_dr, q_sdr_sa, q_sdr_hs, q_sdr_fr]
            refine ⟨?_, ?_, ?_, ?_, ?_, fun hh p hp => ?_⟩
            · simp only [wr_ap, true_and, and_true, false_and, and_false, reduceIte] <;> (repeat' split) <;> omega
            · simp only [wr_ap, true_and, and_true, false_and, and_false, reduceIte] <;> (repeat' split) <;> omega
            · simp only [wr_ap, true_and, and_true, false_and, and_false, reduceIte] <;> (repeat' split) <;> omega
            · simp only [wr_ap, true_and, and_true, false_and, and_false, reduceIte] <;> (repeat' split) <;> omega
            · simp only [wr_ap, true_and, and_true, false_and, and_false, reduceIte] <;> (repeat' split) <;> omega
            · rw [q_sdr_ls _ a.toNat b j p hp]; have d7 := d6 (by first | exact hh | omega) p hp; simp only [wr_ap, true_and, and_true, false_and, and_false, reduceIte] <;> (repeat' split) <;> omega
          · rw [q_sdr_rk _ a.toNat b k hk]; have d8 := rk9 k hk; simp only [wr_ap, true_and, and_true, false_and, and_false, reduceIte] <;> (repeat' split) <;> omega
          · rw [q_sdr_s0]; simp only [wr_ap, true_and, and_true, false_and, and_false, reduceIte] <;> (repeat' split) <;> omega
          · rw [q_sdr_s1]; simp only [wr_ap, true_and, and_true, false_and, and_false, reduceIte] <;> (repeat' split) <;> omega
          · rw [q_sdr_s2]; simp only [wr_ap, true_and, and_true, false_and, and_false, reduceIte] <;> (repeat' split) <;> omega
          · rw [q_sdr_s3]; simp only [wr_ap, true_and, and_true, false_and, and_false, reduceIte] <;> (repeat' split) <;> omega
          · rw [q_sdr_s4]; simp only [wr_ap, true_and, and_true, false_and, and_false, reduceIte] <;> (repeat' split) <;> omega
          · rw [q_sdr_s5]; simp only [wr_ap, true_and, and_true, false_and, and_false, reduceIte] <;> (repeat' split) <;> omega
          · rw [q_sdr_s6]; simp only [wr_ap, true_and, and_true, false_and, and_false, reduceIte] <;> (repeat' split) <;> omega
          · have d9 := rb j hj; simp only [wr_ap, true_and, and_true, false_and, and_false, reduceIte] <;> (repeat' split) <;> omega
        refine lv_iload hx hb dX5_setDraw_100 (lv_at hl 0 rfl) ?_
        exact g_iretX (post := fun z M1 => (if ¬ (0 ≤ a ∧ a < q_nd R) then (1 : Int) else if ¬ (1 ≤ b ∧ b ≤ 99) then 2 else if q_dn R b a (q_nd R).toNat = true then 3 else 0) = 0 ∧ z = q_dr R a.toNat ∧ q_act M M1 R (q_sdr R a.toNat b) o n) (px := fun E M1 => (((if ¬ (0 ≤ a ∧ a < q_nd R) then (1 : Int) else if ¬ (1 ≤ b ∧ b ≤ 99) then 2 else if q_dn R b a (q_nd R).toNat = true then 3 else 0) = 1 ∧ E = "java/lang/IndexOutOfBoundsException") ∨ ((if ¬ (0 ≤ a ∧ a < q_nd R) then (1 : Int) else if ¬ (1 ≤ b ∧ b ≤ 99) then 2 else if q_dn R b a (q_nd R).toNat = true then 3 else 0) = 2 ∧ E = "java/lang/IllegalArgumentException") ∨ ((if ¬ (0 ≤ a ∧ a < q_nd R) then (1 : Int) else if ¬ (1 ≤ b ∧ b ≤ 99) then 2 else if q_dn R b a (q_nd R).toNat = true then 3 else 0) = 3 ∧ E = "java/lang/IllegalStateException")) ∧ q_cs M M1) (z := (q_dr R ((a.toNat)))) hx hb hr hG hlocks (⟨by rw [if_neg (by omega), if_neg (by omega), if_neg (by rw [hdn9]; decide)], rfl, q_act.mk (q_cs.rf M) hm1_M8 hm2_M8 hm3_M8 hm4_M8 (by rw [hM9]; exact q_off.wr (q_off.rf _ _ _) (by omega) (by omega)) hv0_M9⟩) dX5_setDraw_102
      · skip
        refine lv_iload_n hx hb dX5_setDraw_53 rfl (lv_at hl 0 rfl) ?_
        refine lv_iload_n hx hb dX5_setDraw_54 rfl (lv_at hl 2 rfl) ?_
        refine z_icmp_eq (tgt := 68) hx hb (by omega) (by omega) dX5_setDraw_55 (by decide) (fun c_55 => ?_) (fun c_55 => ?_)
        · skip
          have hdn9 : q_dn R b a (q_nd R).toNat = false := by rcases hz_43 with ⟨h9, h8⟩ | ⟨i9, h9, h8, h7⟩; exact q_dn_all h8; (have h6 : (i9 : Int) = a := (by omega); rw [← h6]; exact q_dn_own hI h9 h7)
          refine lv_aload_n hx hb dX5_setDraw_68 rfl (lv_at hl 1 rfl) ?_
          refine g_get hx hb hts hinX5 hown hG (o := 152) (hdm 152 (by decide)) rfl rfl 4 (by decide) f36 (fun _ h => h) rfl dX5_setDraw_69 ?_
          refine lv_aload_n hx hb dX5_setDraw_72 rfl (lv_at hl 1 rfl) ?_
          refine g_get hx hb hts hinX5 hown hG (o := 152) (hdm 152 (by decide)) rfl rfl 0 (by decide) f10 (fun _ h => h) rfl dX5_setDraw_73 ?_
          refine g_vcallV (b := 165) (As := [.ref (gad G 0)]) (rest := []) ⟨hx, hb, hml, hown, hts⟩ (c_X1_remember l G M hdm R hR hI o n ho hn hm1 hm2) (cwV 1 hts gX5_setDraw_X1_remember rfl rfl rfl (by decide +kernel) ⟨Nat.le_of_ble_eq_true rfl, Nat.le_of_ble_eq_true rfl⟩) hG (g_recv hG (b := 165) (hdm 165 (by decide)) rfl rfl) rfl hl.1 rfl (Nat.le_of_ble_eq_true rfl) dX5_setDraw_76 ⟨Nat.zero_le _, Nat.zero_le _⟩ (fun M11 H locs hp_76 hG => ?_)
          obtain ⟨hm1_M11, hm2_M11, hm3_M11, hm4_M11⟩ := hp_76
          have hsl_M11 := q_slot_in (q_ro o n) (q_rn n)
          have hR_M11 : q_tr M11 0 R := q_tr_keep hR (fun a h7 h8 => hm4_M11 a (by omega) (by omega))
          refine lv_aload_n hx hb dX5_setDraw_79 rfl (lv_at hl 1 rfl) ?_
          refine g_get hx hb hts hinX5 hown hG (o := 152) (hdm 152 (by decide)) rfl rfl 0 (by decide) f10 (fun _ h => h) rfl dX5_setDraw_80 ?_
          refine g_get hx hb hts hinX3 hown hG (o := 0) (hdm 0 (by decide)) (gE_T ⟨by decide, by decide⟩ G _) rfl 2 (by decide) f144 (fun _ h => h) rfl dX5_setDraw_83 ?_
          refine lv_iload_n hx hb dX5_setDraw_86 rfl (lv_at hl 2 rfl) ?_
          refine g_iald (z := (q_dr R ((a.toNat)))) (j := ((a.toNat))) hx hb hG (o := 2) (hdm 2 (by decide)) (gE_tI ⟨by decide, by decide⟩ 2 (by decide) G _) (by omega) (by omega) (by omega) (tr_dr hR_M11 (i := ((a.toNat))) (by omega)) dX5_setDraw_87 ?_
          refine lv_istore (lv' := [(4, .int (iZ (q_dr R ((a.toNat))))), (3, .int (iZ z5)), (0, .ref (gad G 152)), (1, .int (iZ a)), (2, .int (iZ b))]) hx hb dX5_setDraw_88 hl (by decide) rfl (fun ls hl => ?_)
          refine lv_aload_n hx hb dX5_setDraw_90 rfl (lv_at hl 2 rfl) ?_
          refine g_get hx hb hts hinX5 hown hG (o := 152) (hdm 152 (by decide)) rfl rfl 0 (by decide) f10 (fun _ h => h) rfl dX5_setDraw_91 ?_
          refine g_get hx hb hts hinX3 hown hG (o := 0) (hdm 0 (by decide)) (gE_T ⟨by decide, by decide⟩ G _) rfl 2 (by decide) f144 (fun _ h => h) rfl dX5_setDraw_94 ?_
          refine lv_iload_n hx hb dX5_setDraw_97 rfl (lv_at hl 3 rfl) ?_
          refine lv_iload_n hx hb dX5_setDraw_98 rfl (lv_at hl 4 rfl) ?_
          refine g_iast (j := ((a.toNat))) hx hb hG (o := 2) (hdm 2 (by decide)) (fun f => gE_tI ⟨by decide, by decide⟩ 2 (by decide) G f) (by omega) (by omega) (by omega) dX5_setDraw_99 (fun H locs hG => ?_)
          obtain ⟨M12, hM12⟩ : ∃ X, X = (q_wr M11 2 ((a.toNat)) b) := ⟨_, rfl⟩
          rw [← hM12] at hG
          have hv0_M12 : q_tr M12 0 (q_sdr R a.toNat b) := by
            subst hM12
            obtain ⟨r0, rd, rk9, r8, r9, r10, r11, r12, r13, r14, rb⟩ := hR_M11
            refine ⟨?_, fun j hj => ?_, fun k hk => ?_, ?_, ?_, ?_, ?_, ?_, ?_, ?_, fun j hj => ?_⟩
            · rw [q_sdr_nd]; simp only [wr_ap, true_and, and_true, false_and, and_false, reduceIte] <;> (repeat' split) <;> omega
            · rw [q_sdr_nd] at hj; obtain ⟨d1, d2, d3, d4, d5, d6⟩ := rd j hj; rw [q_sdr_ow, q_sdr_dr, q_sdr_sa, q_sdr_hs, q_sdr_fr]
              refine ⟨?_, ?_, ?_, ?_, ?_, fun hh p hp => ?_⟩
              · simp only [wr_ap, true_and, and_true, false_and, and_false, reduceIte] <;> (repeat' split) <;> omega
              · simp only [wr_ap, true_and, and_true, false_and, and_false, reduceIte] <;> (repeat' split) <;> omega
              · simp only [wr_ap, true_and, and_true, false_and, and_false, reduceIte] <;> (repeat' split) <;> omega
              · simp only [wr_ap, true_and, and_true, false_and, and_false, reduceIte] <;> (repeat' split) <;> omega
              · simp only [wr_ap, true_and, and_true, false_and, and_false, reduceIte] <;> (repeat' split) <;> omega
              · rw [q_sdr_ls _ a.toNat b j p hp]; have d7 := d6 (by first | exact hh | omega) p hp; simp only [wr_ap, true_and, and_true, false_and, and_false, reduceIte] <;> (repeat' split) <;> omega
            · rw [q_sdr_rk _ a.toNat b k hk]; have d8 := rk9 k hk; simp only [wr_ap, true_and, and_true, false_and, and_false, reduceIte] <;> (repeat' split) <;> omega
            · rw [q_sdr_s0]; simp only [wr_ap, true_and, and_true, false_and, and_false, reduceIte] <;> (repeat' split) <;> omega
            · rw [q_sdr_s1]; simp only [wr_ap, true_and, and_true, false_and, and_false, reduceIte] <;> (repeat' split) <;> omega
            · rw [q_sdr_s2]; simp only [wr_ap, true_and, and_true, false_and, and_false, reduceIte] <;> (repeat' split) <;> omega
            · rw [q_sdr_s3]; simp only [wr_ap, true_and, and_true, false_and, and_false, reduceIte] <;> (repeat' split) <;> omega
            · rw [q_sdr_s4]; simp only [wr_ap, true_and, and_true, false_and, and_false, reduceIte] <;> (repeat' split) <;> omega
            · rw [q_sdr_s5]; simp only [wr_ap, true_and, and_true, false_and, and_false, reduceIte] <;> (repeat' split) <;> omega
            · rw [q_sdr_s6]; simp only [wr_ap, true_and, and_true, false_and, and_false, reduceIte] <;> (repeat' split) <;> omega
            · have d9 := rb j hj; simp only [wr_ap, true_and, and_true, false_and, and_false, reduceIte] <;> (repeat' split) <;> omega
          refine lv_iload hx hb dX5_setDraw_100 (lv_at hl 0 rfl) ?_
          exact g_iretX (post := fun z M1 => (if ¬ (0 ≤ a ∧ a < q_nd R) then (1 : Int) else if ¬ (1 ≤ b ∧ b ≤ 99) then 2 else if q_dn R b a (q_nd R).toNat = true then 3 else 0) = 0 ∧ z = q_dr R a.toNat ∧ q_act M M1 R (q_sdr R a.toNat b) o n) (px := fun E M1 => (((if ¬ (0 ≤ a ∧ a < q_nd R) then (1 : Int) else if ¬ (1 ≤ b ∧ b ≤ 99) then 2 else if q_dn R b a (q_nd R).toNat = true then 3 else 0) = 1 ∧ E = "java/lang/IndexOutOfBoundsException") ∨ ((if ¬ (0 ≤ a ∧ a < q_nd R) then (1 : Int) else if ¬ (1 ≤ b ∧ b ≤ 99) then 2 else if q_dn R b a (q_nd R).toNat = true then 3 else 0) = 2 ∧ E = "java/lang/IllegalArgumentException") ∨ ((if ¬ (0 ≤ a ∧ a < q_nd R) then (1 : Int) else if ¬ (1 ≤ b ∧ b ≤ 99) then 2 else if q_dn R b a (q_nd R).toNat = true then 3 else 0) = 3 ∧ E = "java/lang/IllegalStateException")) ∧ q_cs M M1) (z := (q_dr R ((a.toNat)))) hx hb hr hG hlocks (⟨by rw [if_neg (by omega), if_neg (by omega), if_neg (by rw [hdn9]; decide)], rfl, q_act.mk (q_cs.rf M) hm1_M11 hm2_M11 hm3_M11 hm4_M11 (by rw [hM12]; exact q_off.wr (q_off.rf _ _ _) (by omega) (by omega)) hv0_M12⟩) dX5_setDraw_102
        · skip
          exact g_throwIS hx hb hl0 hown hX hG ht9 (hl.1.trans hml.symm) (hts (.classLink RX5 66 "java/lang/IllegalStateException") (by decide +kernel)) (hts (.initialized "java/lang/IllegalStateException") (by decide +kernel)) (fun w hw => hts w (List.mem_cons_of_mem _ (List.mem_append_right _ hw))) (is := 252) (text := "another dog has this draw") (by decide +kernel) dX5_setDraw_58 dX5_setDraw_61 dX5_setDraw_62 dX5_setDraw_64 dX5_setDraw_67 ⟨Nat.le_of_ble_eq_true rfl, Nat.le_of_ble_eq_true rfl, Nat.le_of_ble_eq_true rfl, Nat.le_of_ble_eq_true rfl⟩ hlocks (⟨Or.inr (Or.inr (⟨by rcases hz_43 with ⟨h9, h8⟩ | ⟨i9, h9, h8, h7⟩; (exfalso; omega); (rw [if_neg (by omega), if_neg (by omega), if_pos (q_dn_yes (by omega) h7 (by omega))]), rfl⟩)), (q_cs.rf M)⟩)
    · skip
      exact g_throwIA hx hb hl0 hown hX hG ht9 (hl.1.trans hml.symm) (hts (.classLink RX5 55 "java/lang/IllegalArgumentException") (by decide +kernel)) (hts (.initialized "java/lang/IllegalArgumentException") (by decide +kernel)) (fun w hw => hts w (List.mem_cons_of_mem _ (List.mem_append_left _ (List.mem_append_right _ hw)))) (is := 250) (text := "the draw is out of range") (by decide +kernel) dX5_setDraw_28 dX5_setDraw_31 dX5_setDraw_32 dX5_setDraw_34 dX5_setDraw_37 ⟨Nat.le_of_ble_eq_true rfl, Nat.le_of_ble_eq_true rfl, Nat.le_of_ble_eq_true rfl, Nat.le_of_ble_eq_true rfl⟩ hlocks (⟨Or.inr (Or.inl ⟨by (repeat' split) <;> first | rfl | omega | (exfalso; omega) | contradiction, rfl⟩), (q_cs.rf M)⟩)
  · skip
    exact g_throwIO hx hb hl0 hown hX hG ht9 (hl.1.trans hml.symm) (hts (.classLink RX5 136 "java/lang/IndexOutOfBoundsException") (by decide +kernel)) (hts (.initialized "java/lang/IndexOutOfBoundsException") (by decide +kernel)) (fun w hw => hts w (List.mem_cons_of_mem _ (List.mem_append_left _ (List.mem_append_left _ (List.mem_append_right _ hw))))) (is := 138) (text := "there is no such dog") (by decide +kernel) dX5_setDraw_11 dX5_setDraw_14 dX5_setDraw_15 dX5_setDraw_17 dX5_setDraw_20 ⟨Nat.le_of_ble_eq_true rfl, Nat.le_of_ble_eq_true rfl, Nat.le_of_ble_eq_true rfl, Nat.le_of_ble_eq_true rfl⟩ hlocks (⟨Or.inl ⟨by (repeat' split) <;> first | rfl | omega | (exfalso; omega) | contradiction, rfl⟩, (q_cs.rf M)⟩)
set_option maxHeartbeats 4000000 in
set_option maxRecDepth 100000 in
theorem c_X5_run (l : Launch) (G : gG) (M : Nat → Nat → Int) (hl0 : l.stackTraces = false) (hdm : ∀ k, k < 169 → gdm G k) (R : Nat → Int) (hR : q_tr M 0 R) (hI : q_inv R) (o n : Nat) (ho : o < 14) (hn : n ≤ 14) (hm1 : M 165 1 = (o : Int)) (hm2 : M 165 2 = (n : Int)) (v : Int) (hv9 : -9223372036854775808 ≤ v ∧ v < 9223372036854775808) (b : Int) (hb9 : -2147483648 ≤ b ∧ b < 2147483648) : gMx l yX5_run wsX5_run ({ frames := 6, cells := 1, slots := 6, locals := 91 } : Room) G M [.ref (gad G 152), .long (lZ v), .int (iZ b)] (fun z M1 => (if ¬ (q_ptb v 6 = true ∧ 1 ≤ b ∧ b ≤ 30) then (1 : Int) else if q_ob R ≠ 0 then 2 else 0) = 0 ∧ z = (if q_rz R b = 1 then q_sc (q_rno R (q_first R).toNat b (q_dig v)) (q_first R).toNat else -9) ∧ q_act M M1 R ((q_rno R (q_first R).toNat b (q_dig v))) o n) (fun E M1 => (((if ¬ (q_ptb v 6 = true ∧ 1 ≤ b ∧ b ≤ 30) then (1 : Int) else if q_ob R ≠ 0 then 2 else 0) = 1 ∧ E = "java/lang/IllegalArgumentException") ∨ ((if ¬ (q_ptb v 6 = true ∧ 1 ≤ b ∧ b ≤ 30) then (1 : Int) else if q_ob R ≠ 0 then 2 else 0) = 2 ∧ E = "java/lang/IllegalStateException")) ∧ q_cs M M1) := by
  refine gMx_of (cc := cX5_run) (maxL := 5) (ret := some .int) (by decide) rfl (Nat.le_of_ble_eq_true rfl) ?_
  intro p e s m below meth c ls hx hb hr hml hown hts hlocks hl hX ht9 hG
  have hown : s.vm.findClass RX5 = some m.cls := hown
  have hl : lv_has ls 5 [(0, .ref (gad G 152)), (1, .long (lZ v)), (3, .int (iZ b))] := hl
  have hinX5 : ∀ w ∈ u_ws RX5 TX5 8, w ∈ wsX5_run := by decide +kernel
  have f10 := hts (.fieldLink RX5 10 "DogTrials" "now" "LDogTrials$Trial;") (by decide +kernel)
  have f22 := hts (.fieldLink RX5 22 "DogTrials" "course" "LDogTrials$Course;") (by decide +kernel)
  have f36 := hts (.fieldLink RX5 36 "DogTrials" "memory" "LDogTrials$Memory;") (by decide +kernel)
  have hnd := hI.1
  have hob0 := q_ob_in R
  have hfo := q_first_ok hI
  refine lv_aload_n hx hb dX5_run_0 rfl (lv_at hl 0 rfl) ?_
  refine g_get hx hb hts hinX5 hown hG (o := 152) (hdm 152 (by decide)) rfl rfl 2 (by decide) f22 (fun _ h => h) rfl dX5_run_1 ?_
  refine lv_lload_n hx hb dX5_run_4 rfl (lv_at hl 1 rfl) ?_
  refine g_callV (b := 155) (As := [.long (lZ v)]) (rest := []) ⟨hx, hb, hml, hown, hts⟩ (c_X0_setLosses l G M hdm 155 (Or.inl rfl) v (by omega)) (cwV 1 hts gX5_run_X0_setLosses rfl rfl rfl (by decide +kernel) ⟨Nat.le_of_ble_eq_true rfl, Nat.le_of_ble_eq_true rfl⟩) hG (g_recv hG (b := 155) (hdm 155 (by decide)) (gE_C (Or.inl rfl) G _) rfl) rfl hl.1 rfl (Nat.le_of_ble_eq_true rfl) dX5_run_5 ⟨Nat.zero_le _, Nat.zero_le _⟩ (fun z1 M2 H locs hp_5 hG => ?_)
  obtain ⟨hsl_5, ho_M2⟩ := hp_5
  have hR_M2 : q_tr M2 0 R := q_tr_off hR ho_M2 (by omega)
  have hz9r : z1 = 0 ∨ z1 = 1 := by rcases hsl_5 with ⟨h9, h8, h7⟩ | ⟨h9, h8⟩ <;> omega
  refine z_if_eq (tgt := 18) hx hb (by omega) dX5_run_8 (by decide) (fun c_8 => ?_) (fun c_8 => ?_)
  · skip
    exact g_throwIA hx hb hl0 hown hX hG ht9 (hl.1.trans hml.symm) (hts (.classLink RX5 55 "java/lang/IllegalArgumentException") (by decide +kernel)) (hts (.initialized "java/lang/IllegalArgumentException") (by decide +kernel)) (fun w hw => hts w (List.mem_cons_of_mem _ (List.mem_append_left _ (List.mem_append_right _ hw)))) (is := 216) (text := "points or minutes are out of range") (by decide +kernel) dX5_run_18 dX5_run_21 dX5_run_22 dX5_run_24 dX5_run_27 ⟨Nat.le_of_ble_eq_true rfl, Nat.le_of_ble_eq_true rfl, Nat.le_of_ble_eq_true rfl, Nat.le_of_ble_eq_true rfl⟩ hlocks (⟨Or.inl ⟨by rcases hsl_5 with ⟨h9, h8, h7⟩ | ⟨h9, h8⟩; (rw [if_pos (fun h6 => by have h5 := h6.2; omega)]); (rw [if_pos (fun h6 => h8 ((q_ptb_pts v).mp h6.1))]), rfl⟩, (q_cs.off (q_cs.rf M) ho_M2 (by omega))⟩)
  · skip
    refine lv_iload_n hx hb dX5_run_11 rfl (lv_at hl 2 rfl) ?_
    refine g_callS (As := [.int (iZ b)]) (rest := []) ⟨hx, hb, hml, hown, hts⟩ (c_X5_isMinutes l G M2 b (by omega)) (va_cwS 1 hts gX5_run_X5_isMinutes rfl rfl rfl (by decide +kernel) ⟨Nat.le_of_ble_eq_true rfl, Nat.le_of_ble_eq_true rfl⟩) hG rfl hl.1 rfl (Nat.le_of_ble_eq_true rfl) dX5_run_12 ⟨Nat.zero_le _, Nat.zero_le _⟩ (fun z3 M4 H locs hp_12 hG => ?_)
    obtain ⟨hz_12, hM_12⟩ := hp_12; replace hz_12 := hz_12.symm; subst hz_12; replace hM_12 := hM_12.symm; subst hM_12
    refine z_ifP_ne (tgt := 28) hx hb dX5_run_15 (by decide) (fun c_15 => ?_) (fun c_15 => ?_)
    · skip
      have hpt9 : q_pts v ∧ ∀ p : Nat, p < 6 → M2 158 p = q_dig v p := by rcases hsl_5 with ⟨h9, h8, h7⟩ | ⟨h9, h8⟩; exact ⟨h8, h7⟩; (exfalso; omega)
      refine lv_aload_n hx hb dX5_run_28 rfl (lv_at hl 0 rfl) ?_
      refine g_get hx hb hts hinX5 hown hG (o := 152) (hdm 152 (by decide)) rfl rfl 2 (by decide) f22 (fun _ h => h) rfl dX5_run_29 ?_
      refine lv_aload_n hx hb dX5_run_32 rfl (lv_at hl 0 rfl) ?_
      refine g_get hx hb hts hinX5 hown hG (o := 152) (hdm 152 (by decide)) rfl rfl 0 (by decide) f10 (fun _ h => h) rfl dX5_run_33 ?_
      refine g_callV (b := 155) (As := [.ref (gad G 0)]) (rest := []) ⟨hx, hb, hml, hown, hts⟩ (c_X0_firstToRun l G M2 hdm 155 (Or.inl rfl) 0 ⟨by decide, by decide⟩ R hR_M2 hI) (cwV 1 hts gX5_run_X0_firstToRun rfl rfl rfl (by decide +kernel) ⟨Nat.le_of_ble_eq_true rfl, Nat.le_of_ble_eq_true rfl⟩) hG (g_recv hG (b := 155) (hdm 155 (by decide)) (gE_C (Or.inl rfl) G _) rfl) rfl hl.1 rfl (Nat.le_of_ble_eq_true rfl) dX5_run_36 ⟨Nat.zero_le _, Nat.zero_le _⟩ (fun z5 M6 H locs hp_36 hG => ?_)
      obtain ⟨hz_36, ho_M6⟩ := hp_36; replace hz_36 := hz_36.symm; subst hz_36
      have hR_M2_M6 : q_tr M6 0 R := q_tr_off hR_M2 ho_M6 (by omega)
      refine lv_istore (lv' := [(4, .int (iZ (q_first R))), (0, .ref (gad G 152)), (1, .long (lZ v)), (3, .int (iZ b))]) hx hb dX5_run_39 hl (by decide) rfl (fun ls hl => ?_)
      refine lv_iload hx hb dX5_run_41 (lv_at hl 0 rfl) ?_
      refine lv_bipush (v := iZ (-9)) hx hb dX5_run_43 (by decide) ?_
      refine z_icmp_eq (tgt := 58) hx hb (by omega) (by decide) dX5_run_45 (by decide) (fun c_45 => ?_) (fun c_45 => ?_)
      · skip
        have hob9 : q_ob R ≠ 0 := by first | omega | exact fun h9 => by have h8 := q_first_in hI (q_ob_wait h9); omega
        exact g_throwIS hx hb hl0 hown hX hG ht9 (hl.1.trans hml.symm) (hts (.classLink RX5 66 "java/lang/IllegalStateException") (by decide +kernel)) (hts (.initialized "java/lang/IllegalStateException") (by decide +kernel)) (fun w hw => hts w (List.mem_cons_of_mem _ (List.mem_append_right _ hw))) (is := 224) (text := "no run can begin now") (by decide +kernel) dX5_run_58 dX5_run_61 dX5_run_62 dX5_run_64 dX5_run_67 ⟨Nat.le_of_ble_eq_true rfl, Nat.le_of_ble_eq_true rfl, Nat.le_of_ble_eq_true rfl, Nat.le_of_ble_eq_true rfl⟩ hlocks (⟨Or.inr (⟨by rw [if_neg (fun h9 => h9 ⟨(q_ptb_pts v).mpr hpt9.1, by omega⟩), if_pos hob9], rfl⟩), (q_cs.off (q_cs.off (q_cs.rf M) ho_M2 (by omega)) ho_M6 (by omega))⟩)
      · skip
        refine lv_aload_n hx hb dX5_run_48 rfl (lv_at hl 1 rfl) ?_
        refine g_get hx hb hts hinX5 hown hG (o := 152) (hdm 152 (by decide)) rfl rfl 0 (by decide) f10 (fun _ h => h) rfl dX5_run_49 ?_
        refine g_callV (b := 0) (As := []) (rest := []) ⟨hx, hb, hml, hown, hts⟩ (c_X3_obstacle l G M6 hdm 0 ⟨by decide, by decide⟩ R hR_M2_M6 hI) (cwV 0 hts gX5_run_X3_obstacle rfl rfl rfl (by decide +kernel) ⟨Nat.le_of_ble_eq_true rfl, Nat.le_of_ble_eq_true rfl⟩) hG (g_recv hG (b := 0) (hdm 0 (by decide)) (gE_T ⟨by decide, by decide⟩ G _) rfl) rfl hl.1 rfl (Nat.le_of_ble_eq_true rfl) dX5_run_52 ⟨Nat.zero_le _, Nat.zero_le _⟩ (fun z7 M8 H locs hp_52 hG => ?_)
        obtain ⟨hz_52, hM_52⟩ := hp_52; replace hz_52 := hz_52.symm; subst hz_52; replace hM_52 := hM_52.symm; subst hM_52
        refine z_if_eq (tgt := 68) hx hb (by omega) dX5_run_55 (by decide) (fun c_55 => ?_) (fun c_55 => ?_)
        · skip
          have hfn : q_first R = (((q_first R).toNat : Nat) : Int) := by omega
          have hI1 : q_inv (q_rno R (q_first R).toNat b (q_dig v)) := inv_rno hI (by omega) (by omega) (fun p hp => ⟨(q_dig_in v p).1, hpt9.1.2 p hp⟩)
          have hnd1 := q_rno_nd R (q_first R).toNat b (q_dig v)
          refine lv_aload_n hx hb dX5_run_68 rfl (lv_at hl 1 rfl) ?_
          refine g_get hx hb hts hinX5 hown hG (o := 152) (hdm 152 (by decide)) rfl rfl 4 (by decide) f36 (fun _ h => h) rfl dX5_run_69 ?_
          refine lv_aload_n hx hb dX5_run_72 rfl (lv_at hl 1 rfl) ?_
          refine g_get hx hb hts hinX5 hown hG (o := 152) (hdm 152 (by decide)) rfl rfl 0 (by decide) f10 (fun _ h => h) rfl dX5_run_73 ?_
          refine g_vcallV (b := 165) (As := [.ref (gad G 0)]) (rest := []) ⟨hx, hb, hml, hown, hts⟩ (c_X1_remember l G M6 hdm R hR_M2_M6 hI o n ho hn ((congrFun (q_cs.mem (q_cs.off (q_cs.off (q_cs.rf M) ho_M2 (by omega)) ho_M6 (by omega))) 1).trans hm1) ((congrFun (q_cs.mem (q_cs.off (q_cs.off (q_cs.rf M) ho_M2 (by omega)) ho_M6 (by omega))) 2).trans hm2)) (cwV 1 hts gX5_run_X1_remember rfl rfl rfl (by decide +kernel) ⟨Nat.le_of_ble_eq_true rfl, Nat.le_of_ble_eq_true rfl⟩) hG (g_recv hG (b := 165) (hdm 165 (by decide)) rfl rfl) rfl hl.1 rfl (Nat.le_of_ble_eq_true rfl) dX5_run_76 ⟨Nat.zero_le _, Nat.zero_le _⟩ (fun M10 H locs hp_76 hG => ?_)
          obtain ⟨hm1_M10, hm2_M10, hm3_M10, hm4_M10⟩ := hp_76
          have hsl_M10 := q_slot_in (q_ro o n) (q_rn n)
          have hR_M2_M6_M10 : q_tr M10 0 R := q_tr_keep hR_M2_M6 (fun a h7 h8 => hm4_M10 a (by omega) (by omega))
          refine lv_aload_n hx hb dX5_run_79 rfl (lv_at hl 1 rfl) ?_
          refine g_get hx hb hts hinX5 hown hG (o := 152) (hdm 152 (by decide)) rfl rfl 2 (by decide) f22 (fun _ h => h) rfl dX5_run_80 ?_
          refine lv_aload_n hx hb dX5_run_83 rfl (lv_at hl 1 rfl) ?_
          refine g_get hx hb hts hinX5 hown hG (o := 152) (hdm 152 (by decide)) rfl rfl 0 (by decide) f10 (fun _ h => h) rfl dX5_run_84 ?_
          refine lv_iload hx hb dX5_run_87 (lv_at hl 0 rfl) ?_
          refine lv_iload_n hx hb dX5_run_89 rfl (lv_at hl 3 rfl) ?_
          refine g_callV (b := 155) (As := [.ref (gad G 0), .int (iZ (((q_first R).toNat) : Int)), .int (iZ b)]) (rest := []) ⟨hx, hb, hml, hown, hts⟩ (c_X0_letRun l G M10 hdm 155 (Or.inl rfl) 0 ⟨by decide, by decide⟩ R hR_M2_M6_M10 hI (((q_first R).toNat)) (by omega) b (by omega)) (cwV 3 hts gX5_run_X0_letRun rfl rfl rfl (by decide +kernel) ⟨Nat.le_of_ble_eq_true rfl, Nat.le_of_ble_eq_true rfl⟩) hG (g_recv hG (b := 155) (hdm 155 (by decide)) (gE_C (Or.inl rfl) G _) rfl) rfl hl.1 (by rw [← hfn]; rfl) (Nat.le_of_ble_eq_true rfl) dX5_run_90 ⟨Nat.zero_le _, Nat.zero_le _⟩ (fun z11 M12 H locs hp_90 hG => ?_)
          obtain ⟨hz_90, ht_M12, ho_M12⟩ := hp_90; replace hz_90 := hz_90.symm; subst hz_90
          have hpg9 : q_tr M12 0 (q_rno R (q_first R).toNat b (q_dig v)) := by rw [← q_rno_congr R (q_first R).toNat b (L := fun p => M10 158 p) (fun p hp => by show M10 158 p = q_dig v p; rw [hm4_M10 158 (by omega) (by omega), ho_M6 158 (by omega)]; exact hpt9.2 p hp)]; exact ht_M12
          have hrz9 := q_rz_in R b
          refine z_if_eq (tgt := 108) hx hb (by omega) dX5_run_93 (by decide) (fun c_93 => ?_) (fun c_93 => ?_)
          · skip
            refine lv_bipush (v := iZ (-9)) hx hb dX5_run_108 (by decide) ?_
            exact g_iretX (post := fun z M1 => (if ¬ (q_ptb v 6 = true ∧ 1 ≤ b ∧ b ≤ 30) then (1 : Int) else if q_ob R ≠ 0 then 2 else 0) = 0 ∧ z = (if q_rz R b = 1 then q_sc (q_rno R (q_first R).toNat b (q_dig v)) (q_first R).toNat else -9) ∧ q_act M M1 R ((q_rno R (q_first R).toNat b (q_dig v))) o n) (px := fun E M1 => (((if ¬ (q_ptb v 6 = true ∧ 1 ≤ b ∧ b ≤ 30) then (1 : Int) else if q_ob R ≠ 0 then 2 else 0) = 1 ∧ E = "java/lang/IllegalArgumentException") ∨ ((if ¬ (q_ptb v 6 = true ∧ 1 ≤ b ∧ b ≤ 30) then (1 : Int) else if q_ob R ≠ 0 then 2 else 0) = 2 ∧ E = "java/lang/IllegalStateException")) ∧ q_cs M M1) (z := (-9)) hx hb hr hG hlocks (⟨by rw [if_neg (fun h9 => h9 ⟨(q_ptb_pts v).mpr hpt9.1, by omega⟩), if_neg (by omega)], by first | (rw [if_pos (by omega)]; done) | (rw [if_neg (by omega)]; done), q_act.mk (q_cs.off (q_cs.off (q_cs.rf M) ho_M2 (by omega)) ho_M6 (by omega)) hm1_M10 hm2_M10 hm3_M10 hm4_M10 (q_off.tr (q_off.rf _ _ _) ho_M12 (by omega) (by omega)) hpg9⟩) dX5_run_110
          · skip
            refine lv_aload_n hx hb dX5_run_96 rfl (lv_at hl 1 rfl) ?_
            refine g_get hx hb hts hinX5 hown hG (o := 152) (hdm 152 (by decide)) rfl rfl 0 (by decide) f10 (fun _ h => h) rfl dX5_run_97 ?_
            refine lv_iload hx hb dX5_run_100 (lv_at hl 0 rfl) ?_
            refine g_callV (b := 0) (As := [.int (iZ (((q_first R).toNat) : Int))]) (rest := []) ⟨hx, hb, hml, hown, hts⟩ (c_X3_scoreOf l G M12 hdm 0 ⟨by decide, by decide⟩ (q_rno R (q_first R).toNat b (q_dig v)) hpg9 hI1 (((q_first R).toNat)) (by omega)) (cwV 1 hts gX5_run_X3_scoreOf rfl rfl rfl (by decide +kernel) ⟨Nat.le_of_ble_eq_true rfl, Nat.le_of_ble_eq_true rfl⟩) hG (g_recv hG (b := 0) (hdm 0 (by decide)) (gE_T ⟨by decide, by decide⟩ G _) rfl) rfl hl.1 (by rw [← hfn]; rfl) (Nat.le_of_ble_eq_true rfl) dX5_run_102 ⟨Nat.zero_le _, Nat.zero_le _⟩ (fun z13 M14 H locs hp_102 hG => ?_)
            obtain ⟨hz_102, hM_102⟩ := hp_102; replace hz_102 := hz_102.symm; subst hz_102; replace hM_102 := hM_102.symm; subst hM_102
            refine lv_goto (tgt := 110) hx hb dX5_run_105 (by decide) ?_
            exact g_iretX (post := fun z M1 => (if ¬ (q_ptb v 6 = true ∧ 1 ≤ b ∧ b ≤ 30) then (1 : Int) else if q_ob R ≠ 0 then 2 else 0) = 0 ∧ z = (if q_rz R b = 1 then q_sc (q_rno R (q_first R).toNat b (q_dig v)) (q_first R).toNat else -9) ∧ q_act M M1 R ((q_rno R (q_first R).toNat b (q_dig v))) o n) (px := fun E M1 => (((if ¬ (q_ptb v 6 = true ∧ 1 ≤ b ∧ b ≤ 30) then (1 : Int) else if q_ob R ≠ 0 then 2 else 0) = 1 ∧ E = "java/lang/IllegalArgumentException") ∨ ((if ¬ (q_ptb v 6 = true ∧ 1 ≤ b ∧ b ≤ 30) then (1 : Int) else if q_ob R ≠ 0 then 2 else 0) = 2 ∧ E = "java/lang/IllegalStateException")) ∧ q_cs M M1) (z := (q_sc (q_rno R (q_first R).toNat b (q_dig v)) (((q_first R).toNat)))) hx hb hr hG hlocks (⟨by rw [if_neg (fun h9 => h9 ⟨(q_ptb_pts v).mpr hpt9.1, by omega⟩), if_neg (by omega)], by first | (rw [if_pos (by omega)]; done) | (rw [if_neg (by omega)]; done), q_act.mk (q_cs.off (q_cs.off (q_cs.rf M) ho_M2 (by omega)) ho_M6 (by omega)) hm1_M10 hm2_M10 hm3_M10 hm4_M10 (q_off.tr (q_off.rf _ _ _) ho_M12 (by omega) (by omega)) hpg9⟩) dX5_run_110
        · skip
          have hob9 : q_ob R ≠ 0 := by first | omega | exact fun h9 => by have h8 := q_first_in hI (q_ob_wait h9); omega
          exact g_throwIS hx hb hl0 hown hX hG ht9 (hl.1.trans hml.symm) (hts (.classLink RX5 66 "java/lang/IllegalStateException") (by decide +kernel)) (hts (.initialized "java/lang/IllegalStateException") (by decide +kernel)) (fun w hw => hts w (List.mem_cons_of_mem _ (List.mem_append_right _ hw))) (is := 224) (text := "no run can begin now") (by decide +kernel) dX5_run_58 dX5_run_61 dX5_run_62 dX5_run_64 dX5_run_67 ⟨Nat.le_of_ble_eq_true rfl, Nat.le_of_ble_eq_true rfl, Nat.le_of_ble_eq_true rfl, Nat.le_of_ble_eq_true rfl⟩ hlocks (⟨Or.inr (⟨by rw [if_neg (fun h9 => h9 ⟨(q_ptb_pts v).mpr hpt9.1, by omega⟩), if_pos hob9], rfl⟩), (q_cs.off (q_cs.off (q_cs.rf M) ho_M2 (by omega)) ho_M6 (by omega))⟩)
    · skip
      exact g_throwIA hx hb hl0 hown hX hG ht9 (hl.1.trans hml.symm) (hts (.classLink RX5 55 "java/lang/IllegalArgumentException") (by decide +kernel)) (hts (.initialized "java/lang/IllegalArgumentException") (by decide +kernel)) (fun w hw => hts w (List.mem_cons_of_mem _ (List.mem_append_left _ (List.mem_append_right _ hw)))) (is := 216) (text := "points or minutes are out of range") (by decide +kernel) dX5_run_18 dX5_run_21 dX5_run_22 dX5_run_24 dX5_run_27 ⟨Nat.le_of_ble_eq_true rfl, Nat.le_of_ble_eq_true rfl, Nat.le_of_ble_eq_true rfl, Nat.le_of_ble_eq_true rfl⟩ hlocks (⟨Or.inl ⟨by rcases hsl_5 with ⟨h9, h8, h7⟩ | ⟨h9, h8⟩; (rw [if_pos (fun h6 => by have h5 := h6.2; omega)]); (rw [if_pos (fun h6 => h8 ((q_ptb_pts v).mp h6.1))]), rfl⟩, (q_cs.off (q_cs.rf M) ho_M2 (by omega))⟩)
set_option maxHeartbeats 4000000 in
set_option maxRecDepth 100000 in
theorem c_X5_undo (l : Launch) (G : gG) (M : Nat → Nat → Int) (hl0 : l.stackTraces = false) (hdm : ∀ k, k < 169 → gdm G k) (o n : Nat) (ho : o < 14) (hn : n ≤ 14) (hm1 : M 165 1 = (o : Int)) (hm2 : M 165 2 = (n : Int)) (P : Nat → Int) (hP : 0 < n → q_tr M (q_slot o (n - 1)) P ∧ q_inv P) : gMx l yX5_undo wsX5_undo ({ frames := 6, cells := 1, slots := 6, locals := 91 } : Room) G M [.ref (gad G 152)] (fun z M1 => (if n = 0 then (1 : Int) else 0) = 0 ∧ z = (n : Int) - 1 ∧ M1 165 1 = (o : Int) ∧ M1 165 2 = ((n - 1 : Nat) : Int) ∧ q_tr M1 0 P ∧ ∀ a, a ≠ 165 → 8 ≤ a → M1 a = M a) (fun E M1 => (((if n = 0 then (1 : Int) else 0) = 1 ∧ E = "java/lang/IllegalStateException")) ∧ q_cs M M1) := by
  refine gMx_of (cc := cX5_undo) (maxL := 1) (ret := some .int) (by decide) rfl (Nat.le_of_ble_eq_true rfl) ?_
  intro p e s m below meth c ls hx hb hr hml hown hts hlocks hl hX ht9 hG
  have hown : s.vm.findClass RX5 = some m.cls := hown
  have hl : lv_has ls 1 [(0, .ref (gad G 152))] := hl
  have hinX5 : ∀ w ∈ u_ws RX5 TX5 8, w ∈ wsX5_undo := by decide +kernel
  have f10 := hts (.fieldLink RX5 10 "DogTrials" "now" "LDogTrials$Trial;") (by decide +kernel)
  have f36 := hts (.fieldLink RX5 36 "DogTrials" "memory" "LDogTrials$Memory;") (by decide +kernel)
  refine lv_aload_n hx hb dX5_undo_0 rfl (lv_at hl 0 rfl) ?_
  refine g_get hx hb hts hinX5 hown hG (o := 152) (hdm 152 (by decide)) rfl rfl 4 (by decide) f36 (fun _ h => h) rfl dX5_undo_1 ?_
  refine g_callV (b := 165) (As := []) (rest := []) ⟨hx, hb, hml, hown, hts⟩ (c_X1_isEmpty l G M hdm n hn hm2) (cwV 0 hts gX5_undo_X1_isEmpty rfl rfl rfl (by decide +kernel) ⟨Nat.le_of_ble_eq_true rfl, Nat.le_of_ble_eq_true rfl⟩) hG (g_recv hG (b := 165) (hdm 165 (by decide)) rfl rfl) rfl hl.1 rfl (Nat.le_of_ble_eq_true rfl) dX5_undo_4 ⟨Nat.zero_le _, Nat.zero_le _⟩ (fun z1 M2 H locs hp_4 hG => ?_)
  obtain ⟨hz_4, hM_4⟩ := hp_4; replace hz_4 := hz_4.symm; subst hz_4; replace hM_4 := hM_4.symm; subst hM_4
  refine z_ifP_eq (tgt := 21) hx hb dX5_undo_7 (by decide) (fun c_7 => ?_) (fun c_7 => ?_)
  · skip
    refine lv_aload_n hx hb dX5_undo_21 rfl (lv_at hl 0 rfl) ?_
    refine g_get hx hb hts hinX5 hown hG (o := 152) (hdm 152 (by decide)) rfl rfl 4 (by decide) f36 (fun _ h => h) rfl dX5_undo_22 ?_
    refine lv_aload_n hx hb dX5_undo_25 rfl (lv_at hl 0 rfl) ?_
    refine g_get hx hb hts hinX5 hown hG (o := 152) (hdm 152 (by decide)) rfl rfl 0 (by decide) f10 (fun _ h => h) rfl dX5_undo_26 ?_
    refine g_callV (b := 165) (As := [.ref (gad G 0)]) (rest := []) ⟨hx, hb, hml, hown, hts⟩ (c_X1_takeBack l G M hdm P o n ho (by omega) hn hm1 hm2 (hP (by omega)).1 (hP (by omega)).2) (cwV 1 hts gX5_undo_X1_takeBack rfl rfl rfl (by decide +kernel) ⟨Nat.le_of_ble_eq_true rfl, Nat.le_of_ble_eq_true rfl⟩) hG (g_recv hG (b := 165) (hdm 165 (by decide)) rfl rfl) rfl hl.1 rfl (Nat.le_of_ble_eq_true rfl) dX5_undo_29 ⟨Nat.zero_le _, Nat.zero_le _⟩ (fun z3 M4 H locs hp_29 hG => ?_)
    obtain ⟨hz_29, htb_M4⟩ := hp_29; replace hz_29 := hz_29.symm; subst hz_29
    exact g_iretX (post := fun z M1 => (if n = 0 then (1 : Int) else 0) = 0 ∧ z = (n : Int) - 1 ∧ M1 165 1 = (o : Int) ∧ M1 165 2 = ((n - 1 : Nat) : Int) ∧ q_tr M1 0 P ∧ ∀ a, a ≠ 165 → 8 ≤ a → M1 a = M a) (px := fun E M1 => (((if n = 0 then (1 : Int) else 0) = 1 ∧ E = "java/lang/IllegalStateException")) ∧ q_cs M M1) (z := ((n : Int) - 1)) hx hb hr hG hlocks (⟨by (repeat' split) <;> first | rfl | omega | (exfalso; omega) | contradiction, rfl, htb_M4⟩) dX5_undo_32
  · skip
    exact g_throwWIS hx hb hl0 hown hX hG ht9 (hl.1.trans hml.symm) (hts (.classLink RX5 66 "java/lang/IllegalStateException") (by decide +kernel)) (hts (.initialized "java/lang/IllegalStateException") (by decide +kernel)) (fun w hw => hts w (List.mem_cons_of_mem _ (List.mem_append_right _ hw))) (is := 257) (text := "no state is remembered") (by decide +kernel) dX5_undo_10 dX5_undo_13 dX5_undo_14 dX5_undo_17 dX5_undo_20 ⟨Nat.le_of_ble_eq_true rfl, Nat.le_of_ble_eq_true rfl, Nat.le_of_ble_eq_true rfl, Nat.le_of_ble_eq_true rfl⟩ hlocks (⟨⟨by (repeat' split) <;> first | rfl | omega | (exfalso; omega) | contradiction, rfl⟩, (q_cs.rf M)⟩)
set_option maxHeartbeats 4000000 in
set_option maxRecDepth 100000 in
theorem c_X5_save (l : Launch) (G : gG) (M : Nat → Nat → Int) (hl0 : l.stackTraces = false) (hdm : ∀ k, k < 169 → gdm G k) (R : Nat → Int) (hR : q_tr M 0 R) (hI : q_inv R) (a : Int) (ha9 : -2147483648 ≤ a ∧ a < 2147483648) : gMx l yX5_save wsX5_save ({ frames := 6, cells := 1, slots := 6, locals := 90 } : Room) G M [.ref (gad G 152), .int (iZ a)] (fun z M1 => (if 0 ≤ a ∧ a ≤ 1 then (0 : Int) else 1) = 0 ∧ z = q_nrun R ∧ q_tr M1 (24 + 8 * a.toNat) R ∧ (M1 154 a.toNat = 1 ∧ ∀ b : Nat, b ≠ a.toNat → M1 154 b = M 154 b) ∧ ∀ x, x ≠ 154 → (x < 24 + 8 * a.toNat ∨ 24 + 8 * a.toNat + 8 ≤ x) → M1 x = M x) (fun E M1 => (((if 0 ≤ a ∧ a ≤ 1 then (0 : Int) else 1) = 1 ∧ E = "java/lang/IndexOutOfBoundsException")) ∧ q_cs M M1) := by
  refine gMx_of (cc := cX5_save) (maxL := 2) (ret := some .int) (by decide) rfl (Nat.le_of_ble_eq_true rfl) ?_
  intro p e s m below meth c ls hx hb hr hml hown hts hlocks hl hX ht9 hG
  have hown : s.vm.findClass RX5 = some m.cls := hown
  have hl : lv_has ls 2 [(0, .ref (gad G 152)), (1, .int (iZ a))] := hl
  have hinX5 : ∀ w ∈ u_ws RX5 TX5 8, w ∈ wsX5_save := by decide +kernel
  have f10 := hts (.fieldLink RX5 10 "DogTrials" "now" "LDogTrials$Trial;") (by decide +kernel)
  have f47 := hts (.fieldLink RX5 47 "DogTrials" "slots" "[LDogTrials$Trial;") (by decide +kernel)
  have f51 := hts (.fieldLink RX5 51 "DogTrials" "saved" "[Z") (by decide +kernel)
  have hnd := hI.1
  refine lv_iload_n hx hb dX5_save_0 rfl (lv_at hl 1 rfl) ?_
  refine z_if_lt (tgt := 9) hx hb (by omega) dX5_save_1 (by decide) (fun c_1 => ?_) (fun c_1 => ?_)
  · skip
    exact g_throwWIO hx hb hl0 hown hX hG ht9 (hl.1.trans hml.symm) (hts (.classLink RX5 136 "java/lang/IndexOutOfBoundsException") (by decide +kernel)) (hts (.initialized "java/lang/IndexOutOfBoundsException") (by decide +kernel)) (fun w hw => hts w (List.mem_cons_of_mem _ (List.mem_append_right _ hw))) (is := 311) (text := "there is no such save slot") (by decide +kernel) dX5_save_9 dX5_save_12 dX5_save_13 dX5_save_16 dX5_save_19 ⟨Nat.le_of_ble_eq_true rfl, Nat.le_of_ble_eq_true rfl, Nat.le_of_ble_eq_true rfl, Nat.le_of_ble_eq_true rfl⟩ hlocks (⟨⟨by (repeat' split) <;> first | rfl | omega | (exfalso; omega) | contradiction, rfl⟩, (q_cs.rf M)⟩)
  · skip
    refine lv_iload_n hx hb dX5_save_4 rfl (lv_at hl 1 rfl) ?_
    refine lv_iconst (v := iZ 2) hx hb dX5_save_5 rfl ?_
    refine z_icmp_lt (tgt := 20) hx hb (by omega) (by decide) dX5_save_6 (by decide) (fun c_6 => ?_) (fun c_6 => ?_)
    · skip
      have hna : a = ((a.toNat : Nat) : Int) := by omega
      refine lv_aload_n hx hb dX5_save_20 rfl (lv_at hl 0 rfl) ?_
      refine g_get hx hb hts hinX5 hown hG (o := 152) (hdm 152 (by decide)) rfl rfl 6 (by decide) f47 (fun _ h => h) rfl dX5_save_21 ?_
      refine lv_iload_n hx hb dX5_save_24 rfl (lv_at hl 1 rfl) ?_
      obtain ⟨u, hu_u⟩ : ∃ u9, u9 = 24 + 8 * (a.toNat) := ⟨_, rfl⟩
      have hT_u : isT u := ⟨by omega, by omega⟩
      have hju : u = 8 * (3 + ((a.toNat))) := by omega
      refine g_aald (n := 2) (j := ((a.toNat))) (t := u) hx hb hG (o := 153) (hdm 153 (by decide)) rfl (by omega) (by omega) (by omega) hju.symm dX5_save_25 ?_
      have hd_u : ∀ r, r < 8 → gdm G (u + r) := fun r hr => hdm _ (by have h1 := hT_u.1; omega)
      refine lv_aload_n hx hb dX5_save_26 rfl (lv_at hl 0 rfl) ?_
      refine g_get hx hb hts hinX5 hown hG (o := 152) (hdm 152 (by decide)) rfl rfl 0 (by decide) f10 (fun _ h => h) rfl dX5_save_27 ?_
      refine g_vcallV (b := u) (As := [.ref (gad G 0)]) (rest := []) ⟨hx, hb, hml, hown, hts⟩ (c_X3_copyFrom l G M hdm u hT_u 0 ⟨by decide, by decide⟩ (by omega) R hR hI) (cwV 1 hts gX5_save_X3_copyFrom rfl rfl rfl (by decide +kernel) ⟨Nat.le_of_ble_eq_true rfl, Nat.le_of_ble_eq_true rfl⟩) hG (g_recv hG (b := u) (hd_u 0 (by decide)) (gE_T hT_u G _) rfl) rfl hl.1 rfl (Nat.le_of_ble_eq_true rfl) dX5_save_30 ⟨Nat.zero_le _, Nat.zero_le _⟩ (fun M2 H locs hp_30 hG => ?_)
      obtain ⟨ht_M2, ho_M2⟩ := hp_30
      have hR_M2 : q_tr M2 0 R := q_tr_off hR ho_M2 (by omega)
      refine lv_aload_n hx hb dX5_save_33 rfl (lv_at hl 0 rfl) ?_
      refine g_get hx hb hts hinX5 hown hG (o := 152) (hdm 152 (by decide)) rfl rfl 7 (by decide) f51 (fun _ h => h) rfl dX5_save_34 ?_
      refine lv_iload_n hx hb dX5_save_37 rfl (lv_at hl 1 rfl) ?_
      refine lv_iconst (v := iZ 1) hx hb dX5_save_38 rfl ?_
      refine g_zast (j := ((a.toNat))) hx hb hG (o := 154) (hdm 154 (by decide)) (fun f => rfl) (by omega) (by omega) (by omega) (by omega) dX5_save_39 (fun H locs hG => ?_)
      obtain ⟨M3, hM3⟩ : ∃ X, X = (q_wr M2 154 ((a.toNat)) 1) := ⟨_, rfl⟩
      rw [← hM3] at hG
      have hR_M2__M3 : q_tr M3 0 R := by rw [hM3]; exact tr_wr hR_M2 (by omega)
      have ht_M2__M3 : q_tr M3 u R := by rw [hM3]; exact tr_wr ht_M2 (by omega)
      refine lv_aload_n hx hb dX5_save_40 rfl (lv_at hl 0 rfl) ?_
      refine g_get hx hb hts hinX5 hown hG (o := 152) (hdm 152 (by decide)) rfl rfl 0 (by decide) f10 (fun _ h => h) rfl dX5_save_41 ?_
      refine g_callV (b := 0) (As := []) (rest := []) ⟨hx, hb, hml, hown, hts⟩ (c_X3_dogsWithRun l G M3 hdm 0 ⟨by decide, by decide⟩ R hR_M2__M3 hI) (cwV 0 hts gX5_save_X3_dogsWithRun rfl rfl rfl (by decide +kernel) ⟨Nat.le_of_ble_eq_true rfl, Nat.le_of_ble_eq_true rfl⟩) hG (g_recv hG (b := 0) (hdm 0 (by decide)) (gE_T ⟨by decide, by decide⟩ G _) rfl) rfl hl.1 rfl (Nat.le_of_ble_eq_true rfl) dX5_save_44 ⟨Nat.zero_le _, Nat.zero_le _⟩ (fun z4 M5 H locs hp_44 hG => ?_)
      obtain ⟨hz_44, hM_44⟩ := hp_44; replace hz_44 := hz_44.symm; subst hz_44; replace hM_44 := hM_44.symm; subst hM_44
      exact g_iretX (post := fun z M1 => (if 0 ≤ a ∧ a ≤ 1 then (0 : Int) else 1) = 0 ∧ z = q_nrun R ∧ q_tr M1 (24 + 8 * a.toNat) R ∧ (M1 154 a.toNat = 1 ∧ ∀ b : Nat, b ≠ a.toNat → M1 154 b = M 154 b) ∧ ∀ x, x ≠ 154 → (x < 24 + 8 * a.toNat ∨ 24 + 8 * a.toNat + 8 ≤ x) → M1 x = M x) (px := fun E M1 => (((if 0 ≤ a ∧ a ≤ 1 then (0 : Int) else 1) = 1 ∧ E = "java/lang/IndexOutOfBoundsException")) ∧ q_cs M M1) (z := (q_nrun R)) hx hb hr hG hlocks (⟨by (repeat' split) <;> first | rfl | omega | (exfalso; omega) | contradiction, rfl, (by rw [← hu_u, hM3]; exact tr_wr ht_M2 (by omega)), ⟨by rw [hM3, wr_eq], fun b9 hb9 => by rw [hM3, wr_ne _ _ _ hb9, ho_M2 154 (by omega)]⟩, fun x h7 h8 => by rw [hM3, wr_off _ _ _ h7]; exact ho_M2 x (by omega)⟩) dX5_save_47
    · skip
      exact g_throwWIO hx hb hl0 hown hX hG ht9 (hl.1.trans hml.symm) (hts (.classLink RX5 136 "java/lang/IndexOutOfBoundsException") (by decide +kernel)) (hts (.initialized "java/lang/IndexOutOfBoundsException") (by decide +kernel)) (fun w hw => hts w (List.mem_cons_of_mem _ (List.mem_append_right _ hw))) (is := 311) (text := "there is no such save slot") (by decide +kernel) dX5_save_9 dX5_save_12 dX5_save_13 dX5_save_16 dX5_save_19 ⟨Nat.le_of_ble_eq_true rfl, Nat.le_of_ble_eq_true rfl, Nat.le_of_ble_eq_true rfl, Nat.le_of_ble_eq_true rfl⟩ hlocks (⟨⟨by (repeat' split) <;> first | rfl | omega | (exfalso; omega) | contradiction, rfl⟩, (q_cs.rf M)⟩)
set_option maxHeartbeats 4000000 in
set_option maxRecDepth 100000 in
theorem c_X5_restore (l : Launch) (G : gG) (M : Nat → Nat → Int) (hl0 : l.stackTraces = false) (hdm : ∀ k, k < 169 → gdm G k) (a : Int) (ha9 : -2147483648 ≤ a ∧ a < 2147483648) (hsv : ∀ j : Nat, j < 2 → M 154 j = 0 ∨ M 154 j = 1) (K : Nat → Int) (hK : 0 ≤ a ∧ a ≤ 1 → M 154 a.toNat = 1 → q_tr M (24 + 8 * a.toNat) K ∧ q_inv K) : gMx l yX5_restore wsX5_restore ({ frames := 6, cells := 1, slots := 6, locals := 90 } : Room) G M [.ref (gad G 152), .int (iZ a)] (fun z M1 => (if ¬ (0 ≤ a ∧ a ≤ 1) then (1 : Int) else if M 154 a.toNat = 0 then 2 else 0) = 0 ∧ z = q_nrun K ∧ q_tr M1 0 K ∧ M1 165 1 = M 165 1 ∧ M1 165 2 = 0 ∧ ∀ x, x ≠ 165 → 8 ≤ x → M1 x = M x) (fun E M1 => (((if ¬ (0 ≤ a ∧ a ≤ 1) then (1 : Int) else if M 154 a.toNat = 0 then 2 else 0) = 1 ∧ E = "java/lang/IndexOutOfBoundsException") ∨ ((if ¬ (0 ≤ a ∧ a ≤ 1) then (1 : Int) else if M 154 a.toNat = 0 then 2 else 0) = 2 ∧ E = "java/lang/IllegalStateException")) ∧ q_cs M M1) := by
  refine gMx_of (cc := cX5_restore) (maxL := 2) (ret := some .int) (by decide) rfl (Nat.le_of_ble_eq_true rfl) ?_
  intro p e s m below meth c ls hx hb hr hml hown hts hlocks hl hX ht9 hG
  have hown : s.vm.findClass RX5 = some m.cls := hown
  have hl : lv_has ls 2 [(0, .ref (gad G 152)), (1, .int (iZ a))] := hl
  have hinX5 : ∀ w ∈ u_ws RX5 TX5 8, w ∈ wsX5_restore := by decide +kernel
  have f10 := hts (.fieldLink RX5 10 "DogTrials" "now" "LDogTrials$Trial;") (by decide +kernel)
  have f36 := hts (.fieldLink RX5 36 "DogTrials" "memory" "LDogTrials$Memory;") (by decide +kernel)
  have f47 := hts (.fieldLink RX5 47 "DogTrials" "slots" "[LDogTrials$Trial;") (by decide +kernel)
  have f51 := hts (.fieldLink RX5 51 "DogTrials" "saved" "[Z") (by decide +kernel)
  refine lv_iload_n hx hb dX5_restore_0 rfl (lv_at hl 1 rfl) ?_
  refine z_if_lt (tgt := 9) hx hb (by omega) dX5_restore_1 (by decide) (fun c_1 => ?_) (fun c_1 => ?_)
  · skip
    exact g_throwWIO hx hb hl0 hown hX hG ht9 (hl.1.trans hml.symm) (hts (.classLink RX5 136 "java/lang/IndexOutOfBoundsException") (by decide +kernel)) (hts (.initialized "java/lang/IndexOutOfBoundsException") (by decide +kernel)) (fun w hw => hts w (List.mem_cons_of_mem _ (List.mem_append_left _ (List.mem_append_right _ hw)))) (is := 311) (text := "there is no such save slot") (by decide +kernel) dX5_restore_9 dX5_restore_12 dX5_restore_13 dX5_restore_16 dX5_restore_19 ⟨Nat.le_of_ble_eq_true rfl, Nat.le_of_ble_eq_true rfl, Nat.le_of_ble_eq_true rfl, Nat.le_of_ble_eq_true rfl⟩ hlocks (⟨Or.inl ⟨by (repeat' split) <;> first | rfl | omega | (exfalso; omega) | contradiction, rfl⟩, (q_cs.rf M)⟩)
  · skip
    refine lv_iload_n hx hb dX5_restore_4 rfl (lv_at hl 1 rfl) ?_
    refine lv_iconst (v := iZ 2) hx hb dX5_restore_5 rfl ?_
    refine z_icmp_lt (tgt := 20) hx hb (by omega) (by decide) dX5_restore_6 (by decide) (fun c_6 => ?_) (fun c_6 => ?_)
    · skip
      have hna : a = ((a.toNat : Nat) : Int) := by omega
      have hs9 := hsv a.toNat (by omega)
      refine lv_aload_n hx hb dX5_restore_20 rfl (lv_at hl 0 rfl) ?_
      refine g_get hx hb hts hinX5 hown hG (o := 152) (hdm 152 (by decide)) rfl rfl 7 (by decide) f51 (fun _ h => h) rfl dX5_restore_21 ?_
      refine lv_iload_n hx hb dX5_restore_24 rfl (lv_at hl 1 rfl) ?_
      refine g_zald (z := (M 154 ((a.toNat)))) (j := ((a.toNat))) hx hb hG (o := 154) (hdm 154 (by decide)) rfl (by omega) (by omega) (by omega) rfl dX5_restore_25 ?_
      refine z_if_ne (tgt := 40) hx hb (by omega) dX5_restore_26 (by decide) (fun c_26 => ?_) (fun c_26 => ?_)
      · skip
        refine lv_aload_n hx hb dX5_restore_40 rfl (lv_at hl 0 rfl) ?_
        refine g_get hx hb hts hinX5 hown hG (o := 152) (hdm 152 (by decide)) rfl rfl 0 (by decide) f10 (fun _ h => h) rfl dX5_restore_41 ?_
        refine lv_aload_n hx hb dX5_restore_44 rfl (lv_at hl 0 rfl) ?_
        refine g_get hx hb hts hinX5 hown hG (o := 152) (hdm 152 (by decide)) rfl rfl 6 (by decide) f47 (fun _ h => h) rfl dX5_restore_45 ?_
        refine lv_iload_n hx hb dX5_restore_48 rfl (lv_at hl 1 rfl) ?_
        obtain ⟨u, hu_u⟩ : ∃ u9, u9 = 24 + 8 * (a.toNat) := ⟨_, rfl⟩
        have hT_u : isT u := ⟨by omega, by omega⟩
        have hju : u = 8 * (3 + ((a.toNat))) := by omega
        have hKu : q_tr M u K := by rw [hu_u]; exact (hK (by omega) (by omega)).1
        refine g_aald (n := 2) (j := ((a.toNat))) (t := u) hx hb hG (o := 153) (hdm 153 (by decide)) rfl (by omega) (by omega) (by omega) hju.symm dX5_restore_49 ?_
        have hd_u : ∀ r, r < 8 → gdm G (u + r) := fun r hr => hdm _ (by have h1 := hT_u.1; omega)
        refine g_vcallV (b := 0) (As := [.ref (gad G u)]) (rest := []) ⟨hx, hb, hml, hown, hts⟩ (c_X3_copyFrom l G M hdm 0 ⟨by decide, by decide⟩ u hT_u (by omega) K hKu (hK (by omega) (by omega)).2) (cwV 1 hts gX5_restore_X3_copyFrom rfl rfl rfl (by decide +kernel) ⟨Nat.le_of_ble_eq_true rfl, Nat.le_of_ble_eq_true rfl⟩) hG (g_recv hG (b := 0) (hdm 0 (by decide)) (gE_T ⟨by decide, by decide⟩ G _) rfl) rfl hl.1 rfl (Nat.le_of_ble_eq_true rfl) dX5_restore_50 ⟨Nat.zero_le _, Nat.zero_le _⟩ (fun M2 H locs hp_50 hG => ?_)
        obtain ⟨ht_M2, ho_M2⟩ := hp_50
        have hKu_M2 : q_tr M2 u K := q_tr_off hKu ho_M2 (by omega)
        refine lv_aload_n hx hb dX5_restore_53 rfl (lv_at hl 0 rfl) ?_
        refine g_get hx hb hts hinX5 hown hG (o := 152) (hdm 152 (by decide)) rfl rfl 4 (by decide) f36 (fun _ h => h) rfl dX5_restore_54 ?_
        refine g_vcallV (b := 165) (As := []) (rest := []) ⟨hx, hb, hml, hown, hts⟩ (c_X1_forgetAll l G M2 hdm) (cwV 0 hts gX5_restore_X1_forgetAll rfl rfl rfl (by decide +kernel) ⟨Nat.le_of_ble_eq_true rfl, Nat.le_of_ble_eq_true rfl⟩) hG (g_recv hG (b := 165) (hdm 165 (by decide)) rfl rfl) rfl hl.1 rfl (Nat.le_of_ble_eq_true rfl) dX5_restore_57 ⟨Nat.zero_le _, Nat.zero_le _⟩ (fun M4 H locs hp_57 hG => ?_)
        have hM4 := hp_57
        have hKu_M2_M4 : q_tr M4 u K := by rw [hM4]; exact tr_wr hKu_M2 (by omega)
        have ht_M2_M4 : q_tr M4 0 K := by rw [hM4]; exact tr_wr ht_M2 (by omega)
        refine lv_aload_n hx hb dX5_restore_60 rfl (lv_at hl 0 rfl) ?_
        refine g_get hx hb hts hinX5 hown hG (o := 152) (hdm 152 (by decide)) rfl rfl 0 (by decide) f10 (fun _ h => h) rfl dX5_restore_61 ?_
        refine g_callV (b := 0) (As := []) (rest := []) ⟨hx, hb, hml, hown, hts⟩ (c_X3_dogsWithRun l G M4 hdm 0 ⟨by decide, by decide⟩ K ht_M2_M4 (hK (by omega) (by omega)).2) (cwV 0 hts gX5_restore_X3_dogsWithRun rfl rfl rfl (by decide +kernel) ⟨Nat.le_of_ble_eq_true rfl, Nat.le_of_ble_eq_true rfl⟩) hG (g_recv hG (b := 0) (hdm 0 (by decide)) (gE_T ⟨by decide, by decide⟩ G _) rfl) rfl hl.1 rfl (Nat.le_of_ble_eq_true rfl) dX5_restore_64 ⟨Nat.zero_le _, Nat.zero_le _⟩ (fun z5 M6 H locs hp_64 hG => ?_)
        obtain ⟨hz_64, hM_64⟩ := hp_64; replace hz_64 := hz_64.symm; subst hz_64; replace hM_64 := hM_64.symm; subst hM_64
        exact g_iretX (post := fun z M1 => (if ¬ (0 ≤ a ∧ a ≤ 1) then (1 : Int) else if M 154 a.toNat = 0 then 2 else 0) = 0 ∧ z = q_nrun K ∧ q_tr M1 0 K ∧ M1 165 1 = M 165 1 ∧ M1 165 2 = 0 ∧ ∀ x, x ≠ 165 → 8 ≤ x → M1 x = M x) (px := fun E M1 => (((if ¬ (0 ≤ a ∧ a ≤ 1) then (1 : Int) else if M 154 a.toNat = 0 then 2 else 0) = 1 ∧ E = "java/lang/IndexOutOfBoundsException") ∨ ((if ¬ (0 ≤ a ∧ a ≤ 1) then (1 : Int) else if M 154 a.toNat = 0 then 2 else 0) = 2 ∧ E = "java/lang/IllegalStateException")) ∧ q_cs M M1) (z := (q_nrun K)) hx hb hr hG hlocks (⟨by (repeat' split) <;> first | rfl | omega | (exfalso; omega) | contradiction, rfl, (by rw [hM4]; exact tr_wr ht_M2 (by omega)), by rw [hM4, wr_ne _ _ _ (by decide), ho_M2 165 (by omega)], by rw [hM4, wr_eq], fun x h7 h8 => by rw [hM4, wr_off _ _ _ h7]; exact ho_M2 x (by omega)⟩) dX5_restore_67
      · skip
        exact g_throwWIS hx hb hl0 hown hX hG ht9 (hl.1.trans hml.symm) (hts (.classLink RX5 66 "java/lang/IllegalStateException") (by decide +kernel)) (hts (.initialized "java/lang/IllegalStateException") (by decide +kernel)) (fun w hw => hts w (List.mem_cons_of_mem _ (List.mem_append_right _ hw))) (is := 313) (text := "nothing has been saved in this slot") (by decide +kernel) dX5_restore_29 dX5_restore_32 dX5_restore_33 dX5_restore_36 dX5_restore_39 ⟨Nat.le_of_ble_eq_true rfl, Nat.le_of_ble_eq_true rfl, Nat.le_of_ble_eq_true rfl, Nat.le_of_ble_eq_true rfl⟩ hlocks (⟨Or.inr (⟨by (repeat' split) <;> first | rfl | omega | (exfalso; omega) | contradiction, rfl⟩), (q_cs.rf M)⟩)
    · skip
      exact g_throwWIO hx hb hl0 hown hX hG ht9 (hl.1.trans hml.symm) (hts (.classLink RX5 136 "java/lang/IndexOutOfBoundsException") (by decide +kernel)) (hts (.initialized "java/lang/IndexOutOfBoundsException") (by decide +kernel)) (fun w hw => hts w (List.mem_cons_of_mem _ (List.mem_append_left _ (List.mem_append_right _ hw)))) (is := 311) (text := "there is no such save slot") (by decide +kernel) dX5_restore_9 dX5_restore_12 dX5_restore_13 dX5_restore_16 dX5_restore_19 ⟨Nat.le_of_ble_eq_true rfl, Nat.le_of_ble_eq_true rfl, Nat.le_of_ble_eq_true rfl, Nat.le_of_ble_eq_true rfl⟩ hlocks (⟨Or.inl ⟨by (repeat' split) <;> first | rfl | omega | (exfalso; omega) | contradiction, rfl⟩, (q_cs.rf M)⟩)
