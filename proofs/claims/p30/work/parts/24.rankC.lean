set_option maxHeartbeats 4000000 in
set_option maxRecDepth 100000 in
theorem c_X3_takeRank (l : Launch) (G : gG) (M : Nat → Nat → Int) (hdm : ∀ k, k < 169 → gdm G k) (R : Nat → Int) (hR : q_tr M 8 R) (v : Int) (hv : -2147483648 ≤ v ∧ v < 2147483648) : gMi l yX3_takeRank wsX3_takeRank ({ frames := 0, cells := 0, slots := 0, locals := 0 } : Room) G M [.ref (gad G 8), .int (iZ v)] (fun z M1 => z = (if q_isr v = true then 1 else 0) ∧ (q_isr v = true → q_tr M1 8 (q_srk R (fun k => q_kd v (5 - k)))) ∧ ∀ a, a ≠ 15 → M1 a = M a) := by
  refine gMi_of (cc := cX3_takeRank) (maxL := 6) (ret := some .boolean) (by decide) rfl (Nat.le_of_ble_eq_true rfl) ?_
  intro p e s m below meth c ls hx hb hr hml hown hts hlocks hl hG
  have hown : s.vm.findClass RX3 = some m.cls := hown
  have hl : lv_has ls 6 [(0, .ref (gad G 8)), (1, .int (iZ v))] := hl
  have hinX3 : ∀ w ∈ u_ws RX3 TX3 15, w ∈ wsX3_takeRank := by decide +kernel
  have f31 := hts (.fieldLink RX3 31 "DogTrials$Trial" "rank" "[I") (by decide +kernel)
  refine lv_iload_n hx hb dX3_takeRank_0 rfl (lv_at hl 1 rfl) ?_
  refine z_if_ge (tgt := 6) hx hb (by omega) dX3_takeRank_1 (by decide) (fun c_1 => ?_) (fun c_1 => ?_)
  · skip
    refine lv_iload_n hx hb dX3_takeRank_6 rfl (lv_at hl 1 rfl) ?_
    refine lv_istore_n (lv' := [(2, .int (iZ v)), (0, .ref (gad G 8)), (1, .int (iZ v))]) hx hb dX3_takeRank_7 rfl hl (by decide) rfl (fun ls hl => ?_)
    refine lv_iconst (v := iZ 0) hx hb dX3_takeRank_8 rfl ?_
    refine lv_istore_n (lv' := [(3, .int (iZ 0)), (2, .int (iZ v)), (0, .ref (gad G 8)), (1, .int (iZ v))]) hx hb dX3_takeRank_9 rfl hl (by decide) rfl (fun ls hl => ?_)
    refine lv_iconst (v := iZ 5) hx hb dX3_takeRank_10 rfl ?_
    refine lv_istore (lv' := [(4, .int (iZ 5)), (3, .int (iZ 0)), (2, .int (iZ v)), (0, .ref (gad G 8)), (1, .int (iZ v))]) hx hb dX3_takeRank_11 hl (by decide) rfl (fun ls hl => ?_)
    have L_13 : ∀ (n_13 : Nat) (j : Nat) (x_i : Int) (x_m : Int) (x_r : Int) (Mk : Nat → Nat → Int), (x_i = (5 - (j : Int))) → (x_m = ((q_mk v j) : Int)) → (x_r = (q_rd v j)) → (j ≤ 6) → ((∀ i, i < j → q_kb v i = true)) → ((∀ k : Nat, 6 ≤ k + j → k < 6 → Mk 15 k = q_kd v (5 - k))) → ((∀ a, a ≠ 15 → Mk a = M a)) → 6 - j < n_13 → ∀ (H : Heap) (locs : List Loc) (ls : Array Slot), gH G Mk s H locs → lv_has ls 6 [(4, .int (iZ x_i)), (3, .int (iZ x_m)), (2, .int (iZ x_r)), (0, .ref (gad G 8)), (1, .int (iZ v))] → W p l e ({ frames := 0, cells := 0, slots := 0, locals := 0 } : Room) s m [.ref (gad G 8), .int (iZ v)].toArray below meth c H locs 0 0 (MQ below (va_Qi (fun r (u : Int × (Nat → Nat → Int)) => r = iZ u.1 ∧ (fun z M1 => z = (if q_isr v = true then 1 else 0) ∧ (q_isr v = true → q_tr M1 8 (q_srk R (fun k => q_kd v (5 - k)))) ∧ ∀ a, a ≠ 15 → M1 a = M a) u.1 u.2) (fun u U => gB G u.2 U) (gA G)) [.ref (gad G 8), .int (iZ v)].toArray s 0 0 (gA G)) (F0 m 13 ls []) := by
      intro n_13
      induction n_13 with
      | zero => intro j x_i x_m x_r Mk he_x_i he_x_m he_x_r hj hok hrk hoa hm_13; exact absurd hm_13 (Nat.not_lt_zero _)
      | succ n_13 ih_13 =>
        intro j x_i x_m x_r Mk he_x_i he_x_m he_x_r hj hok hrk hoa hm_13 H locs ls hG hl
        subst he_x_i
        subst he_x_m
        subst he_x_r
        have hrd := ((q_rd_in v j).1 (by omega))
        have hkd := q_kd_in hrd.1
        have hms := q_mk_lt v j
        refine lv_iload hx hb dX3_takeRank_13 (lv_at hl 0 rfl) ?_
        refine z_if_lt (tgt := 69) hx hb (by omega) dX3_takeRank_15 (by decide) (fun c_15 => ?_) (fun c_15 => ?_)
        · skip
          have hj6 : j = 6 := by omega
          subst hj6
          have hall9 := q_isr_all (v := v) (by omega) hok
          refine lv_iload_n hx hb dX3_takeRank_69 rfl (lv_at hl 2 rfl) ?_
          refine z_if_ne (tgt := 77) hx hb (by omega) dX3_takeRank_70 (by decide) (fun c_70 => ?_) (fun c_70 => ?_)
          · skip
            refine lv_iconst (v := iZ 0) hx hb dX3_takeRank_77 rfl ?_
            exact g_zret (post := fun z M1 => z = (if q_isr v = true then 1 else 0) ∧ (q_isr v = true → q_tr M1 8 (q_srk R (fun k => q_kd v (5 - k)))) ∧ ∀ a, a ≠ 15 → M1 a = M a) (z := 0) hx hb hr hG hlocks (Or.inl rfl) (⟨by rw [hall9]; first | (rw [if_pos (decide_eq_true (by omega))]; done) | (rw [if_neg (fun h9 => by have h8 := of_decide_eq_true h9; omega)]; done), fun h9 => q_tr_srk hR (fun a h8 _ => hoa a h8) (fun k hk => hrk k (by omega) hk), hoa⟩) dX3_takeRank_78
          · skip
            refine lv_iconst (v := iZ 1) hx hb dX3_takeRank_73 rfl ?_
            refine lv_goto (tgt := 78) hx hb dX3_takeRank_74 (by decide) ?_
            exact g_zret (post := fun z M1 => z = (if q_isr v = true then 1 else 0) ∧ (q_isr v = true → q_tr M1 8 (q_srk R (fun k => q_kd v (5 - k)))) ∧ ∀ a, a ≠ 15 → M1 a = M a) (z := 1) hx hb hr hG hlocks (Or.inr rfl) (⟨by rw [hall9]; first | (rw [if_pos (decide_eq_true (by omega))]; done) | (rw [if_neg (fun h9 => by have h8 := of_decide_eq_true h9; omega)]; done), fun h9 => q_tr_srk hR (fun a h8 _ => hoa a h8) (fun k hk => hrk k (by omega) hk), hoa⟩) dX3_takeRank_78
        · skip
          refine lv_iload_n hx hb dX3_takeRank_18 rfl (lv_at hl 2 rfl) ?_
          refine lv_bipush (v := iZ (10)) hx hb dX3_takeRank_19 (by decide) ?_
          refine z_irem (z := (q_kd v j)) hx hb (by omega) (by omega) (by omega) dX3_takeRank_21 ?_
          refine lv_istore (lv' := [(5, .int (iZ (q_kd v j))), (4, .int (iZ (5 - (j : Int)))), (3, .int (iZ ((q_mk v j) : Int))), (2, .int (iZ (q_rd v j))), (0, .ref (gad G 8)), (1, .int (iZ v))]) hx hb dX3_takeRank_22 hl (by decide) rfl (fun ls hl => ?_)
          refine lv_iload hx hb dX3_takeRank_24 (lv_at hl 0 rfl) ?_
          refine lv_bipush (v := iZ (6)) hx hb dX3_takeRank_26 (by decide) ?_
          refine z_icmp_ge (tgt := 40) hx hb (by omega) (by decide) dX3_takeRank_28 (by decide) (fun c_28 => ?_) (fun c_28 => ?_)
          · skip
            refine lv_iconst (v := iZ 0) hx hb dX3_takeRank_40 rfl ?_
            have hno9 : ¬ q_isr v = true := q_isr_no (i := j) (by omega) (by omega) (fun h9 => by unfold q_kb at h9; have h8 := of_decide_eq_true h9; omega)
            exact g_zret (post := fun z M1 => z = (if q_isr v = true then 1 else 0) ∧ (q_isr v = true → q_tr M1 8 (q_srk R (fun k => q_kd v (5 - k)))) ∧ ∀ a, a ≠ 15 → M1 a = M a) (z := 0) hx hb hr hG hlocks (Or.inl rfl) (⟨by rw [if_neg hno9], fun h9 => absurd h9 hno9, hoa⟩) dX3_takeRank_41
          · skip
            refine lv_iload_n hx hb dX3_takeRank_31 rfl (lv_at hl 2 rfl) ?_
            refine lv_iload hx hb dX3_takeRank_32 (lv_at hl 0 rfl) ?_
            refine z_shrm (m9 := (q_mk v j)) (q9 := (q_kd v j).toNat) hx hb hms (by omega) (by omega) dX3_takeRank_34 ?_
            refine lv_iconst (v := iZ 1) hx hb dX3_takeRank_35 rfl ?_
            refine z_andm (m9 := ((q_mk v j) / 2 ^ (q_kd v j).toNat)) hx hb (Nat.lt_of_le_of_lt (Nat.div_le_self _ _) hms) dX3_takeRank_36 ?_
            refine z_if_eq (tgt := 42) hx hb (by omega) dX3_takeRank_37 (by decide) (fun c_37 => ?_) (fun c_37 => ?_)
            · skip
              refine lv_iload_n hx hb dX3_takeRank_42 rfl (lv_at hl 2 rfl) ?_
              refine lv_iconst (v := iZ 1) hx hb dX3_takeRank_43 rfl ?_
              refine lv_iload hx hb dX3_takeRank_44 (lv_at hl 0 rfl) ?_
              refine z_shl1 (q9 := (q_kd v j).toNat) hx hb (by omega) (by omega) dX3_takeRank_46 ?_
              refine z_orm (m9 := (q_mk v j)) (b9 := (2 ^ (q_kd v j).toNat)) hx hb hms (q_pw6 _ (by omega)) dX3_takeRank_47 ?_
              refine lv_istore_n (lv' := [(3, .int (iZ (((q_mk v j) ||| (2 ^ (q_kd v j).toNat) : Nat) : Int))), (5, .int (iZ (q_kd v j))), (4, .int (iZ (5 - (j : Int)))), (2, .int (iZ (q_rd v j))), (0, .ref (gad G 8)), (1, .int (iZ v))]) hx hb dX3_takeRank_48 rfl hl (by decide) rfl (fun ls hl => ?_)
              refine lv_aload_n hx hb dX3_takeRank_49 rfl (lv_at hl 4 rfl) ?_
              refine g_get hx hb hts hinX3 hown hG (o := 8) (hdm 8 (by decide)) (gE_T ⟨by decide, by decide⟩ G _) rfl 7 (by decide) f31 (fun _ h => h) rfl dX3_takeRank_50 ?_
              refine lv_iload hx hb dX3_takeRank_53 (lv_at hl 2 rfl) ?_
              refine lv_iload hx hb dX3_takeRank_55 (lv_at hl 1 rfl) ?_
              refine g_iast (j := ((5 - j : Nat))) hx hb hG (o := 15) (hdm 15 (by decide)) (fun f => gE_t7 ⟨by decide, by decide⟩ G f) (by omega) (by omega) (by omega) dX3_takeRank_57 (fun H locs hG => ?_)
              obtain ⟨M1, hM1⟩ : ∃ X, X = (q_wr Mk 15 ((5 - j : Nat)) (q_kd v j)) := ⟨_, rfl⟩
              rw [← hM1] at hG
              refine lv_iload_n hx hb dX3_takeRank_58 rfl (lv_at hl 3 rfl) ?_
              refine lv_bipush (v := iZ (10)) hx hb dX3_takeRank_59 (by decide) ?_
              refine z_idiv (z := (q_rd v j / 10)) hx hb (by omega) (by omega) rfl dX3_takeRank_61 ?_
              refine lv_istore_n (lv' := [(2, .int (iZ (q_rd v j / 10))), (3, .int (iZ (((q_mk v j) ||| (2 ^ (q_kd v j).toNat) : Nat) : Int))), (5, .int (iZ (q_kd v j))), (4, .int (iZ (5 - (j : Int)))), (0, .ref (gad G 8)), (1, .int (iZ v))]) hx hb dX3_takeRank_62 rfl hl (by decide) rfl (fun ls hl => ?_)
              refine z_iinc (z := (4 - (j : Int))) (lv' := [(4, .int (iZ (4 - (j : Int)))), (2, .int (iZ (q_rd v j / 10))), (3, .int (iZ (((q_mk v j) ||| (2 ^ (q_kd v j).toNat) : Nat) : Int))), (5, .int (iZ (q_kd v j))), (0, .ref (gad G 8)), (1, .int (iZ v))]) hx hb dX3_takeRank_63 hl (k := 3) rfl (by omega) (by decide) rfl (fun ls hl => ?_)
              refine lv_goto (tgt := 13) hx hb dX3_takeRank_66 (by decide) ?_
              exact ih_13 (j + 1) (4 - (j : Int)) (((q_mk v j) ||| (2 ^ (q_kd v j).toNat) : Nat) : Int) (q_rd v j / 10) M1 (by omega) (by rw [q_mk, if_pos ⟨hrd.1, by omega⟩]) (by rw [q_rd, Int.tdiv_eq_ediv_of_nonneg hrd.1]) (by omega) (fun i hi => by rcases (show i < j ∨ i = j by omega) with h9 | h9; exact hok i h9; (subst h9; unfold q_kb; exact decide_eq_true (by omega))) (fun k h1 h2 => by rw [hM1, wr_ap]; by_cases e9 : k = 5 - j; (rw [if_pos ⟨rfl, e9⟩, e9, show 5 - (5 - j) = j by omega]); (rw [if_neg (fun h => e9 h.2)]; exact hrk k (by omega) h2)) (fun a e1 => by rw [hM1, wr_off _ _ _ e1]; exact hoa a e1) (by omega) _ _ _ hG (lv_sub hl [0, 2, 1, 4, 5] rfl)
            · skip
              refine lv_iconst (v := iZ 0) hx hb dX3_takeRank_40 rfl ?_
              have hno9 : ¬ q_isr v = true := q_isr_no (i := j) (by omega) (by omega) (fun h9 => by unfold q_kb at h9; have h8 := of_decide_eq_true h9; omega)
              exact g_zret (post := fun z M1 => z = (if q_isr v = true then 1 else 0) ∧ (q_isr v = true → q_tr M1 8 (q_srk R (fun k => q_kd v (5 - k)))) ∧ ∀ a, a ≠ 15 → M1 a = M a) (z := 0) hx hb hr hG hlocks (Or.inl rfl) (⟨by rw [if_neg hno9], fun h9 => absurd h9 hno9, hoa⟩) dX3_takeRank_41
    exact L_13 _ 0 5 0 v M rfl rfl rfl (by omega) (fun i h => absurd h (Nat.not_lt_zero _)) (fun k h1 h2 => by omega) (fun _ _ => rfl) (Nat.lt_succ_self _) _ _ _ hG (lv_sub hl [0, 1, 2, 3, 4] rfl)
  · skip
    refine lv_iconst (v := iZ 0) hx hb dX3_takeRank_4 rfl ?_
    exact g_zret (post := fun z M1 => z = (if q_isr v = true then 1 else 0) ∧ (q_isr v = true → q_tr M1 8 (q_srk R (fun k => q_kd v (5 - k)))) ∧ ∀ a, a ≠ 15 → M1 a = M a) (z := 0) hx hb hr hG hlocks (Or.inl rfl) (⟨by rw [if_neg (q_isr_neg (by omega))], fun h9 => absurd h9 (q_isr_neg (by omega)), fun _ _ => rfl⟩) dX3_takeRank_5
