set_option maxHeartbeats 8000000 in
set_option maxRecDepth 100000 in
theorem c_X6_layRow (l : Launch) (G : gG) (M : Nat → Nat → Int) (hdm : ∀ k, k < 179 → gdm G k) (q : Nat) (hP : isP q) (hI : q_inv (M q)) : gMv l yX6_layRow wsX6_layRow ({ frames := 3, cells := 0, slots := 0, locals := 68 } : Room) G M [.ref (gad G 169), .ref (gad G q)] (fun M1 => M1 169 12 = (q_orn (M q) : Int) ∧ (∀ k : Nat, k < q_orn (M q) → M1 177 k = q_orf (M q) k) ∧ (∀ a, a ≠ 169 → a ≠ 177 → M1 a = M a) ∧ ∀ b : Nat, b ≠ 12 → M1 169 b = M 169 b) := by
  refine gMv_of (cc := cX6_layRow) (maxL := 5) (ret := none) (by decide) rfl (Nat.le_of_ble_eq_true rfl) ?_
  intro p e s m below meth c ls hx hb hr hml hown hts hlocks hl hG
  have hown : s.vm.findClass RX6 = some m.cls := hown
  have hl : lv_has ls 5 [(0, .ref (gad G 169)), (1, .ref (gad G q))] := hl
  have hdp_q : gdm G q := hdm _ (by rcases hP with h | h | h <;> omega)
  have hinX6 : ∀ w ∈ u_ws RX6 TX6 13, w ∈ wsX6_layRow := by decide +kernel
  have f32 := hts (.fieldLink RX6 32 "DogTrialsModel" "row" "[I") (by decide +kernel)
  have f78 := hts (.fieldLink RX6 78 "DogTrialsModel" "rowSize" "I") (by decide +kernel)
  have hnd := hI.1
  have h3 := hI.2.2.2.2.2.1
  have hqn0 : q ≠ 169 ∧ q ≠ 177 := by rcases hP with h | h | h <;> omega
  refine lv_aload_n hx hb dX6_layRow_0 rfl (lv_at hl 0 rfl) ?_
  refine lv_iconst (v := iZ 0) hx hb dX6_layRow_1 rfl ?_
  refine g_put (F := (oR G)) hx hb hts hinX6 tyX6 tyX6_ok nmX6 hown hG (o := 169) (hdm 169 (by decide)) (fun f => rfl) rfl 12 (by decide) f78 (fun _ h => h) rfl rfl (fun _ => Nat.lt_of_lt_of_le (by decide) (Nat.le_refl 13)) (fun _ => rfl) dX6_layRow_2 (fun H locs hG => ?_)
  obtain ⟨M1, hM1⟩ : ∃ X, X = (q_wr M 169 12 0) := ⟨_, rfl⟩
  rw [← hM1] at hG
  refine lv_aload_n hx hb dX6_layRow_5 rfl (lv_at hl 1 rfl) ?_
  refine lv_iconst (v := iZ 3) hx hb dX6_layRow_6 rfl ?_
  refine g_iald (z := (M q 3)) (j := 3) hx hb hG (o := q) hdp_q (gE_P hP G _) (by omega) (by omega) (by omega) (by rw [hM1, wr_off _ _ _ hqn0.1]) dX6_layRow_7 ?_
  refine lv_bipush (v := iZ (-9)) hx hb dX6_layRow_8 (by decide) ?_
  refine z_icmp_ne (tgt := 18) hx hb (by omega) (by decide) dX6_layRow_10 (by decide) (fun c_10 => ?_) (fun c_10 => ?_)
  · skip
    refine lv_aload_n hx hb dX6_layRow_18 rfl (lv_at hl 1 rfl) ?_
    refine lv_aload_n hx hb dX6_layRow_19 rfl (lv_at hl 1 rfl) ?_
    refine lv_iconst (v := iZ 3) hx hb dX6_layRow_20 rfl ?_
    refine g_iald (z := (M q 3)) (j := 3) hx hb hG (o := q) hdp_q (gE_P hP G _) (by omega) (by omega) (by omega) (by rw [hM1, wr_off _ _ _ hqn0.1]) dX6_layRow_21 ?_
    refine g_callS (As := [.int (iZ (M q 3))]) (rest := [.ref (gad G q)]) ⟨hx, hb, hml, hown, hts⟩ (c_X6_dogAt l G M1 (M q 3)) (va_cwS 1 hts gX6_layRow_X6_dogAt rfl rfl rfl (by decide +kernel) ⟨Nat.le_of_ble_eq_true rfl, Nat.le_of_ble_eq_true rfl⟩) hG rfl hl.1 rfl (Nat.le_of_ble_eq_true rfl) dX6_layRow_22 ⟨Nat.zero_le _, Nat.zero_le _⟩ (fun z2 M3 H locs hp_22 hG => ?_)
    obtain ⟨hz_22, hM_22⟩ := hp_22; replace hz_22 := hz_22.symm; subst hz_22; replace hM_22 := hM_22.symm; subst hM_22
    rw [show (14 + 11 * (M q 3) : Int) = (11 * (M q 3) + 14) from by omega]
    refine g_iald (z := (q_ow (M q) (M q 3).toNat)) (j := (14 + 11 * (M q 3).toNat)) hx hb hG (o := q) hdp_q (gE_P hP G _) (by omega) (by omega) (by omega) (by rw [hM1, wr_off _ _ _ hqn0.1]; rfl) dX6_layRow_25 ?_
    rw [show (q_ow (M q) (M q 3).toNat) = q_lw (M q) from by unfold q_lw; first | (rw [if_neg (by omega)]; done) | (rw [if_pos (by omega)]; done)]
    skip
    refine lv_istore_n (lv' := [(2, .int (iZ (q_lw (M q)))), (0, .ref (gad G 169)), (1, .ref (gad G q))]) hx hb dX6_layRow_26 rfl hl (by decide) rfl (fun ls hl => ?_)
    refine lv_iconst (v := iZ 0) hx hb dX6_layRow_27 rfl ?_
    refine lv_istore_n (lv' := [(3, .int (iZ 0)), (2, .int (iZ (q_lw (M q)))), (0, .ref (gad G 169)), (1, .ref (gad G q))]) hx hb dX6_layRow_28 rfl hl (by decide) rfl (fun ls hl => ?_)
    have L_29 : ∀ (n_29 : Nat) (j : Nat) (x_s : Int) (x_w : Int) (Mj : Nat → Nat → Int), (x_w = (q_ord (M q) j).2.2) → ((j : Int) ≤ q_nd (M q)) → ((q_ord (M q) j).2.1 = j) → ((∀ k : Nat, k < j → Mj 177 k = (q_ord (M q) j).1 k)) → (Mj 169 12 = (j : Int)) → ((∀ a, a ≠ 169 → a ≠ 177 → Mj a = M a)) → ((∀ b : Nat, b ≠ 12 → Mj 169 b = M 169 b)) → ((x_s = 0 ∨ (x_s = 2 ∧ (q_nx (M q) (fun i => q_inr (q_ord (M q) j).1 (i : Int) j) 0 (q_ord (M q) j).2.2) = -9) ∨ (x_s = 4 ∧ (q_stp (M q) (q_ord (M q) j).1 j (q_ord (M q) j).2.2) = -9))) → (6 - x_s).toNat < n_29 → ∀ (H : Heap) (locs : List Loc) (ls : Array Slot), gH G Mj s H locs → lv_has ls 5 [(3, .int (iZ x_s)), (2, .int (iZ x_w)), (0, .ref (gad G 169)), (1, .ref (gad G q))] → W p l e ({ frames := 3, cells := 0, slots := 0, locals := 68 } : Room) s m [.ref (gad G 169), .ref (gad G q)].toArray below meth c H locs 0 0 (MQ below (va_Qv (fun (u : Nat → Nat → Int) => (fun M1 => M1 169 12 = (q_orn (M q) : Int) ∧ (∀ k : Nat, k < q_orn (M q) → M1 177 k = q_orf (M q) k) ∧ (∀ a, a ≠ 169 → a ≠ 177 → M1 a = M a) ∧ ∀ b : Nat, b ≠ 12 → M1 169 b = M 169 b) u) (fun u U => gB G u U) (gA G)) [.ref (gad G 169), .ref (gad G q)].toArray s 0 0 (gA G)) (F0 m 29 ls []) := by
      intro n_29
      induction n_29 with
      | zero => intro j x_s x_w Mj he_x_w hj hln hrow hl2 hoa hob hph hm_29; exact absurd hm_29 (Nat.not_lt_zero _)
      | succ n_29 ih_29 =>
        intro j x_s x_w Mj he_x_w hj hln hrow hl2 hoa hob hph hm_29 H locs ls hG hl
        subst he_x_w
        have hqn : q ≠ 169 ∧ q ≠ 177 := by rcases hP with h | h | h <;> omega
        have hpq : Mj q = M q := hoa q hqn.1 hqn.2
        have hIj : q_inv (Mj q) := by rw [hpq]; exact hI
        have hor := q_ord_ok (M q) hI.1.1 j
        have hrj : ∀ k, k < j → -9 ≤ Mj 177 k ∧ Mj 177 k < 100 := fun k hk => by have h9 := hor.2.1 k (by omega); rw [hrow k hk]; omega
        have how := q_ord_ow hI j
        have hxs : x_s = 0 ∨ x_s = 2 ∨ x_s = 4 := by rcases hph with h | h | h <;> omega
        refine lv_iload_n hx hb dX6_layRow_29 rfl (lv_at hl 0 rfl) ?_
        refine lv_iconst (v := iZ 2) hx hb dX6_layRow_30 rfl ?_
        refine z_icmp_gt (tgt := 97) hx hb (by omega) (by decide) dX6_layRow_31 (by decide) (fun c_31 => ?_) (fun c_31 => ?_)
        · skip
          have hst0 : (q_stp (M q) (q_ord (M q) j).1 j (q_ord (M q) j).2.2) = -9 := by rcases hph with h | h | h; omega; omega; exact h.2
          have hstay : q_ord (M q) (q_nd (M q)).toNat = q_ord (M q) j := by have h9 := q_ord_stay (R := M q) (k := j) (by rw [hln]; exact hst0) ((q_nd (M q)).toNat - j); rw [show j + ((q_nd (M q)).toNat - j) = (q_nd (M q)).toNat by omega] at h9; exact h9
          exact g_vret hx hb hr hG hlocks (⟨by unfold q_orn; rw [hstay, hln]; exact hl2, fun k hk => by unfold q_orf; unfold q_orn at hk; rw [hstay] at hk ⊢; exact hrow k (by omega), hoa, hob⟩) dX6_layRow_97
        · skip
          refine lv_aload_n hx hb dX6_layRow_34 rfl (lv_at hl 2 rfl) ?_
          refine lv_aload_n hx hb dX6_layRow_35 rfl (lv_at hl 3 rfl) ?_
          refine lv_iload_n hx hb dX6_layRow_36 rfl (lv_at hl 0 rfl) ?_
          refine lv_iload_n hx hb dX6_layRow_37 rfl (lv_at hl 1 rfl) ?_
          refine g_callV (b := 169) (As := [.ref (gad G q), .int (iZ x_s), .int (iZ (q_ord (M q) j).2.2)]) (rest := []) ⟨hx, hb, hml, hown, hts⟩ (c_X6_nextOf l G Mj hdm q hP hIj j (by omega) hl2 hrj x_s (q_ord (M q) j).2.2 (by omega) (by omega)) (cwV 3 hts gX6_layRow_X6_nextOf rfl rfl rfl (by decide +kernel) ⟨Nat.le_of_ble_eq_true rfl, Nat.le_of_ble_eq_true rfl⟩) hG (g_recv hG (b := 169) (hdm 169 (by decide)) rfl rfl) rfl hl.1 rfl (Nat.le_of_ble_eq_true rfl) dX6_layRow_38 ⟨Nat.zero_le _, Nat.zero_le _⟩ (fun z4 M5 H locs hp_38 hG => ?_)
          obtain ⟨hz_38, hM_38⟩ := hp_38; replace hz_38 := hz_38.symm; subst hz_38; replace hM_38 := hM_38.symm; subst hM_38
          have hv9 : q_nx (Mj q) (fun i => q_inr (Mj 177) i j) x_s (q_ord (M q) j).2.2 = (q_nx (M q) (fun i => q_inr (q_ord (M q) j).1 (i : Int) j) x_s (q_ord (M q) j).2.2) := by rw [hpq]; exact q_nx_congr (fun i hi => q_inr_congr i (fun k hk => hrow k hk))
          rw [hv9]
          refine lv_istore (lv' := [(4, .int (iZ (q_nx (M q) (fun i => q_inr (q_ord (M q) j).1 (i : Int) j) x_s (q_ord (M q) j).2.2))), (3, .int (iZ x_s)), (2, .int (iZ (q_ord (M q) j).2.2)), (0, .ref (gad G 169)), (1, .ref (gad G q))]) hx hb dX6_layRow_41 hl (by decide) rfl (fun ls hl => ?_)
          have L_43 : ∀ (n_43 : Nat) (j : Nat) (x_v : Int) (x_w : Int) (Mj : Nat → Nat → Int), (x_v = (q_nx (M q) (fun i => q_inr (q_ord (M q) j).1 (i : Int) j) x_s (q_ord (M q) j).2.2)) → (x_w = (q_ord (M q) j).2.2) → ((j : Int) ≤ q_nd (M q)) → ((q_ord (M q) j).2.1 = j) → ((∀ k : Nat, k < j → Mj 177 k = (q_ord (M q) j).1 k)) → (Mj 169 12 = (j : Int)) → ((∀ a, a ≠ 169 → a ≠ 177 → Mj a = M a)) → ((∀ b : Nat, b ≠ 12 → Mj 169 b = M 169 b)) → ((x_s = 0 ∨ x_s = 2)) → ((x_s = 2 → (q_nx (M q) (fun i => q_inr (q_ord (M q) j).1 (i : Int) j) 0 (q_ord (M q) j).2.2) = -9)) → 13 - j < n_43 → ∀ (H : Heap) (locs : List Loc) (ls : Array Slot), gH G Mj s H locs → lv_has ls 5 [(4, .int (iZ x_v)), (3, .int (iZ x_s)), (2, .int (iZ x_w)), (0, .ref (gad G 169)), (1, .ref (gad G q))] → W p l e ({ frames := 3, cells := 0, slots := 0, locals := 68 } : Room) s m [.ref (gad G 169), .ref (gad G q)].toArray below meth c H locs 0 0 (MQ below (va_Qv (fun (u : Nat → Nat → Int) => (fun M1 => M1 169 12 = (q_orn (M q) : Int) ∧ (∀ k : Nat, k < q_orn (M q) → M1 177 k = q_orf (M q) k) ∧ (∀ a, a ≠ 169 → a ≠ 177 → M1 a = M a) ∧ ∀ b : Nat, b ≠ 12 → M1 169 b = M 169 b) u) (fun u U => gB G u U) (gA G)) [.ref (gad G 169), .ref (gad G q)].toArray s 0 0 (gA G)) (F0 m 43 ls []) := by
            intro n_43
            induction n_43 with
            | zero => intro j x_v x_w Mj he_x_v he_x_w hj hln hrow hl2 hoa hob hs2 hz2 hm_43; exact absurd hm_43 (Nat.not_lt_zero _)
            | succ n_43 ih_43 =>
              intro j x_v x_w Mj he_x_v he_x_w hj hln hrow hl2 hoa hob hs2 hz2 hm_43 H locs ls hG hl
              subst he_x_v
              subst he_x_w
              have hqn : q ≠ 169 ∧ q ≠ 177 := by rcases hP with h | h | h <;> omega
              have hpq : Mj q = M q := hoa q hqn.1 hqn.2
              have hIj : q_inv (Mj q) := by rw [hpq]; exact hI
              have hor := q_ord_ok (M q) hI.1.1 j
              have hrj : ∀ k, k < j → -9 ≤ Mj 177 k ∧ Mj 177 k < 100 := fun k hk => by have h9 := hor.2.1 k (by omega); rw [hrow k hk]; omega
              have how := q_ord_ow hI j
              have hnr := q_nx_rg (R := M q) (pl := (fun i => q_inr (q_ord (M q) j).1 (i : Int) j)) (st := x_s) (o := (q_ord (M q) j).2.2)
              refine lv_iload hx hb dX6_layRow_43 (lv_at hl 0 rfl) ?_
              refine lv_bipush (v := iZ (-9)) hx hb dX6_layRow_45 (by decide) ?_
              refine z_icmp_eq (tgt := 91) hx hb (by omega) (by decide) dX6_layRow_47 (by decide) (fun c_47 => ?_) (fun c_47 => ?_)
              · skip
                refine z_iinc (z := (x_s + 2)) (lv' := [(3, .int (iZ (x_s + 2))), (4, .int (iZ (q_nx (M q) (fun i => q_inr (q_ord (M q) j).1 (i : Int) j) x_s (q_ord (M q) j).2.2))), (2, .int (iZ (q_ord (M q) j).2.2)), (0, .ref (gad G 169)), (1, .ref (gad G q))]) hx hb dX6_layRow_91 hl (k := 1) rfl (by omega) (by decide) rfl (fun ls hl => ?_)
                refine lv_goto (tgt := 29) hx hb dX6_layRow_94 (by decide) ?_
                have hph2 : (x_s + 2 = 0 ∨ (x_s + 2 = 2 ∧ (q_nx (M q) (fun i => q_inr (q_ord (M q) j).1 (i : Int) j) 0 (q_ord (M q) j).2.2) = -9) ∨ (x_s + 2 = 4 ∧ (q_stp (M q) (q_ord (M q) j).1 j (q_ord (M q) j).2.2) = -9)) := by
                  rcases hs2 with h9 | h9
                  · subst h9; exact Or.inr (Or.inl ⟨rfl, by omega⟩)
                  · subst h9; refine Or.inr (Or.inr ⟨rfl, ?_⟩); unfold q_stp; rw [if_pos (hz2 rfl)]; omega
                exact ih_29 j (x_s + 2) ((q_ord (M q) j).2.2) Mj rfl (by omega) hln hrow hl2 hoa hob hph2 (by omega) _ _ _ hG (lv_sub hl [0, 2, 3, 4] rfl)
              · skip
                have hsv : (q_stp (M q) (q_ord (M q) j).1 j (q_ord (M q) j).2.2) = (q_nx (M q) (fun i => q_inr (q_ord (M q) j).1 (i : Int) j) x_s (q_ord (M q) j).2.2) := q_stp_of hs2 hz2 (by omega)
                have hroom : (j : Int) < q_nd (M q) := by have h9 := q_ord_room hI.1.1 (k := j) (by rw [hln, hsv]; omega); omega
                have hox := q_ord_next (R := M q) (k := j) (x := (q_nx (M q) (fun i => q_inr (q_ord (M q) j).1 (i : Int) j) x_s (q_ord (M q) j).2.2)) (by rw [hln]; exact hsv) (by omega)
                rw [hln] at hox
                refine lv_aload_n hx hb dX6_layRow_50 rfl (lv_at hl 3 rfl) ?_
                refine g_get hx hb hts hinX6 hown hG (o := 169) (hdm 169 (by decide)) rfl rfl 11 (by decide) f32 (fun _ h => h) rfl dX6_layRow_51 ?_
                refine lv_aload_n hx hb dX6_layRow_54 rfl (lv_at hl 3 rfl) ?_
                refine g_geti (z := (Mj 169 12)) hx hb hts hinX6 hown hG (o := 169) (hdm 169 (by decide)) rfl rfl 12 (by decide) f78 (fun _ h => h) rfl rfl dX6_layRow_55 ?_
                refine lv_iload hx hb dX6_layRow_58 (lv_at hl 0 rfl) ?_
                refine g_iast (j := j) hx hb hG (o := 177) (hdm 177 (by decide)) (fun f => rfl) (by omega) (by omega) (by omega) dX6_layRow_60 (fun H locs hG => ?_)
                obtain ⟨M6, hM6⟩ : ∃ X, X = (q_wr Mj 177 j (q_nx (M q) (fun i => q_inr (q_ord (M q) j).1 (i : Int) j) x_s (q_ord (M q) j).2.2)) := ⟨_, rfl⟩
                rw [← hM6] at hG
                refine lv_aload_n hx hb dX6_layRow_61 rfl (lv_at hl 3 rfl) ?_
                refine lv_dup hx hb dX6_layRow_62 rfl ?_
                refine g_geti (z := (j : Int)) hx hb hts hinX6 hown hG (o := 169) (hdm 169 (by decide)) rfl rfl 12 (by decide) f78 (fun _ h => h) rfl (by rw [hM6, wr_off _ _ _ (by omega)]; exact hl2) dX6_layRow_63 ?_
                refine lv_iconst (v := iZ 1) hx hb dX6_layRow_66 rfl ?_
                refine z_iadd (z := ((j : Int) + 1)) hx hb (by omega) dX6_layRow_67 ?_
                refine g_put (F := (oR G)) hx hb hts hinX6 tyX6 tyX6_ok nmX6 hown hG (o := 169) (hdm 169 (by decide)) (fun f => rfl) rfl 12 (by decide) f78 (fun _ h => h) rfl rfl (fun _ => Nat.lt_of_lt_of_le (by decide) (Nat.le_refl 13)) (fun _ => rfl) dX6_layRow_68 (fun H locs hG => ?_)
                obtain ⟨M7, hM7⟩ : ∃ X, X = (q_wr M6 169 12 ((j : Int) + 1)) := ⟨_, rfl⟩
                rw [← hM7] at hG
                refine lv_aload_n hx hb dX6_layRow_71 rfl (lv_at hl 4 rfl) ?_
                refine lv_iload hx hb dX6_layRow_72 (lv_at hl 0 rfl) ?_
                refine g_callS (As := [.int (iZ (q_nx (M q) (fun i => q_inr (q_ord (M q) j).1 (i : Int) j) x_s (q_ord (M q) j).2.2))]) (rest := [.ref (gad G q)]) ⟨hx, hb, hml, hown, hts⟩ (c_X6_dogAt l G M7 (q_nx (M q) (fun i => q_inr (q_ord (M q) j).1 (i : Int) j) x_s (q_ord (M q) j).2.2)) (va_cwS 1 hts gX6_layRow_X6_dogAt rfl rfl rfl (by decide +kernel) ⟨Nat.le_of_ble_eq_true rfl, Nat.le_of_ble_eq_true rfl⟩) hG rfl hl.1 rfl (Nat.le_of_ble_eq_true rfl) dX6_layRow_74 ⟨Nat.zero_le _, Nat.zero_le _⟩ (fun z8 M9 H locs hp_74 hG => ?_)
                obtain ⟨hz_74, hM_74⟩ := hp_74; replace hz_74 := hz_74.symm; subst hz_74; replace hM_74 := hM_74.symm; subst hM_74
                rw [show (14 + 11 * (q_nx (M q) (fun i => q_inr (q_ord (M q) j).1 (i : Int) j) x_s (q_ord (M q) j).2.2) : Int) = (11 * (q_nx (M q) (fun i => q_inr (q_ord (M q) j).1 (i : Int) j) x_s (q_ord (M q) j).2.2) + 14) from by omega]
                refine g_iald (z := (q_ow (M q) (q_nx (M q) (fun i => q_inr (q_ord (M q) j).1 (i : Int) j) x_s (q_ord (M q) j).2.2).toNat)) (j := (14 + 11 * (q_nx (M q) (fun i => q_inr (q_ord (M q) j).1 (i : Int) j) x_s (q_ord (M q) j).2.2).toNat)) hx hb hG (o := q) hdp_q (gE_P hP G _) (by omega) (by omega) (by omega) (by rw [hM7, wr_off _ _ _ hqn.1, hM6, wr_off _ _ _ hqn.2, hpq]; rfl) dX6_layRow_77 ?_
                refine lv_istore_n (lv' := [(2, .int (iZ (q_ow (M q) (q_nx (M q) (fun i => q_inr (q_ord (M q) j).1 (i : Int) j) x_s (q_ord (M q) j).2.2).toNat))), (4, .int (iZ (q_nx (M q) (fun i => q_inr (q_ord (M q) j).1 (i : Int) j) x_s (q_ord (M q) j).2.2))), (3, .int (iZ x_s)), (0, .ref (gad G 169)), (1, .ref (gad G q))]) hx hb dX6_layRow_78 rfl hl (by decide) rfl (fun ls hl => ?_)
                have hlj : (q_ord (M q) (j + 1)).2.1 = j + 1 := by rw [hox]
                have hoq : (q_ord (M q) (j + 1)).2.2 = q_ow (M q) (q_nx (M q) (fun i => q_inr (q_ord (M q) j).1 (i : Int) j) x_s (q_ord (M q) j).2.2).toNat := by rw [hox]
                have hrow2 : ∀ k : Nat, k < j + 1 → M7 177 k = (q_ord (M q) (j + 1)).1 k := fun k hk => by rw [hox]; show M7 177 k = q_up (q_ord (M q) j).1 j (q_nx (M q) (fun i => q_inr (q_ord (M q) j).1 (i : Int) j) x_s (q_ord (M q) j).2.2) k; rw [hM7, wr_off _ _ _ (by omega), hM6, wr_ap]; by_cases e8 : k = j; (subst e8; rw [up_eq, if_pos ⟨rfl, rfl⟩]); (rw [up_ne _ _ e8, if_neg (fun h => e8 h.2)]; exact hrow k (by omega))
                have hl22 : M7 169 12 = ((j + 1 : Nat) : Int) := by rw [hM7, wr_eq]; omega
                have hoa2 : ∀ a, a ≠ 169 → a ≠ 177 → M7 a = M a := fun a h1 h2 => by rw [hM7, wr_off _ _ _ h1, hM6, wr_off _ _ _ h2]; exact hoa a h1 h2
                have hob2 : ∀ b : Nat, b ≠ 12 → M7 169 b = M 169 b := fun b h1 => by rw [hM7, wr_ne _ _ _ h1, hM6, wr_off _ _ _ (by omega)]; exact hob b h1
                have hpq2 : M7 q = M q := hoa2 q hqn.1 hqn.2
                have hIj2 : q_inv (M7 q) := by rw [hpq2]; exact hI
                have hor2 := q_ord_ok (M q) hI.1.1 (j + 1)
                have hrj2 : ∀ k, k < j + 1 → -9 ≤ M7 177 k ∧ M7 177 k < 100 := fun k hk => by have h9 := hor2.2.1 k (by omega); rw [hrow2 k hk]; omega
                have how2 := q_ord_ow hI (j + 1)
                have hz22 : x_s = 2 → q_nx (M q) (fun i => q_inr (q_ord (M q) (j + 1)).1 (i : Int) (j + 1)) 0 (q_ord (M q) (j + 1)).2.2 = -9 := fun h => q_nx_keep (f := (q_ord (M q) j).1) (x := (q_nx (M q) (fun i => q_inr (q_ord (M q) j).1 (i : Int) j) x_s (q_ord (M q) j).2.2)) (fun i => by rw [hox]; exact q_inr_up i) (hz2 h)
                skip
                refine lv_aload_n hx hb dX6_layRow_79 rfl (lv_at hl 3 rfl) ?_
                refine lv_aload_n hx hb dX6_layRow_80 rfl (lv_at hl 4 rfl) ?_
                refine lv_iload_n hx hb dX6_layRow_81 rfl (lv_at hl 2 rfl) ?_
                refine lv_iload_n hx hb dX6_layRow_82 rfl (lv_at hl 0 rfl) ?_
                refine g_callV (b := 169) (As := [.ref (gad G q), .int (iZ x_s), .int (iZ (q_ow (M q) (q_nx (M q) (fun i => q_inr (q_ord (M q) j).1 (i : Int) j) x_s (q_ord (M q) j).2.2).toNat))]) (rest := []) ⟨hx, hb, hml, hown, hts⟩ (c_X6_nextOf l G M7 hdm q hP hIj2 (j + 1) (by omega) hl22 hrj2 x_s (q_ow (M q) (q_nx (M q) (fun i => q_inr (q_ord (M q) j).1 (i : Int) j) x_s (q_ord (M q) j).2.2).toNat) (by omega) (by omega)) (cwV 3 hts gX6_layRow_X6_nextOf rfl rfl rfl (by decide +kernel) ⟨Nat.le_of_ble_eq_true rfl, Nat.le_of_ble_eq_true rfl⟩) hG (g_recv hG (b := 169) (hdm 169 (by decide)) rfl rfl) rfl hl.1 rfl (Nat.le_of_ble_eq_true rfl) dX6_layRow_83 ⟨Nat.zero_le _, Nat.zero_le _⟩ (fun z10 M11 H locs hp_83 hG => ?_)
                obtain ⟨hz_83, hM_83⟩ := hp_83; replace hz_83 := hz_83.symm; subst hz_83; replace hM_83 := hM_83.symm; subst hM_83
                have hv10 : q_nx (M7 q) (fun i => q_inr (M7 177) i (j + 1)) x_s (q_ow (M q) (q_nx (M q) (fun i => q_inr (q_ord (M q) j).1 (i : Int) j) x_s (q_ord (M q) j).2.2).toNat) = (q_nx (M q) (fun i => q_inr (q_ord (M q) (j + 1)).1 (i : Int) (j + 1)) x_s (q_ord (M q) (j + 1)).2.2) := by rw [hpq2, hoq]; exact q_nx_congr (fun i hi => q_inr_congr i (fun k hk => hrow2 k hk))
                rw [hv10]
                refine lv_istore (lv' := [(4, .int (iZ (q_nx (M q) (fun i => q_inr (q_ord (M q) (j + 1)).1 (i : Int) (j + 1)) x_s (q_ord (M q) (j + 1)).2.2))), (2, .int (iZ (q_ow (M q) (q_nx (M q) (fun i => q_inr (q_ord (M q) j).1 (i : Int) j) x_s (q_ord (M q) j).2.2).toNat))), (3, .int (iZ x_s)), (0, .ref (gad G 169)), (1, .ref (gad G q))]) hx hb dX6_layRow_86 hl (by decide) rfl (fun ls hl => ?_)
                refine lv_goto (tgt := 43) hx hb dX6_layRow_88 (by decide) ?_
                exact ih_43 (j + 1) (q_nx (M q) (fun i => q_inr (q_ord (M q) (j + 1)).1 (i : Int) (j + 1)) x_s (q_ord (M q) (j + 1)).2.2) (q_ow (M q) (q_nx (M q) (fun i => q_inr (q_ord (M q) j).1 (i : Int) j) x_s (q_ord (M q) j).2.2).toNat) M7 rfl (by rw [hox]) (by omega) hlj hrow2 hl22 hoa2 hob2 hs2 hz22 (by omega) _ _ _ hG (lv_sub hl [0, 2, 1, 3, 4] rfl)
          exact L_43 _ j (q_nx (M q) (fun i => q_inr (q_ord (M q) j).1 (i : Int) j) x_s (q_ord (M q) j).2.2) ((q_ord (M q) j).2.2) Mj rfl rfl (by omega) hln hrow hl2 hoa hob (by omega) (fun h => by rcases hph with h9 | h9 | h9; omega; exact h9.2; omega) (Nat.lt_succ_self _) _ _ _ hG (lv_sub hl [0, 1, 2, 3, 4] rfl)
    exact L_29 _ 0 0 (q_lw (M q)) M1 rfl (by omega) rfl (fun k h => absurd h (Nat.not_lt_zero _)) (by rw [hM1, wr_eq]; rfl) (fun a h1 h2 => by rw [hM1, wr_off _ _ _ h1]) (fun b hb9 => by rw [hM1, wr_ne _ _ _ hb9]) (Or.inl rfl) (Nat.lt_succ_self _) _ _ _ hG (lv_sub hl [0, 1, 2, 3] rfl)
  · skip
    refine lv_bipush (v := iZ (-9)) hx hb dX6_layRow_13 (by decide) ?_
    refine lv_goto (tgt := 26) hx hb dX6_layRow_15 (by decide) ?_
    rw [show (-9) = q_lw (M q) from by unfold q_lw; first | (rw [if_neg (by omega)]; done) | (rw [if_pos (by omega)]; done)]
    skip
    refine lv_istore_n (lv' := [(2, .int (iZ (q_lw (M q)))), (0, .ref (gad G 169)), (1, .ref (gad G q))]) hx hb dX6_layRow_26 rfl hl (by decide) rfl (fun ls hl => ?_)
    refine lv_iconst (v := iZ 0) hx hb dX6_layRow_27 rfl ?_
    refine lv_istore_n (lv' := [(3, .int (iZ 0)), (2, .int (iZ (q_lw (M q)))), (0, .ref (gad G 169)), (1, .ref (gad G q))]) hx hb dX6_layRow_28 rfl hl (by decide) rfl (fun ls hl => ?_)
    have L_29 : ∀ (n_29 : Nat) (j : Nat) (x_s : Int) (x_w : Int) (Mj : Nat → Nat → Int), (x_w = (q_ord (M q) j).2.2) → ((j : Int) ≤ q_nd (M q)) → ((q_ord (M q) j).2.1 = j) → ((∀ k : Nat, k < j → Mj 177 k = (q_ord (M q) j).1 k)) → (Mj 169 12 = (j : Int)) → ((∀ a, a ≠ 169 → a ≠ 177 → Mj a = M a)) → ((∀ b : Nat, b ≠ 12 → Mj 169 b = M 169 b)) → ((x_s = 0 ∨ (x_s = 2 ∧ (q_nx (M q) (fun i => q_inr (q_ord (M q) j).1 (i : Int) j) 0 (q_ord (M q) j).2.2) = -9) ∨ (x_s = 4 ∧ (q_stp (M q) (q_ord (M q) j).1 j (q_ord (M q) j).2.2) = -9))) → (6 - x_s).toNat < n_29 → ∀ (H : Heap) (locs : List Loc) (ls : Array Slot), gH G Mj s H locs → lv_has ls 5 [(3, .int (iZ x_s)), (2, .int (iZ x_w)), (0, .ref (gad G 169)), (1, .ref (gad G q))] → W p l e ({ frames := 3, cells := 0, slots := 0, locals := 68 } : Room) s m [.ref (gad G 169), .ref (gad G q)].toArray below meth c H locs 0 0 (MQ below (va_Qv (fun (u : Nat → Nat → Int) => (fun M1 => M1 169 12 = (q_orn (M q) : Int) ∧ (∀ k : Nat, k < q_orn (M q) → M1 177 k = q_orf (M q) k) ∧ (∀ a, a ≠ 169 → a ≠ 177 → M1 a = M a) ∧ ∀ b : Nat, b ≠ 12 → M1 169 b = M 169 b) u) (fun u U => gB G u U) (gA G)) [.ref (gad G 169), .ref (gad G q)].toArray s 0 0 (gA G)) (F0 m 29 ls []) := by
      intro n_29
      induction n_29 with
      | zero => intro j x_s x_w Mj he_x_w hj hln hrow hl2 hoa hob hph hm_29; exact absurd hm_29 (Nat.not_lt_zero _)
      | succ n_29 ih_29 =>
        intro j x_s x_w Mj he_x_w hj hln hrow hl2 hoa hob hph hm_29 H locs ls hG hl
        subst he_x_w
        have hqn : q ≠ 169 ∧ q ≠ 177 := by rcases hP with h | h | h <;> omega
        have hpq : Mj q = M q := hoa q hqn.1 hqn.2
        have hIj : q_inv (Mj q) := by rw [hpq]; exact hI
        have hor := q_ord_ok (M q) hI.1.1 j
        have hrj : ∀ k, k < j → -9 ≤ Mj 177 k ∧ Mj 177 k < 100 := fun k hk => by have h9 := hor.2.1 k (by omega); rw [hrow k hk]; omega
        have how := q_ord_ow hI j
        have hxs : x_s = 0 ∨ x_s = 2 ∨ x_s = 4 := by rcases hph with h | h | h <;> omega
        refine lv_iload_n hx hb dX6_layRow_29 rfl (lv_at hl 0 rfl) ?_
        refine lv_iconst (v := iZ 2) hx hb dX6_layRow_30 rfl ?_
        refine z_icmp_gt (tgt := 97) hx hb (by omega) (by decide) dX6_layRow_31 (by decide) (fun c_31 => ?_) (fun c_31 => ?_)
        · skip
          have hst0 : (q_stp (M q) (q_ord (M q) j).1 j (q_ord (M q) j).2.2) = -9 := by rcases hph with h | h | h; omega; omega; exact h.2
          have hstay : q_ord (M q) (q_nd (M q)).toNat = q_ord (M q) j := by have h9 := q_ord_stay (R := M q) (k := j) (by rw [hln]; exact hst0) ((q_nd (M q)).toNat - j); rw [show j + ((q_nd (M q)).toNat - j) = (q_nd (M q)).toNat by omega] at h9; exact h9
          exact g_vret hx hb hr hG hlocks (⟨by unfold q_orn; rw [hstay, hln]; exact hl2, fun k hk => by unfold q_orf; unfold q_orn at hk; rw [hstay] at hk ⊢; exact hrow k (by omega), hoa, hob⟩) dX6_layRow_97
        · skip
          refine lv_aload_n hx hb dX6_layRow_34 rfl (lv_at hl 2 rfl) ?_
          refine lv_aload_n hx hb dX6_layRow_35 rfl (lv_at hl 3 rfl) ?_
          refine lv_iload_n hx hb dX6_layRow_36 rfl (lv_at hl 0 rfl) ?_
          refine lv_iload_n hx hb dX6_layRow_37 rfl (lv_at hl 1 rfl) ?_
          refine g_callV (b := 169) (As := [.ref (gad G q), .int (iZ x_s), .int (iZ (q_ord (M q) j).2.2)]) (rest := []) ⟨hx, hb, hml, hown, hts⟩ (c_X6_nextOf l G Mj hdm q hP hIj j (by omega) hl2 hrj x_s (q_ord (M q) j).2.2 (by omega) (by omega)) (cwV 3 hts gX6_layRow_X6_nextOf rfl rfl rfl (by decide +kernel) ⟨Nat.le_of_ble_eq_true rfl, Nat.le_of_ble_eq_true rfl⟩) hG (g_recv hG (b := 169) (hdm 169 (by decide)) rfl rfl) rfl hl.1 rfl (Nat.le_of_ble_eq_true rfl) dX6_layRow_38 ⟨Nat.zero_le _, Nat.zero_le _⟩ (fun z12 M13 H locs hp_38 hG => ?_)
          obtain ⟨hz_38, hM_38⟩ := hp_38; replace hz_38 := hz_38.symm; subst hz_38; replace hM_38 := hM_38.symm; subst hM_38
          have hv9 : q_nx (Mj q) (fun i => q_inr (Mj 177) i j) x_s (q_ord (M q) j).2.2 = (q_nx (M q) (fun i => q_inr (q_ord (M q) j).1 (i : Int) j) x_s (q_ord (M q) j).2.2) := by rw [hpq]; exact q_nx_congr (fun i hi => q_inr_congr i (fun k hk => hrow k hk))
          rw [hv9]
          refine lv_istore (lv' := [(4, .int (iZ (q_nx (M q) (fun i => q_inr (q_ord (M q) j).1 (i : Int) j) x_s (q_ord (M q) j).2.2))), (3, .int (iZ x_s)), (2, .int (iZ (q_ord (M q) j).2.2)), (0, .ref (gad G 169)), (1, .ref (gad G q))]) hx hb dX6_layRow_41 hl (by decide) rfl (fun ls hl => ?_)
          have L_43 : ∀ (n_43 : Nat) (j : Nat) (x_v : Int) (x_w : Int) (Mj : Nat → Nat → Int), (x_v = (q_nx (M q) (fun i => q_inr (q_ord (M q) j).1 (i : Int) j) x_s (q_ord (M q) j).2.2)) → (x_w = (q_ord (M q) j).2.2) → ((j : Int) ≤ q_nd (M q)) → ((q_ord (M q) j).2.1 = j) → ((∀ k : Nat, k < j → Mj 177 k = (q_ord (M q) j).1 k)) → (Mj 169 12 = (j : Int)) → ((∀ a, a ≠ 169 → a ≠ 177 → Mj a = M a)) → ((∀ b : Nat, b ≠ 12 → Mj 169 b = M 169 b)) → ((x_s = 0 ∨ x_s = 2)) → ((x_s = 2 → (q_nx (M q) (fun i => q_inr (q_ord (M q) j).1 (i : Int) j) 0 (q_ord (M q) j).2.2) = -9)) → 13 - j < n_43 → ∀ (H : Heap) (locs : List Loc) (ls : Array Slot), gH G Mj s H locs → lv_has ls 5 [(4, .int (iZ x_v)), (3, .int (iZ x_s)), (2, .int (iZ x_w)), (0, .ref (gad G 169)), (1, .ref (gad G q))] → W p l e ({ frames := 3, cells := 0, slots := 0, locals := 68 } : Room) s m [.ref (gad G 169), .ref (gad G q)].toArray below meth c H locs 0 0 (MQ below (va_Qv (fun (u : Nat → Nat → Int) => (fun M1 => M1 169 12 = (q_orn (M q) : Int) ∧ (∀ k : Nat, k < q_orn (M q) → M1 177 k = q_orf (M q) k) ∧ (∀ a, a ≠ 169 → a ≠ 177 → M1 a = M a) ∧ ∀ b : Nat, b ≠ 12 → M1 169 b = M 169 b) u) (fun u U => gB G u U) (gA G)) [.ref (gad G 169), .ref (gad G q)].toArray s 0 0 (gA G)) (F0 m 43 ls []) := by
            intro n_43
            induction n_43 with
            | zero => intro j x_v x_w Mj he_x_v he_x_w hj hln hrow hl2 hoa hob hs2 hz2 hm_43; exact absurd hm_43 (Nat.not_lt_zero _)
            | succ n_43 ih_43 =>
              intro j x_v x_w Mj he_x_v he_x_w hj hln hrow hl2 hoa hob hs2 hz2 hm_43 H locs ls hG hl
              subst he_x_v
              subst he_x_w
              have hqn : q ≠ 169 ∧ q ≠ 177 := by rcases hP with h | h | h <;> omega
              have hpq : Mj q = M q := hoa q hqn.1 hqn.2
              have hIj : q_inv (Mj q) := by rw [hpq]; exact hI
              have hor := q_ord_ok (M q) hI.1.1 j
              have hrj : ∀ k, k < j → -9 ≤ Mj 177 k ∧ Mj 177 k < 100 := fun k hk => by have h9 := hor.2.1 k (by omega); rw [hrow k hk]; omega
              have how := q_ord_ow hI j
              have hnr := q_nx_rg (R := M q) (pl := (fun i => q_inr (q_ord (M q) j).1 (i : Int) j)) (st := x_s) (o := (q_ord (M q) j).2.2)
              refine lv_iload hx hb dX6_layRow_43 (lv_at hl 0 rfl) ?_
              refine lv_bipush (v := iZ (-9)) hx hb dX6_layRow_45 (by decide) ?_
              refine z_icmp_eq (tgt := 91) hx hb (by omega) (by decide) dX6_layRow_47 (by decide) (fun c_47 => ?_) (fun c_47 => ?_)
              · skip
                refine z_iinc (z := (x_s + 2)) (lv' := [(3, .int (iZ (x_s + 2))), (4, .int (iZ (q_nx (M q) (fun i => q_inr (q_ord (M q) j).1 (i : Int) j) x_s (q_ord (M q) j).2.2))), (2, .int (iZ (q_ord (M q) j).2.2)), (0, .ref (gad G 169)), (1, .ref (gad G q))]) hx hb dX6_layRow_91 hl (k := 1) rfl (by omega) (by decide) rfl (fun ls hl => ?_)
                refine lv_goto (tgt := 29) hx hb dX6_layRow_94 (by decide) ?_
                have hph2 : (x_s + 2 = 0 ∨ (x_s + 2 = 2 ∧ (q_nx (M q) (fun i => q_inr (q_ord (M q) j).1 (i : Int) j) 0 (q_ord (M q) j).2.2) = -9) ∨ (x_s + 2 = 4 ∧ (q_stp (M q) (q_ord (M q) j).1 j (q_ord (M q) j).2.2) = -9)) := by
                  rcases hs2 with h9 | h9
                  · subst h9; exact Or.inr (Or.inl ⟨rfl, by omega⟩)
                  · subst h9; refine Or.inr (Or.inr ⟨rfl, ?_⟩); unfold q_stp; rw [if_pos (hz2 rfl)]; omega
                exact ih_29 j (x_s + 2) ((q_ord (M q) j).2.2) Mj rfl (by omega) hln hrow hl2 hoa hob hph2 (by omega) _ _ _ hG (lv_sub hl [0, 2, 3, 4] rfl)
              · skip
                have hsv : (q_stp (M q) (q_ord (M q) j).1 j (q_ord (M q) j).2.2) = (q_nx (M q) (fun i => q_inr (q_ord (M q) j).1 (i : Int) j) x_s (q_ord (M q) j).2.2) := q_stp_of hs2 hz2 (by omega)
                have hroom : (j : Int) < q_nd (M q) := by have h9 := q_ord_room hI.1.1 (k := j) (by rw [hln, hsv]; omega); omega
                have hox := q_ord_next (R := M q) (k := j) (x := (q_nx (M q) (fun i => q_inr (q_ord (M q) j).1 (i : Int) j) x_s (q_ord (M q) j).2.2)) (by rw [hln]; exact hsv) (by omega)
                rw [hln] at hox
                refine lv_aload_n hx hb dX6_layRow_50 rfl (lv_at hl 3 rfl) ?_
                refine g_get hx hb hts hinX6 hown hG (o := 169) (hdm 169 (by decide)) rfl rfl 11 (by decide) f32 (fun _ h => h) rfl dX6_layRow_51 ?_
                refine lv_aload_n hx hb dX6_layRow_54 rfl (lv_at hl 3 rfl) ?_
                refine g_geti (z := (Mj 169 12)) hx hb hts hinX6 hown hG (o := 169) (hdm 169 (by decide)) rfl rfl 12 (by decide) f78 (fun _ h => h) rfl rfl dX6_layRow_55 ?_
                refine lv_iload hx hb dX6_layRow_58 (lv_at hl 0 rfl) ?_
                refine g_iast (j := j) hx hb hG (o := 177) (hdm 177 (by decide)) (fun f => rfl) (by omega) (by omega) (by omega) dX6_layRow_60 (fun H locs hG => ?_)
                obtain ⟨M14, hM14⟩ : ∃ X, X = (q_wr Mj 177 j (q_nx (M q) (fun i => q_inr (q_ord (M q) j).1 (i : Int) j) x_s (q_ord (M q) j).2.2)) := ⟨_, rfl⟩
                rw [← hM14] at hG
                refine lv_aload_n hx hb dX6_layRow_61 rfl (lv_at hl 3 rfl) ?_
                refine lv_dup hx hb dX6_layRow_62 rfl ?_
                refine g_geti (z := (j : Int)) hx hb hts hinX6 hown hG (o := 169) (hdm 169 (by decide)) rfl rfl 12 (by decide) f78 (fun _ h => h) rfl (by rw [hM14, wr_off _ _ _ (by omega)]; exact hl2) dX6_layRow_63 ?_
                refine lv_iconst (v := iZ 1) hx hb dX6_layRow_66 rfl ?_
                refine z_iadd (z := ((j : Int) + 1)) hx hb (by omega) dX6_layRow_67 ?_
                refine g_put (F := (oR G)) hx hb hts hinX6 tyX6 tyX6_ok nmX6 hown hG (o := 169) (hdm 169 (by decide)) (fun f => rfl) rfl 12 (by decide) f78 (fun _ h => h) rfl rfl (fun _ => Nat.lt_of_lt_of_le (by decide) (Nat.le_refl 13)) (fun _ => rfl) dX6_layRow_68 (fun H locs hG => ?_)
                obtain ⟨M15, hM15⟩ : ∃ X, X = (q_wr M14 169 12 ((j : Int) + 1)) := ⟨_, rfl⟩
                rw [← hM15] at hG
                refine lv_aload_n hx hb dX6_layRow_71 rfl (lv_at hl 4 rfl) ?_
                refine lv_iload hx hb dX6_layRow_72 (lv_at hl 0 rfl) ?_
                refine g_callS (As := [.int (iZ (q_nx (M q) (fun i => q_inr (q_ord (M q) j).1 (i : Int) j) x_s (q_ord (M q) j).2.2))]) (rest := [.ref (gad G q)]) ⟨hx, hb, hml, hown, hts⟩ (c_X6_dogAt l G M15 (q_nx (M q) (fun i => q_inr (q_ord (M q) j).1 (i : Int) j) x_s (q_ord (M q) j).2.2)) (va_cwS 1 hts gX6_layRow_X6_dogAt rfl rfl rfl (by decide +kernel) ⟨Nat.le_of_ble_eq_true rfl, Nat.le_of_ble_eq_true rfl⟩) hG rfl hl.1 rfl (Nat.le_of_ble_eq_true rfl) dX6_layRow_74 ⟨Nat.zero_le _, Nat.zero_le _⟩ (fun z16 M17 H locs hp_74 hG => ?_)
                obtain ⟨hz_74, hM_74⟩ := hp_74; replace hz_74 := hz_74.symm; subst hz_74; replace hM_74 := hM_74.symm; subst hM_74
                rw [show (14 + 11 * (q_nx (M q) (fun i => q_inr (q_ord (M q) j).1 (i : Int) j) x_s (q_ord (M q) j).2.2) : Int) = (11 * (q_nx (M q) (fun i => q_inr (q_ord (M q) j).1 (i : Int) j) x_s (q_ord (M q) j).2.2) + 14) from by omega]
                refine g_iald (z := (q_ow (M q) (q_nx (M q) (fun i => q_inr (q_ord (M q) j).1 (i : Int) j) x_s (q_ord (M q) j).2.2).toNat)) (j := (14 + 11 * (q_nx (M q) (fun i => q_inr (q_ord (M q) j).1 (i : Int) j) x_s (q_ord (M q) j).2.2).toNat)) hx hb hG (o := q) hdp_q (gE_P hP G _) (by omega) (by omega) (by omega) (by rw [hM15, wr_off _ _ _ hqn.1, hM14, wr_off _ _ _ hqn.2, hpq]; rfl) dX6_layRow_77 ?_
                refine lv_istore_n (lv' := [(2, .int (iZ (q_ow (M q) (q_nx (M q) (fun i => q_inr (q_ord (M q) j).1 (i : Int) j) x_s (q_ord (M q) j).2.2).toNat))), (4, .int (iZ (q_nx (M q) (fun i => q_inr (q_ord (M q) j).1 (i : Int) j) x_s (q_ord (M q) j).2.2))), (3, .int (iZ x_s)), (0, .ref (gad G 169)), (1, .ref (gad G q))]) hx hb dX6_layRow_78 rfl hl (by decide) rfl (fun ls hl => ?_)
                have hlj : (q_ord (M q) (j + 1)).2.1 = j + 1 := by rw [hox]
                have hoq : (q_ord (M q) (j + 1)).2.2 = q_ow (M q) (q_nx (M q) (fun i => q_inr (q_ord (M q) j).1 (i : Int) j) x_s (q_ord (M q) j).2.2).toNat := by rw [hox]
                have hrow2 : ∀ k : Nat, k < j + 1 → M15 177 k = (q_ord (M q) (j + 1)).1 k := fun k hk => by rw [hox]; show M15 177 k = q_up (q_ord (M q) j).1 j (q_nx (M q) (fun i => q_inr (q_ord (M q) j).1 (i : Int) j) x_s (q_ord (M q) j).2.2) k; rw [hM15, wr_off _ _ _ (by omega), hM14, wr_ap]; by_cases e8 : k = j; (subst e8; rw [up_eq, if_pos ⟨rfl, rfl⟩]); (rw [up_ne _ _ e8, if_neg (fun h => e8 h.2)]; exact hrow k (by omega))
                have hl22 : M15 169 12 = ((j + 1 : Nat) : Int) := by rw [hM15, wr_eq]; omega
                have hoa2 : ∀ a, a ≠ 169 → a ≠ 177 → M15 a = M a := fun a h1 h2 => by rw [hM15, wr_off _ _ _ h1, hM14, wr_off _ _ _ h2]; exact hoa a h1 h2
                have hob2 : ∀ b : Nat, b ≠ 12 → M15 169 b = M 169 b := fun b h1 => by rw [hM15, wr_ne _ _ _ h1, hM14, wr_off _ _ _ (by omega)]; exact hob b h1
                have hpq2 : M15 q = M q := hoa2 q hqn.1 hqn.2
                have hIj2 : q_inv (M15 q) := by rw [hpq2]; exact hI
                have hor2 := q_ord_ok (M q) hI.1.1 (j + 1)
                have hrj2 : ∀ k, k < j + 1 → -9 ≤ M15 177 k ∧ M15 177 k < 100 := fun k hk => by have h9 := hor2.2.1 k (by omega); rw [hrow2 k hk]; omega
                have how2 := q_ord_ow hI (j + 1)
                have hz22 : x_s = 2 → q_nx (M q) (fun i => q_inr (q_ord (M q) (j + 1)).1 (i : Int) (j + 1)) 0 (q_ord (M q) (j + 1)).2.2 = -9 := fun h => q_nx_keep (f := (q_ord (M q) j).1) (x := (q_nx (M q) (fun i => q_inr (q_ord (M q) j).1 (i : Int) j) x_s (q_ord (M q) j).2.2)) (fun i => by rw [hox]; exact q_inr_up i) (hz2 h)
                skip
                refine lv_aload_n hx hb dX6_layRow_79 rfl (lv_at hl 3 rfl) ?_
                refine lv_aload_n hx hb dX6_layRow_80 rfl (lv_at hl 4 rfl) ?_
                refine lv_iload_n hx hb dX6_layRow_81 rfl (lv_at hl 2 rfl) ?_
                refine lv_iload_n hx hb dX6_layRow_82 rfl (lv_at hl 0 rfl) ?_
                refine g_callV (b := 169) (As := [.ref (gad G q), .int (iZ x_s), .int (iZ (q_ow (M q) (q_nx (M q) (fun i => q_inr (q_ord (M q) j).1 (i : Int) j) x_s (q_ord (M q) j).2.2).toNat))]) (rest := []) ⟨hx, hb, hml, hown, hts⟩ (c_X6_nextOf l G M15 hdm q hP hIj2 (j + 1) (by omega) hl22 hrj2 x_s (q_ow (M q) (q_nx (M q) (fun i => q_inr (q_ord (M q) j).1 (i : Int) j) x_s (q_ord (M q) j).2.2).toNat) (by omega) (by omega)) (cwV 3 hts gX6_layRow_X6_nextOf rfl rfl rfl (by decide +kernel) ⟨Nat.le_of_ble_eq_true rfl, Nat.le_of_ble_eq_true rfl⟩) hG (g_recv hG (b := 169) (hdm 169 (by decide)) rfl rfl) rfl hl.1 rfl (Nat.le_of_ble_eq_true rfl) dX6_layRow_83 ⟨Nat.zero_le _, Nat.zero_le _⟩ (fun z18 M19 H locs hp_83 hG => ?_)
                obtain ⟨hz_83, hM_83⟩ := hp_83; replace hz_83 := hz_83.symm; subst hz_83; replace hM_83 := hM_83.symm; subst hM_83
                have hv10 : q_nx (M15 q) (fun i => q_inr (M15 177) i (j + 1)) x_s (q_ow (M q) (q_nx (M q) (fun i => q_inr (q_ord (M q) j).1 (i : Int) j) x_s (q_ord (M q) j).2.2).toNat) = (q_nx (M q) (fun i => q_inr (q_ord (M q) (j + 1)).1 (i : Int) (j + 1)) x_s (q_ord (M q) (j + 1)).2.2) := by rw [hpq2, hoq]; exact q_nx_congr (fun i hi => q_inr_congr i (fun k hk => hrow2 k hk))
                rw [hv10]
                refine lv_istore (lv' := [(4, .int (iZ (q_nx (M q) (fun i => q_inr (q_ord (M q) (j + 1)).1 (i : Int) (j + 1)) x_s (q_ord (M q) (j + 1)).2.2))), (2, .int (iZ (q_ow (M q) (q_nx (M q) (fun i => q_inr (q_ord (M q) j).1 (i : Int) j) x_s (q_ord (M q) j).2.2).toNat))), (3, .int (iZ x_s)), (0, .ref (gad G 169)), (1, .ref (gad G q))]) hx hb dX6_layRow_86 hl (by decide) rfl (fun ls hl => ?_)
                refine lv_goto (tgt := 43) hx hb dX6_layRow_88 (by decide) ?_
                exact ih_43 (j + 1) (q_nx (M q) (fun i => q_inr (q_ord (M q) (j + 1)).1 (i : Int) (j + 1)) x_s (q_ord (M q) (j + 1)).2.2) (q_ow (M q) (q_nx (M q) (fun i => q_inr (q_ord (M q) j).1 (i : Int) j) x_s (q_ord (M q) j).2.2).toNat) M15 rfl (by rw [hox]) (by omega) hlj hrow2 hl22 hoa2 hob2 hs2 hz22 (by omega) _ _ _ hG (lv_sub hl [0, 2, 1, 3, 4] rfl)
          exact L_43 _ j (q_nx (M q) (fun i => q_inr (q_ord (M q) j).1 (i : Int) j) x_s (q_ord (M q) j).2.2) ((q_ord (M q) j).2.2) Mj rfl rfl (by omega) hln hrow hl2 hoa hob (by omega) (fun h => by rcases hph with h9 | h9 | h9; omega; exact h9.2; omega) (Nat.lt_succ_self _) _ _ _ hG (lv_sub hl [0, 1, 2, 3, 4] rfl)
    exact L_29 _ 0 0 (q_lw (M q)) M1 rfl (by omega) rfl (fun k h => absurd h (Nat.not_lt_zero _)) (by rw [hM1, wr_eq]; rfl) (fun a h1 h2 => by rw [hM1, wr_off _ _ _ h1]) (fun b hb9 => by rw [hM1, wr_ne _ _ _ hb9]) (Or.inl rfl) (Nat.lt_succ_self _) _ _ _ hG (lv_sub hl [0, 1, 2, 3] rfl)
set_option maxHeartbeats 4000000 in
set_option maxRecDepth 100000 in
theorem c_X6_firstOf (l : Launch) (G : gG) (M : Nat → Nat → Int) (hdm : ∀ k, k < 179 → gdm G k) (q : Nat) (hP : isP q) (hI : q_inv (M q)) : gMi l yX6_firstOf wsX6_firstOf ({ frames := 4, cells := 0, slots := 0, locals := 92 } : Room) G M [.ref (gad G 169), .ref (gad G q)] (fun z M1 => z = q_first (M q) ∧ (∀ a, a ≠ 169 → a ≠ 177 → M1 a = M a) ∧ ∀ b : Nat, b ≠ 12 → M1 169 b = M 169 b) := by
  refine gMi_of (cc := cX6_firstOf) (maxL := 2) (ret := some .int) (by decide) rfl (Nat.le_of_ble_eq_true rfl) ?_
  intro p e s m below meth c ls hx hb hr hml hown hts hlocks hl hG
  have hown : s.vm.findClass RX6 = some m.cls := hown
  have hl : lv_has ls 2 [(0, .ref (gad G 169)), (1, .ref (gad G q))] := hl
  have hinX6 : ∀ w ∈ u_ws RX6 TX6 13, w ∈ wsX6_firstOf := by decide +kernel
  have f32 := hts (.fieldLink RX6 32 "DogTrialsModel" "row" "[I") (by decide +kernel)
  have f78 := hts (.fieldLink RX6 78 "DogTrialsModel" "rowSize" "I") (by decide +kernel)
  have hnd := hI.1
  have hle := q_orn_le hI
  refine lv_aload_n hx hb dX6_firstOf_0 rfl (lv_at hl 0 rfl) ?_
  refine lv_aload_n hx hb dX6_firstOf_1 rfl (lv_at hl 1 rfl) ?_
  refine g_vcallV (b := 169) (As := [.ref (gad G q)]) (rest := []) ⟨hx, hb, hml, hown, hts⟩ (c_X6_layRow l G M hdm q hP hI) (cwV 1 hts gX6_firstOf_X6_layRow rfl rfl rfl (by decide +kernel) ⟨Nat.le_of_ble_eq_true rfl, Nat.le_of_ble_eq_true rfl⟩) hG (g_recv hG (b := 169) (hdm 169 (by decide)) rfl rfl) rfl hl.1 rfl (Nat.le_of_ble_eq_true rfl) dX6_firstOf_2 ⟨Nat.zero_le _, Nat.zero_le _⟩ (fun M2 H locs hp_2 hG => ?_)
  obtain ⟨hn_M2, hf_M2, hoa_M2, hob_M2⟩ := hp_2
  refine lv_aload_n hx hb dX6_firstOf_5 rfl (lv_at hl 0 rfl) ?_
  refine g_geti (z := ((q_orn (M q)) : Int)) hx hb hts hinX6 hown hG (o := 169) (hdm 169 (by decide)) rfl rfl 12 (by decide) f78 (fun _ h => h) rfl hn_M2 dX6_firstOf_6 ?_
  refine z_if_ne (tgt := 17) hx hb (by omega) dX6_firstOf_9 (by decide) (fun c_9 => ?_) (fun c_9 => ?_)
  · skip
    refine lv_aload_n hx hb dX6_firstOf_17 rfl (lv_at hl 0 rfl) ?_
    refine g_get hx hb hts hinX6 hown hG (o := 169) (hdm 169 (by decide)) rfl rfl 11 (by decide) f32 (fun _ h => h) rfl dX6_firstOf_18 ?_
    refine lv_iconst (v := iZ 0) hx hb dX6_firstOf_21 rfl ?_
    refine g_iald (z := (q_orf (M q) 0)) (j := 0) hx hb hG (o := 177) (hdm 177 (by decide)) rfl (by omega) (by omega) (by omega) (hf_M2 0 (by omega)) dX6_firstOf_22 ?_
    exact g_iret (post := fun z M1 => z = q_first (M q) ∧ (∀ a, a ≠ 169 → a ≠ 177 → M1 a = M a) ∧ ∀ b : Nat, b ≠ 12 → M1 169 b = M 169 b) (z := (q_orf (M q) 0)) hx hb hr hG hlocks (⟨by unfold q_first; first | (rw [if_neg (by omega)]; done) | (rw [if_pos (by omega)]; done), hoa_M2, hob_M2⟩) dX6_firstOf_23
  · skip
    refine lv_bipush (v := iZ (-9)) hx hb dX6_firstOf_12 (by decide) ?_
    refine lv_goto (tgt := 23) hx hb dX6_firstOf_14 (by decide) ?_
    exact g_iret (post := fun z M1 => z = q_first (M q) ∧ (∀ a, a ≠ 169 → a ≠ 177 → M1 a = M a) ∧ ∀ b : Nat, b ≠ 12 → M1 169 b = M 169 b) (z := (-9)) hx hb hr hG hlocks (⟨by unfold q_first; first | (rw [if_neg (by omega)]; done) | (rw [if_pos (by omega)]; done), hoa_M2, hob_M2⟩) dX6_firstOf_23
