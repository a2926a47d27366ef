set_option maxHeartbeats 4000000 in
set_option maxRecDepth 100000 in
theorem c_X6_nextOf (l : Launch) (G : gG) (M : Nat → Nat → Int) (hdm : ∀ k, k < 179 → gdm G k) (q : Nat) (hP : isP q) (hI : q_inv (M q)) (n : Nat) (hn : n ≤ 12) (hn2 : M 169 12 = (n : Int)) (hrow : ∀ k, k < n → -9 ≤ M 177 k ∧ M 177 k < 100) (st o : Int) (hst : 0 ≤ st ∧ st ≤ 2) (ho : -9 ≤ o ∧ o ≤ 5) : gMi l yX6_nextOf wsX6_nextOf ({ frames := 2, cells := 0, slots := 0, locals := 41 } : Room) G M [.ref (gad G 169), .ref (gad G q), .int (iZ st), .int (iZ o)] (fun z M1 => z = q_nx (M q) (fun i => q_inr (M 177) i n) st o ∧ M1 = M) := by
  refine gMi_of (cc := cX6_nextOf) (maxL := 8) (ret := some .int) (by decide) rfl (Nat.le_of_ble_eq_true rfl) ?_
  intro p e s m below meth c ls hx hb hr hml hown hts hlocks hl hG
  have hown : s.vm.findClass RX6 = some m.cls := hown
  have hl : lv_has ls 8 [(0, .ref (gad G 169)), (1, .ref (gad G q)), (2, .int (iZ st)), (3, .int (iZ o))] := hl
  have hdp_q : gdm G q := hdm _ (by rcases hP with h | h | h <;> omega)
  have hnd := hI.1
  refine lv_bipush (v := iZ (-9)) hx hb dX6_nextOf_0 (by decide) ?_
  refine lv_istore (lv' := [(4, .int (iZ (-9))), (0, .ref (gad G 169)), (1, .ref (gad G q)), (2, .int (iZ st)), (3, .int (iZ o))]) hx hb dX6_nextOf_2 hl (by decide) rfl (fun ls hl => ?_)
  refine lv_bipush (v := iZ (-9)) hx hb dX6_nextOf_4 (by decide) ?_
  refine lv_istore (lv' := [(5, .int (iZ (-9))), (4, .int (iZ (-9))), (0, .ref (gad G 169)), (1, .ref (gad G q)), (2, .int (iZ st)), (3, .int (iZ o))]) hx hb dX6_nextOf_6 hl (by decide) rfl (fun ls hl => ?_)
  refine lv_iconst (v := iZ 0) hx hb dX6_nextOf_8 rfl ?_
  refine lv_istore (lv' := [(6, .int (iZ 0)), (5, .int (iZ (-9))), (4, .int (iZ (-9))), (0, .ref (gad G 169)), (1, .ref (gad G q)), (2, .int (iZ st)), (3, .int (iZ o))]) hx hb dX6_nextOf_9 hl (by decide) rfl (fun ls hl => ?_)
  have L_11 : ∀ (n_11 : Nat) (k : Nat) (x_i : Int) (x_a : Int) (x_o : Int), (x_i = (k : Int)) → (x_a = (q_nx2 (M q) (fun i => q_inr (M 177) i n) st o k).1) → (x_o = (q_nx2 (M q) (fun i => q_inr (M 177) i n) st o k).2) → ((k : Int) ≤ q_nd (M q)) → 12 - k < n_11 → ∀ (H : Heap) (locs : List Loc) (ls : Array Slot), gH G M s H locs → lv_has ls 8 [(6, .int (iZ x_i)), (5, .int (iZ x_a)), (4, .int (iZ x_o)), (0, .ref (gad G 169)), (1, .ref (gad G q)), (2, .int (iZ st)), (3, .int (iZ o))] → W p l e ({ frames := 2, cells := 0, slots := 0, locals := 41 } : Room) s m [.ref (gad G 169), .ref (gad G q), .int (iZ st), .int (iZ o)].toArray below meth c H locs 0 0 (MQ below (va_Qi (fun r (u : Int × (Nat → Nat → Int)) => r = iZ u.1 ∧ (fun z M1 => z = q_nx (M q) (fun i => q_inr (M 177) i n) st o ∧ M1 = M) u.1 u.2) (fun u U => gB G u.2 U) (gA G)) [.ref (gad G 169), .ref (gad G q), .int (iZ st), .int (iZ o)].toArray s 0 0 (gA G)) (F0 m 11 ls []) := by
    intro n_11
    induction n_11 with
    | zero => intro k x_i x_a x_o he_x_i he_x_a he_x_o hk hm_11; exact absurd hm_11 (Nat.not_lt_zero _)
    | succ n_11 ih_11 =>
      intro k x_i x_a x_o he_x_i he_x_a he_x_o hk hm_11 H locs ls hG hl
      subst he_x_i
      subst he_x_a
      subst he_x_o
      have hnx := q_nx2_rg (R := M q) (pl := fun i => q_inr (M 177) i n) (st := st) (o := o) k
      refine lv_iload hx hb dX6_nextOf_11 (lv_at hl 0 rfl) ?_
      refine lv_aload_n hx hb dX6_nextOf_13 rfl (lv_at hl 4 rfl) ?_
      refine lv_bipush (v := iZ (7)) hx hb dX6_nextOf_14 (by decide) ?_
      refine g_iald (z := (q_nd (M q))) (j := 7) hx hb hG (o := q) hdp_q (gE_P hP G _) (by omega) (by omega) (by omega) rfl dX6_nextOf_16 ?_
      refine z_icmp_ge (tgt := 117) hx hb (by omega) (by omega) dX6_nextOf_17 (by decide) (fun c_17 => ?_) (fun c_17 => ?_)
      · skip
        refine lv_iload hx hb dX6_nextOf_117 (lv_at hl 2 rfl) ?_
        refine lv_bipush (v := iZ (-9)) hx hb dX6_nextOf_119 (by decide) ?_
        refine z_icmp_ne (tgt := 129) hx hb (by omega) (by decide) dX6_nextOf_121 (by decide) (fun c_121 => ?_) (fun c_121 => ?_)
        · skip
          refine lv_iload hx hb dX6_nextOf_129 (lv_at hl 2 rfl) ?_
          exact g_iret (post := fun z M1 => z = q_nx (M q) (fun i => q_inr (M 177) i n) st o ∧ M1 = M) (z := (q_nx2 (M q) (fun i => q_inr (M 177) i n) st o k).2) hx hb hr hG hlocks (⟨by unfold q_nx; rw [show (q_nd (M q)).toNat = k by omega]; first | (rw [if_pos (by omega)]; done) | (rw [if_neg (by omega)]; done), rfl⟩) dX6_nextOf_131
        · skip
          refine lv_iload hx hb dX6_nextOf_124 (lv_at hl 1 rfl) ?_
          refine lv_goto (tgt := 131) hx hb dX6_nextOf_126 (by decide) ?_
          exact g_iret (post := fun z M1 => z = q_nx (M q) (fun i => q_inr (M 177) i n) st o ∧ M1 = M) (z := (q_nx2 (M q) (fun i => q_inr (M 177) i n) st o k).1) hx hb hr hG hlocks (⟨by unfold q_nx; rw [show (q_nd (M q)).toNat = k by omega]; first | (rw [if_pos (by omega)]; done) | (rw [if_neg (by omega)]; done), rfl⟩) dX6_nextOf_131
      · skip
        have hkl : (k : Int) < q_nd (M q) := by omega
        have hdo := dok5 hI k hkl
        refine lv_aload_n hx hb dX6_nextOf_20 rfl (lv_at hl 4 rfl) ?_
        refine lv_iload hx hb dX6_nextOf_21 (lv_at hl 0 rfl) ?_
        refine g_callS (As := [.ref (gad G q), .int (iZ (k : Int))]) (rest := []) ⟨hx, hb, hml, hown, hts⟩ (c_X6_stateOf l G M hdm q hP hI k (by omega)) (va_cwS 2 hts gX6_nextOf_X6_stateOf rfl rfl rfl (by decide +kernel) ⟨Nat.le_of_ble_eq_true rfl, Nat.le_of_ble_eq_true rfl⟩) hG rfl hl.1 rfl (Nat.le_of_ble_eq_true rfl) dX6_nextOf_23 ⟨Nat.zero_le _, Nat.zero_le _⟩ (fun z1 M2 H locs hp_23 hG => ?_)
        obtain ⟨hz_23, hM_23⟩ := hp_23; replace hz_23 := hz_23.symm; subst hz_23; replace hM_23 := hM_23.symm; subst hM_23
        refine lv_iload_n hx hb dX6_nextOf_26 rfl (lv_at hl 5 rfl) ?_
        refine z_icmp_ne (tgt := 111) hx hb (by omega) (by omega) dX6_nextOf_27 (by decide) (fun c_27 => ?_) (fun c_27 => ?_)
        · skip
          refine z_iinc (z := ((k : Int) + 1)) (lv' := [(6, .int (iZ ((k : Int) + 1))), (5, .int (iZ (q_nx2 (M q) (fun i => q_inr (M 177) i n) st o k).1)), (4, .int (iZ (q_nx2 (M q) (fun i => q_inr (M 177) i n) st o k).2)), (0, .ref (gad G 169)), (1, .ref (gad G q)), (2, .int (iZ st)), (3, .int (iZ o))]) hx hb dX6_nextOf_111 hl (k := 0) rfl (by omega) (by decide) rfl (fun ls hl => ?_)
          refine lv_goto (tgt := 11) hx hb dX6_nextOf_114 (by decide) ?_
          exact ih_11 (k + 1) ((k : Int) + 1) ((q_nx2 (M q) (fun i => q_inr (M 177) i n) st o k).1) ((q_nx2 (M q) (fun i => q_inr (M 177) i n) st o k).2)  (by omega) (by rw [q_nx2]; first | (rw [if_neg (fun h9 => absurd h9.1 (by show ¬ (q_inr (M 177) (k : Int) n = false); rw [c_36]; decide))]; done) | (rw [if_neg (fun h9 => by have h8 := h9.2; omega)]; done) | (rw [if_pos ⟨Bool.eq_false_iff.mpr c_36, by omega⟩]; dsimp only; first | (rw [if_pos (by omega)]; done) | (rw [if_neg (by omega)]; done))) (by rw [q_nx2]; first | (rw [if_neg (fun h9 => absurd h9.1 (by show ¬ (q_inr (M 177) (k : Int) n = false); rw [c_36]; decide))]; done) | (rw [if_neg (fun h9 => by have h8 := h9.2; omega)]; done) | (rw [if_pos ⟨Bool.eq_false_iff.mpr c_36, by omega⟩]; dsimp only; first | (rw [if_pos (by omega)]; done) | (rw [if_neg (by omega)]; done))) (by omega) (by omega) _ _ _ hG (lv_sub hl [0, 1, 2, 3, 4, 5, 6] rfl)
        · skip
          refine lv_aload_n hx hb dX6_nextOf_30 rfl (lv_at hl 3 rfl) ?_
          refine lv_iload hx hb dX6_nextOf_31 (lv_at hl 0 rfl) ?_
          refine g_callV (b := 169) (As := [.int (iZ (k : Int))]) (rest := []) ⟨hx, hb, hml, hown, hts⟩ (c_X6_isInRow l G M hdm n hn hn2 hrow (k : Int) (by omega)) (cwV 1 hts gX6_nextOf_X6_isInRow rfl rfl rfl (by decide +kernel) ⟨Nat.le_of_ble_eq_true rfl, Nat.le_of_ble_eq_true rfl⟩) hG (g_recv hG (b := 169) (hdm 169 (by decide)) rfl rfl) rfl hl.1 rfl (Nat.le_of_ble_eq_true rfl) dX6_nextOf_33 ⟨Nat.zero_le _, Nat.zero_le _⟩ (fun z3 M4 H locs hp_33 hG => ?_)
          obtain ⟨hz_33, hM_33⟩ := hp_33; replace hz_33 := hz_33.symm; subst hz_33; replace hM_33 := hM_33.symm; subst hM_33
          refine z_ifP_ne (tgt := 111) hx hb dX6_nextOf_36 (by decide) (fun c_36 => ?_) (fun c_36 => ?_)
          · skip
            refine z_iinc (z := ((k : Int) + 1)) (lv' := [(6, .int (iZ ((k : Int) + 1))), (5, .int (iZ (q_nx2 (M q) (fun i => q_inr (M 177) i n) st o k).1)), (4, .int (iZ (q_nx2 (M q) (fun i => q_inr (M 177) i n) st o k).2)), (0, .ref (gad G 169)), (1, .ref (gad G q)), (2, .int (iZ st)), (3, .int (iZ o))]) hx hb dX6_nextOf_111 hl (k := 0) rfl (by omega) (by decide) rfl (fun ls hl => ?_)
            refine lv_goto (tgt := 11) hx hb dX6_nextOf_114 (by decide) ?_
            exact ih_11 (k + 1) ((k : Int) + 1) ((q_nx2 (M q) (fun i => q_inr (M 177) i n) st o k).1) ((q_nx2 (M q) (fun i => q_inr (M 177) i n) st o k).2)  (by omega) (by rw [q_nx2]; first | (rw [if_neg (fun h9 => absurd h9.1 (by show ¬ (q_inr (M 177) (k : Int) n = false); rw [c_36]; decide))]; done) | (rw [if_neg (fun h9 => by have h8 := h9.2; omega)]; done) | (rw [if_pos ⟨Bool.eq_false_iff.mpr c_36, by omega⟩]; dsimp only; first | (rw [if_pos (by omega)]; done) | (rw [if_neg (by omega)]; done))) (by rw [q_nx2]; first | (rw [if_neg (fun h9 => absurd h9.1 (by show ¬ (q_inr (M 177) (k : Int) n = false); rw [c_36]; decide))]; done) | (rw [if_neg (fun h9 => by have h8 := h9.2; omega)]; done) | (rw [if_pos ⟨Bool.eq_false_iff.mpr c_36, by omega⟩]; dsimp only; first | (rw [if_pos (by omega)]; done) | (rw [if_neg (by omega)]; done))) (by omega) (by omega) _ _ _ hG (lv_sub hl [0, 1, 2, 3, 4, 5, 6] rfl)
          · skip
            refine lv_aload_n hx hb dX6_nextOf_39 rfl (lv_at hl 4 rfl) ?_
            refine lv_iload hx hb dX6_nextOf_40 (lv_at hl 0 rfl) ?_
            refine g_callS (As := [.int (iZ (k : Int))]) (rest := [.ref (gad G q)]) ⟨hx, hb, hml, hown, hts⟩ (c_X6_dogAt l G M (k : Int)) (va_cwS 1 hts gX6_nextOf_X6_dogAt rfl rfl rfl (by decide +kernel) ⟨Nat.le_of_ble_eq_true rfl, Nat.le_of_ble_eq_true rfl⟩) hG rfl hl.1 rfl (Nat.le_of_ble_eq_true rfl) dX6_nextOf_42 ⟨Nat.zero_le _, Nat.zero_le _⟩ (fun z5 M6 H locs hp_42 hG => ?_)
            obtain ⟨hz_42, hM_42⟩ := hp_42; replace hz_42 := hz_42.symm; subst hz_42; replace hM_42 := hM_42.symm; subst hM_42
            rw [show (14 + 11 * (k : Int) : Int) = (11 * (k : Int) + 14) from by omega]
            refine lv_iconst (v := iZ 1) hx hb dX6_nextOf_45 rfl ?_
            refine z_iadd (z := (11 * (k : Int) + 15)) hx hb (by omega) dX6_nextOf_46 ?_
            refine g_iald (z := (q_dr (M q) k)) (j := (14 + 11 * k + 1)) hx hb hG (o := q) hdp_q (gE_P hP G _) (by omega) (by omega) (by omega) rfl dX6_nextOf_47 ?_
            refine lv_istore (lv' := [(7, .int (iZ (q_dr (M q) k))), (6, .int (iZ (k : Int))), (5, .int (iZ (q_nx2 (M q) (fun i => q_inr (M 177) i n) st o k).1)), (4, .int (iZ (q_nx2 (M q) (fun i => q_inr (M 177) i n) st o k).2)), (0, .ref (gad G 169)), (1, .ref (gad G q)), (2, .int (iZ st)), (3, .int (iZ o))]) hx hb dX6_nextOf_48 hl (by decide) rfl (fun ls hl => ?_)
            refine lv_iload hx hb dX6_nextOf_50 (lv_at hl 2 rfl) ?_
            refine lv_bipush (v := iZ (-9)) hx hb dX6_nextOf_52 (by decide) ?_
            refine z_icmp_eq (tgt := 71) hx hb (by omega) (by decide) dX6_nextOf_54 (by decide) (fun c_54 => ?_) (fun c_54 => ?_)
            · skip
              refine lv_iload hx hb dX6_nextOf_71 (lv_at hl 1 rfl) ?_
              refine lv_istore (lv' := [(5, .int (iZ (k : Int))), (7, .int (iZ (q_dr (M q) k))), (6, .int (iZ (k : Int))), (4, .int (iZ (q_nx2 (M q) (fun i => q_inr (M 177) i n) st o k).2)), (0, .ref (gad G 169)), (1, .ref (gad G q)), (2, .int (iZ st)), (3, .int (iZ o))]) hx hb dX6_nextOf_73 hl (by decide) rfl (fun ls hl => ?_)
              refine lv_aload_n hx hb dX6_nextOf_75 rfl (lv_at hl 5 rfl) ?_
              refine lv_iload hx hb dX6_nextOf_76 (lv_at hl 2 rfl) ?_
              refine g_callS (As := [.int (iZ (k : Int))]) (rest := [.ref (gad G q)]) ⟨hx, hb, hml, hown, hts⟩ (c_X6_dogAt l G M (k : Int)) (va_cwS 1 hts gX6_nextOf_X6_dogAt rfl rfl rfl (by decide +kernel) ⟨Nat.le_of_ble_eq_true rfl, Nat.le_of_ble_eq_true rfl⟩) hG rfl hl.1 rfl (Nat.le_of_ble_eq_true rfl) dX6_nextOf_78 ⟨Nat.zero_le _, Nat.zero_le _⟩ (fun z7 M8 H locs hp_78 hG => ?_)
              obtain ⟨hz_78, hM_78⟩ := hp_78; replace hz_78 := hz_78.symm; subst hz_78; replace hM_78 := hM_78.symm; subst hM_78
              rw [show (14 + 11 * (k : Int) : Int) = (11 * (k : Int) + 14) from by omega]
              refine g_iald (z := (q_ow (M q) k)) (j := (14 + 11 * k)) hx hb hG (o := q) hdp_q (gE_P hP G _) (by omega) (by omega) (by omega) rfl dX6_nextOf_81 ?_
              refine lv_iload_n hx hb dX6_nextOf_82 rfl (lv_at hl 7 rfl) ?_
              refine z_icmp_eq (tgt := 111) hx hb (by omega) (by omega) dX6_nextOf_83 (by decide) (fun c_83 => ?_) (fun c_83 => ?_)
              · skip
                refine z_iinc (z := ((k : Int) + 1)) (lv' := [(6, .int (iZ ((k : Int) + 1))), (5, .int (iZ (k : Int))), (7, .int (iZ (q_dr (M q) k))), (4, .int (iZ (q_nx2 (M q) (fun i => q_inr (M 177) i n) st o k).2)), (0, .ref (gad G 169)), (1, .ref (gad G q)), (2, .int (iZ st)), (3, .int (iZ o))]) hx hb dX6_nextOf_111 hl (k := 2) rfl (by omega) (by decide) rfl (fun ls hl => ?_)
                refine lv_goto (tgt := 11) hx hb dX6_nextOf_114 (by decide) ?_
                exact ih_11 (k + 1) ((k : Int) + 1) (k : Int) ((q_nx2 (M q) (fun i => q_inr (M 177) i n) st o k).2)  (by omega) (by rw [q_nx2]; first | (rw [if_neg (fun h9 => absurd h9.1 (by show ¬ (q_inr (M 177) (k : Int) n = false); rw [c_36]; decide))]; done) | (rw [if_neg (fun h9 => by have h8 := h9.2; omega)]; done) | (rw [if_pos ⟨Bool.eq_false_iff.mpr c_36, by omega⟩]; dsimp only; first | (rw [if_pos (by omega)]; done) | (rw [if_neg (by omega)]; done))) (by rw [q_nx2]; first | (rw [if_neg (fun h9 => absurd h9.1 (by show ¬ (q_inr (M 177) (k : Int) n = false); rw [c_36]; decide))]; done) | (rw [if_neg (fun h9 => by have h8 := h9.2; omega)]; done) | (rw [if_pos ⟨Bool.eq_false_iff.mpr c_36, by omega⟩]; dsimp only; first | (rw [if_pos (by omega)]; done) | (rw [if_neg (by omega)]; done))) (by omega) (by omega) _ _ _ hG (lv_sub hl [0, 1, 3, 4, 5, 6, 7] rfl)
              · skip
                refine lv_iload hx hb dX6_nextOf_86 (lv_at hl 3 rfl) ?_
                refine lv_bipush (v := iZ (-9)) hx hb dX6_nextOf_88 (by decide) ?_
                refine z_icmp_eq (tgt := 107) hx hb (by omega) (by decide) dX6_nextOf_90 (by decide) (fun c_90 => ?_) (fun c_90 => ?_)
                · skip
                  refine lv_iload hx hb dX6_nextOf_107 (lv_at hl 2 rfl) ?_
                  refine lv_istore (lv' := [(4, .int (iZ (k : Int))), (5, .int (iZ (k : Int))), (7, .int (iZ (q_dr (M q) k))), (6, .int (iZ (k : Int))), (0, .ref (gad G 169)), (1, .ref (gad G q)), (2, .int (iZ st)), (3, .int (iZ o))]) hx hb dX6_nextOf_109 hl (by decide) rfl (fun ls hl => ?_)
                  refine z_iinc (z := ((k : Int) + 1)) (lv' := [(6, .int (iZ ((k : Int) + 1))), (4, .int (iZ (k : Int))), (5, .int (iZ (k : Int))), (7, .int (iZ (q_dr (M q) k))), (0, .ref (gad G 169)), (1, .ref (gad G q)), (2, .int (iZ st)), (3, .int (iZ o))]) hx hb dX6_nextOf_111 hl (k := 3) rfl (by omega) (by decide) rfl (fun ls hl => ?_)
                  refine lv_goto (tgt := 11) hx hb dX6_nextOf_114 (by decide) ?_
                  exact ih_11 (k + 1) ((k : Int) + 1) (k : Int) (k : Int)  (by omega) (by rw [q_nx2]; first | (rw [if_neg (fun h9 => absurd h9.1 (by show ¬ (q_inr (M 177) (k : Int) n = false); rw [c_36]; decide))]; done) | (rw [if_neg (fun h9 => by have h8 := h9.2; omega)]; done) | (rw [if_pos ⟨Bool.eq_false_iff.mpr c_36, by omega⟩]; dsimp only; first | (rw [if_pos (by omega)]; done) | (rw [if_neg (by omega)]; done))) (by rw [q_nx2]; first | (rw [if_neg (fun h9 => absurd h9.1 (by show ¬ (q_inr (M 177) (k : Int) n = false); rw [c_36]; decide))]; done) | (rw [if_neg (fun h9 => by have h8 := h9.2; omega)]; done) | (rw [if_pos ⟨Bool.eq_false_iff.mpr c_36, by omega⟩]; dsimp only; first | (rw [if_pos (by omega)]; done) | (rw [if_neg (by omega)]; done))) (by omega) (by omega) _ _ _ hG (lv_sub hl [0, 2, 1, 4, 5, 6, 7] rfl)
                · skip
                  have hge2 : 0 ≤ (q_nx2 (M q) (fun i => q_inr (M 177) i n) st o k).2 := by rcases (q_nx2_in (R := M q) (pl := fun i => q_inr (M 177) i n) (st := st) (o := o) k).2 with h | h <;> omega
                  have hdb := dok5 hI ((q_nx2 (M q) (fun i => q_inr (M 177) i n) st o k).2.toNat) (by omega)
                  refine lv_iload hx hb dX6_nextOf_93 (lv_at hl 1 rfl) ?_
                  refine lv_aload_n hx hb dX6_nextOf_95 rfl (lv_at hl 5 rfl) ?_
                  refine lv_iload hx hb dX6_nextOf_96 (lv_at hl 3 rfl) ?_
                  refine g_callS (As := [.int (iZ (q_nx2 (M q) (fun i => q_inr (M 177) i n) st o k).2)]) (rest := [.ref (gad G q), .int (iZ (q_dr (M q) k))]) ⟨hx, hb, hml, hown, hts⟩ (c_X6_dogAt l G M ((q_nx2 (M q) (fun i => q_inr (M 177) i n) st o k).2)) (va_cwS 1 hts gX6_nextOf_X6_dogAt rfl rfl rfl (by decide +kernel) ⟨Nat.le_of_ble_eq_true rfl, Nat.le_of_ble_eq_true rfl⟩) hG rfl hl.1 rfl (Nat.le_of_ble_eq_true rfl) dX6_nextOf_98 ⟨Nat.zero_le _, Nat.zero_le _⟩ (fun z9 M10 H locs hp_98 hG => ?_)
                  obtain ⟨hz_98, hM_98⟩ := hp_98; replace hz_98 := hz_98.symm; subst hz_98; replace hM_98 := hM_98.symm; subst hM_98
                  rw [show (14 + 11 * ((q_nx2 (M q) (fun i => q_inr (M 177) i n) st o k).2) : Int) = (11 * (q_nx2 (M q) (fun i => q_inr (M 177) i n) st o k).2 + 14) from by omega]
                  refine lv_iconst (v := iZ 1) hx hb dX6_nextOf_101 rfl ?_
                  refine z_iadd (z := (11 * (q_nx2 (M q) (fun i => q_inr (M 177) i n) st o k).2 + 15)) hx hb (by omega) dX6_nextOf_102 ?_
                  refine g_iald (z := (q_dr (M q) (((q_nx2 (M q) (fun i => q_inr (M 177) i n) st o k).2.toNat)))) (j := (14 + 11 * (((q_nx2 (M q) (fun i => q_inr (M 177) i n) st o k).2.toNat)) + 1)) hx hb hG (o := q) hdp_q (gE_P hP G _) (by omega) (by omega) (by omega) rfl dX6_nextOf_103 ?_
                  refine z_icmp_ge (tgt := 111) hx hb (by omega) (by omega) dX6_nextOf_104 (by decide) (fun c_104 => ?_) (fun c_104 => ?_)
                  · skip
                    refine z_iinc (z := ((k : Int) + 1)) (lv' := [(6, .int (iZ ((k : Int) + 1))), (5, .int (iZ (k : Int))), (7, .int (iZ (q_dr (M q) k))), (4, .int (iZ (q_nx2 (M q) (fun i => q_inr (M 177) i n) st o k).2)), (0, .ref (gad G 169)), (1, .ref (gad G q)), (2, .int (iZ st)), (3, .int (iZ o))]) hx hb dX6_nextOf_111 hl (k := 2) rfl (by omega) (by decide) rfl (fun ls hl => ?_)
                    refine lv_goto (tgt := 11) hx hb dX6_nextOf_114 (by decide) ?_
                    exact ih_11 (k + 1) ((k : Int) + 1) (k : Int) ((q_nx2 (M q) (fun i => q_inr (M 177) i n) st o k).2)  (by omega) (by rw [q_nx2]; first | (rw [if_neg (fun h9 => absurd h9.1 (by show ¬ (q_inr (M 177) (k : Int) n = false); rw [c_36]; decide))]; done) | (rw [if_neg (fun h9 => by have h8 := h9.2; omega)]; done) | (rw [if_pos ⟨Bool.eq_false_iff.mpr c_36, by omega⟩]; dsimp only; first | (rw [if_pos (by omega)]; done) | (rw [if_neg (by omega)]; done))) (by rw [q_nx2]; first | (rw [if_neg (fun h9 => absurd h9.1 (by show ¬ (q_inr (M 177) (k : Int) n = false); rw [c_36]; decide))]; done) | (rw [if_neg (fun h9 => by have h8 := h9.2; omega)]; done) | (rw [if_pos ⟨Bool.eq_false_iff.mpr c_36, by omega⟩]; dsimp only; first | (rw [if_pos (by omega)]; done) | (rw [if_neg (by omega)]; done))) (by omega) (by omega) _ _ _ hG (lv_sub hl [0, 1, 3, 4, 5, 6, 7] rfl)
                  · skip
                    refine lv_iload hx hb dX6_nextOf_107 (lv_at hl 2 rfl) ?_
                    refine lv_istore (lv' := [(4, .int (iZ (k : Int))), (5, .int (iZ (k : Int))), (7, .int (iZ (q_dr (M q) k))), (6, .int (iZ (k : Int))), (0, .ref (gad G 169)), (1, .ref (gad G q)), (2, .int (iZ st)), (3, .int (iZ o))]) hx hb dX6_nextOf_109 hl (by decide) rfl (fun ls hl => ?_)
                    refine z_iinc (z := ((k : Int) + 1)) (lv' := [(6, .int (iZ ((k : Int) + 1))), (4, .int (iZ (k : Int))), (5, .int (iZ (k : Int))), (7, .int (iZ (q_dr (M q) k))), (0, .ref (gad G 169)), (1, .ref (gad G q)), (2, .int (iZ st)), (3, .int (iZ o))]) hx hb dX6_nextOf_111 hl (k := 3) rfl (by omega) (by decide) rfl (fun ls hl => ?_)
                    refine lv_goto (tgt := 11) hx hb dX6_nextOf_114 (by decide) ?_
                    exact ih_11 (k + 1) ((k : Int) + 1) (k : Int) (k : Int)  (by omega) (by rw [q_nx2]; first | (rw [if_neg (fun h9 => absurd h9.1 (by show ¬ (q_inr (M 177) (k : Int) n = false); rw [c_36]; decide))]; done) | (rw [if_neg (fun h9 => by have h8 := h9.2; omega)]; done) | (rw [if_pos ⟨Bool.eq_false_iff.mpr c_36, by omega⟩]; dsimp only; first | (rw [if_pos (by omega)]; done) | (rw [if_neg (by omega)]; done))) (by rw [q_nx2]; first | (rw [if_neg (fun h9 => absurd h9.1 (by show ¬ (q_inr (M 177) (k : Int) n = false); rw [c_36]; decide))]; done) | (rw [if_neg (fun h9 => by have h8 := h9.2; omega)]; done) | (rw [if_pos ⟨Bool.eq_false_iff.mpr c_36, by omega⟩]; dsimp only; first | (rw [if_pos (by omega)]; done) | (rw [if_neg (by omega)]; done))) (by omega) (by omega) _ _ _ hG (lv_sub hl [0, 2, 1, 4, 5, 6, 7] rfl)
            · skip
              have hge1 : 0 ≤ (q_nx2 (M q) (fun i => q_inr (M 177) i n) st o k).1 := by rcases (q_nx2_in (R := M q) (pl := fun i => q_inr (M 177) i n) (st := st) (o := o) k).1 with h | h <;> omega
              have hda := dok5 hI ((q_nx2 (M q) (fun i => q_inr (M 177) i n) st o k).1.toNat) (by omega)
              refine lv_iload hx hb dX6_nextOf_57 (lv_at hl 0 rfl) ?_
              refine lv_aload_n hx hb dX6_nextOf_59 rfl (lv_at hl 5 rfl) ?_
              refine lv_iload hx hb dX6_nextOf_60 (lv_at hl 2 rfl) ?_
              refine g_callS (As := [.int (iZ (q_nx2 (M q) (fun i => q_inr (M 177) i n) st o k).1)]) (rest := [.ref (gad G q), .int (iZ (q_dr (M q) k))]) ⟨hx, hb, hml, hown, hts⟩ (c_X6_dogAt l G M ((q_nx2 (M q) (fun i => q_inr (M 177) i n) st o k).1)) (va_cwS 1 hts gX6_nextOf_X6_dogAt rfl rfl rfl (by decide +kernel) ⟨Nat.le_of_ble_eq_true rfl, Nat.le_of_ble_eq_true rfl⟩) hG rfl hl.1 rfl (Nat.le_of_ble_eq_true rfl) dX6_nextOf_62 ⟨Nat.zero_le _, Nat.zero_le _⟩ (fun z11 M12 H locs hp_62 hG => ?_)
              obtain ⟨hz_62, hM_62⟩ := hp_62; replace hz_62 := hz_62.symm; subst hz_62; replace hM_62 := hM_62.symm; subst hM_62
              rw [show (14 + 11 * ((q_nx2 (M q) (fun i => q_inr (M 177) i n) st o k).1) : Int) = (11 * (q_nx2 (M q) (fun i => q_inr (M 177) i n) st o k).1 + 14) from by omega]
              refine lv_iconst (v := iZ 1) hx hb dX6_nextOf_65 rfl ?_
              refine z_iadd (z := (11 * (q_nx2 (M q) (fun i => q_inr (M 177) i n) st o k).1 + 15)) hx hb (by omega) dX6_nextOf_66 ?_
              refine g_iald (z := (q_dr (M q) (((q_nx2 (M q) (fun i => q_inr (M 177) i n) st o k).1.toNat)))) (j := (14 + 11 * (((q_nx2 (M q) (fun i => q_inr (M 177) i n) st o k).1.toNat)) + 1)) hx hb hG (o := q) hdp_q (gE_P hP G _) (by omega) (by omega) (by omega) rfl dX6_nextOf_67 ?_
              refine z_icmp_ge (tgt := 75) hx hb (by omega) (by omega) dX6_nextOf_68 (by decide) (fun c_68 => ?_) (fun c_68 => ?_)
              · skip
                refine lv_aload_n hx hb dX6_nextOf_75 rfl (lv_at hl 5 rfl) ?_
                refine lv_iload hx hb dX6_nextOf_76 (lv_at hl 1 rfl) ?_
                refine g_callS (As := [.int (iZ (k : Int))]) (rest := [.ref (gad G q)]) ⟨hx, hb, hml, hown, hts⟩ (c_X6_dogAt l G M (k : Int)) (va_cwS 1 hts gX6_nextOf_X6_dogAt rfl rfl rfl (by decide +kernel) ⟨Nat.le_of_ble_eq_true rfl, Nat.le_of_ble_eq_true rfl⟩) hG rfl hl.1 rfl (Nat.le_of_ble_eq_true rfl) dX6_nextOf_78 ⟨Nat.zero_le _, Nat.zero_le _⟩ (fun z13 M14 H locs hp_78 hG => ?_)
                obtain ⟨hz_78, hM_78⟩ := hp_78; replace hz_78 := hz_78.symm; subst hz_78; replace hM_78 := hM_78.symm; subst hM_78
                rw [show (14 + 11 * (k : Int) : Int) = (11 * (k : Int) + 14) from by omega]
                refine g_iald (z := (q_ow (M q) k)) (j := (14 + 11 * k)) hx hb hG (o := q) hdp_q (gE_P hP G _) (by omega) (by omega) (by omega) rfl dX6_nextOf_81 ?_
                refine lv_iload_n hx hb dX6_nextOf_82 rfl (lv_at hl 7 rfl) ?_
                refine z_icmp_eq (tgt := 111) hx hb (by omega) (by omega) dX6_nextOf_83 (by decide) (fun c_83 => ?_) (fun c_83 => ?_)
                · skip
                  refine z_iinc (z := ((k : Int) + 1)) (lv' := [(6, .int (iZ ((k : Int) + 1))), (7, .int (iZ (q_dr (M q) k))), (5, .int (iZ (q_nx2 (M q) (fun i => q_inr (M 177) i n) st o k).1)), (4, .int (iZ (q_nx2 (M q) (fun i => q_inr (M 177) i n) st o k).2)), (0, .ref (gad G 169)), (1, .ref (gad G q)), (2, .int (iZ st)), (3, .int (iZ o))]) hx hb dX6_nextOf_111 hl (k := 1) rfl (by omega) (by decide) rfl (fun ls hl => ?_)
                  refine lv_goto (tgt := 11) hx hb dX6_nextOf_114 (by decide) ?_
                  exact ih_11 (k + 1) ((k : Int) + 1) ((q_nx2 (M q) (fun i => q_inr (M 177) i n) st o k).1) ((q_nx2 (M q) (fun i => q_inr (M 177) i n) st o k).2)  (by omega) (by rw [q_nx2]; first | (rw [if_neg (fun h9 => absurd h9.1 (by show ¬ (q_inr (M 177) (k : Int) n = false); rw [c_36]; decide))]; done) | (rw [if_neg (fun h9 => by have h8 := h9.2; omega)]; done) | (rw [if_pos ⟨Bool.eq_false_iff.mpr c_36, by omega⟩]; dsimp only; first | (rw [if_pos (by omega)]; done) | (rw [if_neg (by omega)]; done))) (by rw [q_nx2]; first | (rw [if_neg (fun h9 => absurd h9.1 (by show ¬ (q_inr (M 177) (k : Int) n = false); rw [c_36]; decide))]; done) | (rw [if_neg (fun h9 => by have h8 := h9.2; omega)]; done) | (rw [if_pos ⟨Bool.eq_false_iff.mpr c_36, by omega⟩]; dsimp only; first | (rw [if_pos (by omega)]; done) | (rw [if_neg (by omega)]; done))) (by omega) (by omega) _ _ _ hG (lv_sub hl [0, 2, 3, 4, 5, 6, 7] rfl)
                · skip
                  refine lv_iload hx hb dX6_nextOf_86 (lv_at hl 3 rfl) ?_
                  refine lv_bipush (v := iZ (-9)) hx hb dX6_nextOf_88 (by decide) ?_
                  refine z_icmp_eq (tgt := 107) hx hb (by omega) (by decide) dX6_nextOf_90 (by decide) (fun c_90 => ?_) (fun c_90 => ?_)
                  · skip
                    refine lv_iload hx hb dX6_nextOf_107 (lv_at hl 1 rfl) ?_
                    refine lv_istore (lv' := [(4, .int (iZ (k : Int))), (7, .int (iZ (q_dr (M q) k))), (6, .int (iZ (k : Int))), (5, .int (iZ (q_nx2 (M q) (fun i => q_inr (M 177) i n) st o k).1)), (0, .ref (gad G 169)), (1, .ref (gad G q)), (2, .int (iZ st)), (3, .int (iZ o))]) hx hb dX6_nextOf_109 hl (by decide) rfl (fun ls hl => ?_)
                    refine z_iinc (z := ((k : Int) + 1)) (lv' := [(6, .int (iZ ((k : Int) + 1))), (4, .int (iZ (k : Int))), (7, .int (iZ (q_dr (M q) k))), (5, .int (iZ (q_nx2 (M q) (fun i => q_inr (M 177) i n) st o k).1)), (0, .ref (gad G 169)), (1, .ref (gad G q)), (2, .int (iZ st)), (3, .int (iZ o))]) hx hb dX6_nextOf_111 hl (k := 2) rfl (by omega) (by decide) rfl (fun ls hl => ?_)
                    refine lv_goto (tgt := 11) hx hb dX6_nextOf_114 (by decide) ?_
                    exact ih_11 (k + 1) ((k : Int) + 1) ((q_nx2 (M q) (fun i => q_inr (M 177) i n) st o k).1) (k : Int)  (by omega) (by rw [q_nx2]; first | (rw [if_neg (fun h9 => absurd h9.1 (by show ¬ (q_inr (M 177) (k : Int) n = false); rw [c_36]; decide))]; done) | (rw [if_neg (fun h9 => by have h8 := h9.2; omega)]; done) | (rw [if_pos ⟨Bool.eq_false_iff.mpr c_36, by omega⟩]; dsimp only; first | (rw [if_pos (by omega)]; done) | (rw [if_neg (by omega)]; done))) (by rw [q_nx2]; first | (rw [if_neg (fun h9 => absurd h9.1 (by show ¬ (q_inr (M 177) (k : Int) n = false); rw [c_36]; decide))]; done) | (rw [if_neg (fun h9 => by have h8 := h9.2; omega)]; done) | (rw [if_pos ⟨Bool.eq_false_iff.mpr c_36, by omega⟩]; dsimp only; first | (rw [if_pos (by omega)]; done) | (rw [if_neg (by omega)]; done))) (by omega) (by omega) _ _ _ hG (lv_sub hl [0, 3, 1, 4, 5, 6, 7] rfl)
                  · skip
                    have hge2 : 0 ≤ (q_nx2 (M q) (fun i => q_inr (M 177) i n) st o k).2 := by rcases (q_nx2_in (R := M q) (pl := fun i => q_inr (M 177) i n) (st := st) (o := o) k).2 with h | h <;> omega
                    have hdb := dok5 hI ((q_nx2 (M q) (fun i => q_inr (M 177) i n) st o k).2.toNat) (by omega)
                    refine lv_iload hx hb dX6_nextOf_93 (lv_at hl 0 rfl) ?_
                    refine lv_aload_n hx hb dX6_nextOf_95 rfl (lv_at hl 5 rfl) ?_
                    refine lv_iload hx hb dX6_nextOf_96 (lv_at hl 3 rfl) ?_
                    refine g_callS (As := [.int (iZ (q_nx2 (M q) (fun i => q_inr (M 177) i n) st o k).2)]) (rest := [.ref (gad G q), .int (iZ (q_dr (M q) k))]) ⟨hx, hb, hml, hown, hts⟩ (c_X6_dogAt l G M ((q_nx2 (M q) (fun i => q_inr (M 177) i n) st o k).2)) (va_cwS 1 hts gX6_nextOf_X6_dogAt rfl rfl rfl (by decide +kernel) ⟨Nat.le_of_ble_eq_true rfl, Nat.le_of_ble_eq_true rfl⟩) hG rfl hl.1 rfl (Nat.le_of_ble_eq_true rfl) dX6_nextOf_98 ⟨Nat.zero_le _, Nat.zero_le _⟩ (fun z15 M16 H locs hp_98 hG => ?_)
                    obtain ⟨hz_98, hM_98⟩ := hp_98; replace hz_98 := hz_98.symm; subst hz_98; replace hM_98 := hM_98.symm; subst hM_98
                    rw [show (14 + 11 * ((q_nx2 (M q) (fun i => q_inr (M 177) i n) st o k).2) : Int) = (11 * (q_nx2 (M q) (fun i => q_inr (M 177) i n) st o k).2 + 14) from by omega]
                    refine lv_iconst (v := iZ 1) hx hb dX6_nextOf_101 rfl ?_
                    refine z_iadd (z := (11 * (q_nx2 (M q) (fun i => q_inr (M 177) i n) st o k).2 + 15)) hx hb (by omega) dX6_nextOf_102 ?_
                    refine g_iald (z := (q_dr (M q) (((q_nx2 (M q) (fun i => q_inr (M 177) i n) st o k).2.toNat)))) (j := (14 + 11 * (((q_nx2 (M q) (fun i => q_inr (M 177) i n) st o k).2.toNat)) + 1)) hx hb hG (o := q) hdp_q (gE_P hP G _) (by omega) (by omega) (by omega) rfl dX6_nextOf_103 ?_
                    refine z_icmp_ge (tgt := 111) hx hb (by omega) (by omega) dX6_nextOf_104 (by decide) (fun c_104 => ?_) (fun c_104 => ?_)
                    · skip
                      refine z_iinc (z := ((k : Int) + 1)) (lv' := [(6, .int (iZ ((k : Int) + 1))), (7, .int (iZ (q_dr (M q) k))), (5, .int (iZ (q_nx2 (M q) (fun i => q_inr (M 177) i n) st o k).1)), (4, .int (iZ (q_nx2 (M q) (fun i => q_inr (M 177) i n) st o k).2)), (0, .ref (gad G 169)), (1, .ref (gad G q)), (2, .int (iZ st)), (3, .int (iZ o))]) hx hb dX6_nextOf_111 hl (k := 1) rfl (by omega) (by decide) rfl (fun ls hl => ?_)
                      refine lv_goto (tgt := 11) hx hb dX6_nextOf_114 (by decide) ?_
                      exact ih_11 (k + 1) ((k : Int) + 1) ((q_nx2 (M q) (fun i => q_inr (M 177) i n) st o k).1) ((q_nx2 (M q) (fun i => q_inr (M 177) i n) st o k).2)  (by omega) (by rw [q_nx2]; first | (rw [if_neg (fun h9 => absurd h9.1 (by show ¬ (q_inr (M 177) (k : Int) n = false); rw [c_36]; decide))]; done) | (rw [if_neg (fun h9 => by have h8 := h9.2; omega)]; done) | (rw [if_pos ⟨Bool.eq_false_iff.mpr c_36, by omega⟩]; dsimp only; first | (rw [if_pos (by omega)]; done) | (rw [if_neg (by omega)]; done))) (by rw [q_nx2]; first | (rw [if_neg (fun h9 => absurd h9.1 (by show ¬ (q_inr (M 177) (k : Int) n = false); rw [c_36]; decide))]; done) | (rw [if_neg (fun h9 => by have h8 := h9.2; omega)]; done) | (rw [if_pos ⟨Bool.eq_false_iff.mpr c_36, by omega⟩]; dsimp only; first | (rw [if_pos (by omega)]; done) | (rw [if_neg (by omega)]; done))) (by omega) (by omega) _ _ _ hG (lv_sub hl [0, 2, 3, 4, 5, 6, 7] rfl)
                    · skip
                      refine lv_iload hx hb dX6_nextOf_107 (lv_at hl 1 rfl) ?_
                      refine lv_istore (lv' := [(4, .int (iZ (k : Int))), (7, .int (iZ (q_dr (M q) k))), (6, .int (iZ (k : Int))), (5, .int (iZ (q_nx2 (M q) (fun i => q_inr (M 177) i n) st o k).1)), (0, .ref (gad G 169)), (1, .ref (gad G q)), (2, .int (iZ st)), (3, .int (iZ o))]) hx hb dX6_nextOf_109 hl (by decide) rfl (fun ls hl => ?_)
                      refine z_iinc (z := ((k : Int) + 1)) (lv' := [(6, .int (iZ ((k : Int) + 1))), (4, .int (iZ (k : Int))), (7, .int (iZ (q_dr (M q) k))), (5, .int (iZ (q_nx2 (M q) (fun i => q_inr (M 177) i n) st o k).1)), (0, .ref (gad G 169)), (1, .ref (gad G q)), (2, .int (iZ st)), (3, .int (iZ o))]) hx hb dX6_nextOf_111 hl (k := 2) rfl (by omega) (by decide) rfl (fun ls hl => ?_)
                      refine lv_goto (tgt := 11) hx hb dX6_nextOf_114 (by decide) ?_
                      exact ih_11 (k + 1) ((k : Int) + 1) ((q_nx2 (M q) (fun i => q_inr (M 177) i n) st o k).1) (k : Int)  (by omega) (by rw [q_nx2]; first | (rw [if_neg (fun h9 => absurd h9.1 (by show ¬ (q_inr (M 177) (k : Int) n = false); rw [c_36]; decide))]; done) | (rw [if_neg (fun h9 => by have h8 := h9.2; omega)]; done) | (rw [if_pos ⟨Bool.eq_false_iff.mpr c_36, by omega⟩]; dsimp only; first | (rw [if_pos (by omega)]; done) | (rw [if_neg (by omega)]; done))) (by rw [q_nx2]; first | (rw [if_neg (fun h9 => absurd h9.1 (by show ¬ (q_inr (M 177) (k : Int) n = false); rw [c_36]; decide))]; done) | (rw [if_neg (fun h9 => by have h8 := h9.2; omega)]; done) | (rw [if_pos ⟨Bool.eq_false_iff.mpr c_36, by omega⟩]; dsimp only; first | (rw [if_pos (by omega)]; done) | (rw [if_neg (by omega)]; done))) (by omega) (by omega) _ _ _ hG (lv_sub hl [0, 3, 1, 4, 5, 6, 7] rfl)
              · skip
                refine lv_iload hx hb dX6_nextOf_71 (lv_at hl 1 rfl) ?_
                refine lv_istore (lv' := [(5, .int (iZ (k : Int))), (7, .int (iZ (q_dr (M q) k))), (6, .int (iZ (k : Int))), (4, .int (iZ (q_nx2 (M q) (fun i => q_inr (M 177) i n) st o k).2)), (0, .ref (gad G 169)), (1, .ref (gad G q)), (2, .int (iZ st)), (3, .int (iZ o))]) hx hb dX6_nextOf_73 hl (by decide) rfl (fun ls hl => ?_)
                refine lv_aload_n hx hb dX6_nextOf_75 rfl (lv_at hl 5 rfl) ?_
                refine lv_iload hx hb dX6_nextOf_76 (lv_at hl 2 rfl) ?_
                refine g_callS (As := [.int (iZ (k : Int))]) (rest := [.ref (gad G q)]) ⟨hx, hb, hml, hown, hts⟩ (c_X6_dogAt l G M (k : Int)) (va_cwS 1 hts gX6_nextOf_X6_dogAt rfl rfl rfl (by decide +kernel) ⟨Nat.le_of_ble_eq_true rfl, Nat.le_of_ble_eq_true rfl⟩) hG rfl hl.1 rfl (Nat.le_of_ble_eq_true rfl) dX6_nextOf_78 ⟨Nat.zero_le _, Nat.zero_le _⟩ (fun z17 M18 H locs hp_78 hG => ?_)
                obtain ⟨hz_78, hM_78⟩ := hp_78; replace hz_78 := hz_78.symm; subst hz_78; replace hM_78 := hM_78.symm; subst hM_78
                rw [show (14 + 11 * (k : Int) : Int) = (11 * (k : Int) + 14) from by omega]
                refine g_iald (z := (q_ow (M q) k)) (j := (14 + 11 * k)) hx hb hG (o := q) hdp_q (gE_P hP G _) (by omega) (by omega) (by omega) rfl dX6_nextOf_81 ?_
                refine lv_iload_n hx hb dX6_nextOf_82 rfl (lv_at hl 7 rfl) ?_
                refine z_icmp_eq (tgt := 111) hx hb (by omega) (by omega) dX6_nextOf_83 (by decide) (fun c_83 => ?_) (fun c_83 => ?_)
                · skip
                  refine z_iinc (z := ((k : Int) + 1)) (lv' := [(6, .int (iZ ((k : Int) + 1))), (5, .int (iZ (k : Int))), (7, .int (iZ (q_dr (M q) k))), (4, .int (iZ (q_nx2 (M q) (fun i => q_inr (M 177) i n) st o k).2)), (0, .ref (gad G 169)), (1, .ref (gad G q)), (2, .int (iZ st)), (3, .int (iZ o))]) hx hb dX6_nextOf_111 hl (k := 2) rfl (by omega) (by decide) rfl (fun ls hl => ?_)
                  refine lv_goto (tgt := 11) hx hb dX6_nextOf_114 (by decide) ?_
                  exact ih_11 (k + 1) ((k : Int) + 1) (k : Int) ((q_nx2 (M q) (fun i => q_inr (M 177) i n) st o k).2)  (by omega) (by rw [q_nx2]; first | (rw [if_neg (fun h9 => absurd h9.1 (by show ¬ (q_inr (M 177) (k : Int) n = false); rw [c_36]; decide))]; done) | (rw [if_neg (fun h9 => by have h8 := h9.2; omega)]; done) | (rw [if_pos ⟨Bool.eq_false_iff.mpr c_36, by omega⟩]; dsimp only; first | (rw [if_pos (by omega)]; done) | (rw [if_neg (by omega)]; done))) (by rw [q_nx2]; first | (rw [if_neg (fun h9 => absurd h9.1 (by show ¬ (q_inr (M 177) (k : Int) n = false); rw [c_36]; decide))]; done) | (rw [if_neg (fun h9 => by have h8 := h9.2; omega)]; done) | (rw [if_pos ⟨Bool.eq_false_iff.mpr c_36, by omega⟩]; dsimp only; first | (rw [if_pos (by omega)]; done) | (rw [if_neg (by omega)]; done))) (by omega) (by omega) _ _ _ hG (lv_sub hl [0, 1, 3, 4, 5, 6, 7] rfl)
                · skip
                  refine lv_iload hx hb dX6_nextOf_86 (lv_at hl 3 rfl) ?_
                  refine lv_bipush (v := iZ (-9)) hx hb dX6_nextOf_88 (by decide) ?_
                  refine z_icmp_eq (tgt := 107) hx hb (by omega) (by decide) dX6_nextOf_90 (by decide) (fun c_90 => ?_) (fun c_90 => ?_)
                  · skip
                    refine lv_iload hx hb dX6_nextOf_107 (lv_at hl 2 rfl) ?_
                    refine lv_istore (lv' := [(4, .int (iZ (k : Int))), (5, .int (iZ (k : Int))), (7, .int (iZ (q_dr (M q) k))), (6, .int (iZ (k : Int))), (0, .ref (gad G 169)), (1, .ref (gad G q)), (2, .int (iZ st)), (3, .int (iZ o))]) hx hb dX6_nextOf_109 hl (by decide) rfl (fun ls hl => ?_)
                    refine z_iinc (z := ((k : Int) + 1)) (lv' := [(6, .int (iZ ((k : Int) + 1))), (4, .int (iZ (k : Int))), (5, .int (iZ (k : Int))), (7, .int (iZ (q_dr (M q) k))), (0, .ref (gad G 169)), (1, .ref (gad G q)), (2, .int (iZ st)), (3, .int (iZ o))]) hx hb dX6_nextOf_111 hl (k := 3) rfl (by omega) (by decide) rfl (fun ls hl => ?_)
                    refine lv_goto (tgt := 11) hx hb dX6_nextOf_114 (by decide) ?_
                    exact ih_11 (k + 1) ((k : Int) + 1) (k : Int) (k : Int)  (by omega) (by rw [q_nx2]; first | (rw [if_neg (fun h9 => absurd h9.1 (by show ¬ (q_inr (M 177) (k : Int) n = false); rw [c_36]; decide))]; done) | (rw [if_neg (fun h9 => by have h8 := h9.2; omega)]; done) | (rw [if_pos ⟨Bool.eq_false_iff.mpr c_36, by omega⟩]; dsimp only; first | (rw [if_pos (by omega)]; done) | (rw [if_neg (by omega)]; done))) (by rw [q_nx2]; first | (rw [if_neg (fun h9 => absurd h9.1 (by show ¬ (q_inr (M 177) (k : Int) n = false); rw [c_36]; decide))]; done) | (rw [if_neg (fun h9 => by have h8 := h9.2; omega)]; done) | (rw [if_pos ⟨Bool.eq_false_iff.mpr c_36, by omega⟩]; dsimp only; first | (rw [if_pos (by omega)]; done) | (rw [if_neg (by omega)]; done))) (by omega) (by omega) _ _ _ hG (lv_sub hl [0, 2, 1, 4, 5, 6, 7] rfl)
                  · skip
                    have hge2 : 0 ≤ (q_nx2 (M q) (fun i => q_inr (M 177) i n) st o k).2 := by rcases (q_nx2_in (R := M q) (pl := fun i => q_inr (M 177) i n) (st := st) (o := o) k).2 with h | h <;> omega
                    have hdb := dok5 hI ((q_nx2 (M q) (fun i => q_inr (M 177) i n) st o k).2.toNat) (by omega)
                    refine lv_iload hx hb dX6_nextOf_93 (lv_at hl 1 rfl) ?_
                    refine lv_aload_n hx hb dX6_nextOf_95 rfl (lv_at hl 5 rfl) ?_
                    refine lv_iload hx hb dX6_nextOf_96 (lv_at hl 3 rfl) ?_
                    refine g_callS (As := [.int (iZ (q_nx2 (M q) (fun i => q_inr (M 177) i n) st o k).2)]) (rest := [.ref (gad G q), .int (iZ (q_dr (M q) k))]) ⟨hx, hb, hml, hown, hts⟩ (c_X6_dogAt l G M ((q_nx2 (M q) (fun i => q_inr (M 177) i n) st o k).2)) (va_cwS 1 hts gX6_nextOf_X6_dogAt rfl rfl rfl (by decide +kernel) ⟨Nat.le_of_ble_eq_true rfl, Nat.le_of_ble_eq_true rfl⟩) hG rfl hl.1 rfl (Nat.le_of_ble_eq_true rfl) dX6_nextOf_98 ⟨Nat.zero_le _, Nat.zero_le _⟩ (fun z19 M20 H locs hp_98 hG => ?_)
                    obtain ⟨hz_98, hM_98⟩ := hp_98; replace hz_98 := hz_98.symm; subst hz_98; replace hM_98 := hM_98.symm; subst hM_98
                    rw [show (14 + 11 * ((q_nx2 (M q) (fun i => q_inr (M 177) i n) st o k).2) : Int) = (11 * (q_nx2 (M q) (fun i => q_inr (M 177) i n) st o k).2 + 14) from by omega]
                    refine lv_iconst (v := iZ 1) hx hb dX6_nextOf_101 rfl ?_
                    refine z_iadd (z := (11 * (q_nx2 (M q) (fun i => q_inr (M 177) i n) st o k).2 + 15)) hx hb (by omega) dX6_nextOf_102 ?_
                    refine g_iald (z := (q_dr (M q) (((q_nx2 (M q) (fun i => q_inr (M 177) i n) st o k).2.toNat)))) (j := (14 + 11 * (((q_nx2 (M q) (fun i => q_inr (M 177) i n) st o k).2.toNat)) + 1)) hx hb hG (o := q) hdp_q (gE_P hP G _) (by omega) (by omega) (by omega) rfl dX6_nextOf_103 ?_
                    refine z_icmp_ge (tgt := 111) hx hb (by omega) (by omega) dX6_nextOf_104 (by decide) (fun c_104 => ?_) (fun c_104 => ?_)
                    · skip
                      refine z_iinc (z := ((k : Int) + 1)) (lv' := [(6, .int (iZ ((k : Int) + 1))), (5, .int (iZ (k : Int))), (7, .int (iZ (q_dr (M q) k))), (4, .int (iZ (q_nx2 (M q) (fun i => q_inr (M 177) i n) st o k).2)), (0, .ref (gad G 169)), (1, .ref (gad G q)), (2, .int (iZ st)), (3, .int (iZ o))]) hx hb dX6_nextOf_111 hl (k := 2) rfl (by omega) (by decide) rfl (fun ls hl => ?_)
                      refine lv_goto (tgt := 11) hx hb dX6_nextOf_114 (by decide) ?_
                      exact ih_11 (k + 1) ((k : Int) + 1) (k : Int) ((q_nx2 (M q) (fun i => q_inr (M 177) i n) st o k).2)  (by omega) (by rw [q_nx2]; first | (rw [if_neg (fun h9 => absurd h9.1 (by show ¬ (q_inr (M 177) (k : Int) n = false); rw [c_36]; decide))]; done) | (rw [if_neg (fun h9 => by have h8 := h9.2; omega)]; done) | (rw [if_pos ⟨Bool.eq_false_iff.mpr c_36, by omega⟩]; dsimp only; first | (rw [if_pos (by omega)]; done) | (rw [if_neg (by omega)]; done))) (by rw [q_nx2]; first | (rw [if_neg (fun h9 => absurd h9.1 (by show ¬ (q_inr (M 177) (k : Int) n = false); rw [c_36]; decide))]; done) | (rw [if_neg (fun h9 => by have h8 := h9.2; omega)]; done) | (rw [if_pos ⟨Bool.eq_false_iff.mpr c_36, by omega⟩]; dsimp only; first | (rw [if_pos (by omega)]; done) | (rw [if_neg (by omega)]; done))) (by omega) (by omega) _ _ _ hG (lv_sub hl [0, 1, 3, 4, 5, 6, 7] rfl)
                    · skip
                      refine lv_iload hx hb dX6_nextOf_107 (lv_at hl 2 rfl) ?_
                      refine lv_istore (lv' := [(4, .int (iZ (k : Int))), (5, .int (iZ (k : Int))), (7, .int (iZ (q_dr (M q) k))), (6, .int (iZ (k : Int))), (0, .ref (gad G 169)), (1, .ref (gad G q)), (2, .int (iZ st)), (3, .int (iZ o))]) hx hb dX6_nextOf_109 hl (by decide) rfl (fun ls hl => ?_)
                      refine z_iinc (z := ((k : Int) + 1)) (lv' := [(6, .int (iZ ((k : Int) + 1))), (4, .int (iZ (k : Int))), (5, .int (iZ (k : Int))), (7, .int (iZ (q_dr (M q) k))), (0, .ref (gad G 169)), (1, .ref (gad G q)), (2, .int (iZ st)), (3, .int (iZ o))]) hx hb dX6_nextOf_111 hl (k := 3) rfl (by omega) (by decide) rfl (fun ls hl => ?_)
                      refine lv_goto (tgt := 11) hx hb dX6_nextOf_114 (by decide) ?_
                      exact ih_11 (k + 1) ((k : Int) + 1) (k : Int) (k : Int)  (by omega) (by rw [q_nx2]; first | (rw [if_neg (fun h9 => absurd h9.1 (by show ¬ (q_inr (M 177) (k : Int) n = false); rw [c_36]; decide))]; done) | (rw [if_neg (fun h9 => by have h8 := h9.2; omega)]; done) | (rw [if_pos ⟨Bool.eq_false_iff.mpr c_36, by omega⟩]; dsimp only; first | (rw [if_pos (by omega)]; done) | (rw [if_neg (by omega)]; done))) (by rw [q_nx2]; first | (rw [if_neg (fun h9 => absurd h9.1 (by show ¬ (q_inr (M 177) (k : Int) n = false); rw [c_36]; decide))]; done) | (rw [if_neg (fun h9 => by have h8 := h9.2; omega)]; done) | (rw [if_pos ⟨Bool.eq_false_iff.mpr c_36, by omega⟩]; dsimp only; first | (rw [if_pos (by omega)]; done) | (rw [if_neg (by omega)]; done))) (by omega) (by omega) _ _ _ hG (lv_sub hl [0, 2, 1, 4, 5, 6, 7] rfl)
  exact L_11 _ 0 0 (-9) (-9)  rfl rfl rfl (by omega) (Nat.lt_succ_self _) _ _ _ hG (lv_sub hl [0, 1, 2, 3, 4, 5, 6] rfl)