set_option maxHeartbeats 4000000 in
set_option maxRecDepth 100000 in
theorem c_X3_interfereWith (l : Launch) (G : gG) (M : Nat → Nat → Int) (hdm : ∀ k, k < 169 → gdm G k) (t : Nat) (hT : isT t) (R : Nat → Int) (hR : q_tr M t R) (hI : q_inv R) (i : Nat) (hi : (i : Int) < q_nd R) (ph : Int) : gMv l yX3_interfereWith wsX3_interfereWith ({ frames := 0, cells := 0, slots := 0, locals := 0 } : Room) G M [.ref (gad G t), .int (iZ (i : Int)), .int (iZ ph)] (fun M1 => q_tr M1 t (q_brk R i ph) ∧ q_off M M1 t (t + 8)) := by
  refine gMv_of (cc := cX3_interfereWith) (maxL := 3) (ret := none) (by decide) rfl (Nat.le_of_ble_eq_true rfl) ?_
  intro p e s m below meth c ls hx hb hr hml hown hts hlocks hl hG
  have hown : s.vm.findClass RX3 = some m.cls := hown
  have hl : lv_has ls 3 [(0, .ref (gad G t)), (1, .int (iZ (i : Int))), (2, .int (iZ ph))] := hl
  have hd_t : ∀ r, r < 8 → gdm G (t + r) := fun r hr => hdm _ (by have h1 := (hT).1; have h2 := (hT).2; omega)
  have hinX3 : ∀ w ∈ u_ws RX3 TX3 15, w ∈ wsX3_interfereWith := by decide +kernel
  have f18 := hts (.fieldLink RX3 18 "DogTrials$Trial" "states" "[I") (by decide +kernel)
  have f25 := hts (.fieldLink RX3 25 "DogTrials$Trial" "anew" "[I") (by decide +kernel)
  have f59 := hts (.fieldLink RX3 59 "DogTrials$Trial" "interferences" "I") (by decide +kernel)
  have hnd := hI.1
  refine lv_aload_n hx hb dX3_interfereWith_0 rfl (lv_at hl 0 rfl) ?_
  refine g_get hx hb hts hinX3 hown hG (o := t) (hd_t 0 (by decide)) (gE_T hT G _) rfl 3 (by decide) f18 (fun _ h => h) rfl dX3_interfereWith_1 ?_
  refine lv_iload_n hx hb dX3_interfereWith_4 rfl (lv_at hl 1 rfl) ?_
  refine lv_iconst (v := iZ 2) hx hb dX3_interfereWith_5 rfl ?_
  refine g_iast (j := i) hx hb hG (o := (t + 3)) (hd_t 3 (by decide)) (fun f => gE_tI hT 3 (by decide) G f) (by omega) (by omega) (by omega) dX3_interfereWith_6 (fun H locs hG => ?_)
  obtain ⟨M1, hM1⟩ : ∃ X, X = (q_wr M (t + 3) i 2) := ⟨_, rfl⟩
  rw [← hM1] at hG
  refine lv_aload_n hx hb dX3_interfereWith_7 rfl (lv_at hl 0 rfl) ?_
  refine g_get hx hb hts hinX3 hown hG (o := t) (hd_t 0 (by decide)) (gE_T hT G _) rfl 5 (by decide) f25 (fun _ h => h) rfl dX3_interfereWith_8 ?_
  refine lv_iload_n hx hb dX3_interfereWith_11 rfl (lv_at hl 1 rfl) ?_
  refine lv_iload_n hx hb dX3_interfereWith_12 rfl (lv_at hl 2 rfl) ?_
  refine g_iast (j := i) hx hb hG (o := (t + 5)) (hd_t 5 (by decide)) (fun f => gE_tI hT 5 (by decide) G f) (by omega) (by omega) (by omega) dX3_interfereWith_13 (fun H locs hG => ?_)
  obtain ⟨M2, hM2⟩ : ∃ X, X = (q_wr M1 (t + 5) i ph) := ⟨_, rfl⟩
  rw [← hM2] at hG
  refine lv_aload_n hx hb dX3_interfereWith_14 rfl (lv_at hl 0 rfl) ?_
  refine lv_dup hx hb dX3_interfereWith_15 rfl ?_
  refine g_geti (z := (M2 t 14)) hx hb hts hinX3 hown hG (o := t) (hd_t 0 (by decide)) (gE_T hT G _) rfl 14 (by decide) f59 (fun _ h => h) rfl rfl dX3_interfereWith_16 ?_
  refine lv_iconst (v := iZ 1) hx hb dX3_interfereWith_19 rfl ?_
  refine z_iadd (z := ((M2 t 14) + 1)) hx hb (by omega) dX3_interfereWith_20 ?_
  refine g_put (F := (fun f => oT G f t)) hx hb hts hinX3 tyX3 tyX3_ok nmX3 hown hG (o := t) (hd_t 0 (by decide)) (fun f => gE_T hT G f) rfl 14 (by decide) f59 (fun _ h => h) rfl rfl (fun _ => Nat.lt_of_lt_of_le (by decide) (Nat.le_refl 15)) (fun _ => rfl) dX3_interfereWith_21 (fun H locs hG => ?_)
  obtain ⟨M3, hM3⟩ : ∃ X, X = (q_wr M2 t 14 ((M2 t 14) + 1)) := ⟨_, rfl⟩
  rw [← hM3] at hG
  have hpost : q_tr M3 t (q_brk R i ph) := by
    subst hM3
    subst hM2
    subst hM1
    obtain ⟨r0, rd, rk9, r8, r9, r10, r11, r12, r13, r14, rb⟩ := hR
    refine ⟨?_, fun j hj => ?_, fun k hk => ?_, ?_, ?_, ?_, ?_, ?_, ?_, ?_, fun j hj => ?_⟩
    · rw [q_brk_nd]; simp only [wr_ap, true_and, and_true, false_and, and_false, reduceIte] <;> (repeat' split) <;> omega
    · rw [q_brk_nd] at hj; obtain ⟨d1, d2, d3, d4, d5, d6⟩ := rd j hj; rw [q_brk_ow, q_brk_dr, q_brk_sa, q_brk_hs, q_brk_fr]
      refine ⟨?_, ?_, ?_, ?_, ?_, fun hh p hp => ?_⟩
      · simp only [wr_ap, true_and, and_true, false_and, and_false, reduceIte] <;> (repeat' split) <;> omega
      · simp only [wr_ap, true_and, and_true, false_and, and_false, reduceIte] <;> (repeat' split) <;> omega
      · simp only [wr_ap, true_and, and_true, false_and, and_false, reduceIte] <;> (repeat' split) <;> omega
      · simp only [wr_ap, true_and, and_true, false_and, and_false, reduceIte] <;> (repeat' split) <;> omega
      · simp only [wr_ap, true_and, and_true, false_and, and_false, reduceIte] <;> (repeat' split) <;> omega
      · rw [q_brk_ls _ i ph j p hp]; have d7 := d6 (by first | exact hh | omega) p hp; simp only [wr_ap, true_and, and_true, false_and, and_false, reduceIte] <;> (repeat' split) <;> omega
    · rw [q_brk_rk _ i ph k hk]; have d8 := rk9 k hk; simp only [wr_ap, true_and, and_true, false_and, and_false, reduceIte] <;> (repeat' split) <;> omega
    · rw [q_brk_s0]; simp only [wr_ap, true_and, and_true, false_and, and_false, reduceIte] <;> (repeat' split) <;> omega
    · rw [q_brk_s1]; simp only [wr_ap, true_and, and_true, false_and, and_false, reduceIte] <;> (repeat' split) <;> omega
    · rw [q_brk_s2]; simp only [wr_ap, true_and, and_true, false_and, and_false, reduceIte] <;> (repeat' split) <;> omega
    · rw [q_brk_s3]; simp only [wr_ap, true_and, and_true, false_and, and_false, reduceIte] <;> (repeat' split) <;> omega
    · rw [q_brk_s4]; simp only [wr_ap, true_and, and_true, false_and, and_false, reduceIte] <;> (repeat' split) <;> omega
    · rw [q_brk_s5]; simp only [wr_ap, true_and, and_true, false_and, and_false, reduceIte] <;> (repeat' split) <;> omega
    · rw [q_brk_s6]; simp only [wr_ap, true_and, and_true, false_and, and_false, reduceIte] <;> (repeat' split) <;> omega
    · have d9 := rb j hj; simp only [wr_ap, true_and, and_true, false_and, and_false, reduceIte] <;> (repeat' split) <;> omega
  have hoff : q_off M M3 t (t + 8) := by
    subst hM3
    subst hM2
    subst hM1
    exact (q_off.wr (q_off.wr (q_off.wr (q_off.rf _ _ _) (by omega) (by omega)) (by omega) (by omega)) (by omega) (by omega))
  exact g_vret hx hb hr hG hlocks (⟨hpost, hoff⟩) dX3_interfereWith_24
set_option maxHeartbeats 4000000 in
set_option maxRecDepth 100000 in
theorem c_X3_beginDay (l : Launch) (G : gG) (M : Nat → Nat → Int) (hdm : ∀ k, k < 169 → gdm G k) (t : Nat) (hT : isT t) (R : Nat → Int) (hR : q_tr M t R) (hI : q_inv R) (v : Int) : gMv l yX3_beginDay wsX3_beginDay ({ frames := 0, cells := 0, slots := 0, locals := 0 } : Room) G M [.ref (gad G t), .int (iZ v)] (fun M1 => q_tr M1 t (q_nxt R v) ∧ q_off M M1 t (t + 8)) := by
  refine gMv_of (cc := cX3_beginDay) (maxL := 2) (ret := none) (by decide) rfl (Nat.le_of_ble_eq_true rfl) ?_
  intro p e s m below meth c ls hx hb hr hml hown hts hlocks hl hG
  have hown : s.vm.findClass RX3 = some m.cls := hown
  have hl : lv_has ls 2 [(0, .ref (gad G t)), (1, .int (iZ v))] := hl
  have hd_t : ∀ r, r < 8 → gdm G (t + r) := fun r hr => hdm _ (by have h1 := (hT).1; have h2 := (hT).2; omega)
  have hinX3 : ∀ w ∈ u_ws RX3 TX3 15, w ∈ wsX3_beginDay := by decide +kernel
  have f41 := hts (.fieldLink RX3 41 "DogTrials$Trial" "day" "I") (by decide +kernel)
  have f44 := hts (.fieldLink RX3 44 "DogTrials$Trial" "minute" "I") (by decide +kernel)
  have f47 := hts (.fieldLink RX3 47 "DogTrials$Trial" "sunset" "I") (by decide +kernel)
  refine lv_aload_n hx hb dX3_beginDay_0 rfl (lv_at hl 0 rfl) ?_
  refine lv_dup hx hb dX3_beginDay_1 rfl ?_
  refine g_geti (z := (R 0)) hx hb hts hinX3 hown hG (o := t) (hd_t 0 (by decide)) (gE_T hT G _) rfl 8 (by decide) f41 (fun _ h => h) rfl (tr_s8 hR) dX3_beginDay_2 ?_
  refine lv_iconst (v := iZ 1) hx hb dX3_beginDay_5 rfl ?_
  refine z_iadd (z := ((R 0) + 1)) hx hb (by omega) dX3_beginDay_6 ?_
  refine g_put (F := (fun f => oT G f t)) hx hb hts hinX3 tyX3 tyX3_ok nmX3 hown hG (o := t) (hd_t 0 (by decide)) (fun f => gE_T hT G f) rfl 8 (by decide) f41 (fun _ h => h) rfl rfl (fun _ => Nat.lt_of_lt_of_le (by decide) (Nat.le_refl 15)) (fun _ => rfl) dX3_beginDay_7 (fun H locs hG => ?_)
  obtain ⟨M1, hM1⟩ : ∃ X, X = (q_wr M t 8 ((R 0) + 1)) := ⟨_, rfl⟩
  rw [← hM1] at hG
  refine lv_aload_n hx hb dX3_beginDay_10 rfl (lv_at hl 0 rfl) ?_
  refine lv_iconst (v := iZ 0) hx hb dX3_beginDay_11 rfl ?_
  refine g_put (F := (fun f => oT G f t)) hx hb hts hinX3 tyX3 tyX3_ok nmX3 hown hG (o := t) (hd_t 0 (by decide)) (fun f => gE_T hT G f) rfl 9 (by decide) f44 (fun _ h => h) rfl rfl (fun _ => Nat.lt_of_lt_of_le (by decide) (Nat.le_refl 15)) (fun _ => rfl) dX3_beginDay_12 (fun H locs hG => ?_)
  obtain ⟨M2, hM2⟩ : ∃ X, X = (q_wr M1 t 9 0) := ⟨_, rfl⟩
  rw [← hM2] at hG
  refine lv_aload_n hx hb dX3_beginDay_15 rfl (lv_at hl 0 rfl) ?_
  refine lv_iload_n hx hb dX3_beginDay_16 rfl (lv_at hl 1 rfl) ?_
  refine g_put (F := (fun f => oT G f t)) hx hb hts hinX3 tyX3 tyX3_ok nmX3 hown hG (o := t) (hd_t 0 (by decide)) (fun f => gE_T hT G f) rfl 10 (by decide) f47 (fun _ h => h) rfl rfl (fun _ => Nat.lt_of_lt_of_le (by decide) (Nat.le_refl 15)) (fun _ => rfl) dX3_beginDay_17 (fun H locs hG => ?_)
  obtain ⟨M3, hM3⟩ : ∃ X, X = (q_wr M2 t 10 v) := ⟨_, rfl⟩
  rw [← hM3] at hG
  have hpost : q_tr M3 t (q_nxt R v) := by
    subst hM3
    subst hM2
    subst hM1
    obtain ⟨r0, rd, rk9, r8, r9, r10, r11, r12, r13, r14, rb⟩ := hR
    refine ⟨?_, fun j hj => ?_, fun k hk => ?_, ?_, ?_, ?_, ?_, ?_, ?_, ?_, fun j hj => ?_⟩
    · rw [q_nxt_nd]; simp only [wr_ap, true_and, and_true, false_and, and_false, reduceIte] <;> (repeat' split) <;> omega
    · rw [q_nxt_nd] at hj; obtain ⟨d1, d2, d3, d4, d5, d6⟩ := rd j hj; rw [q_nxt_ow, q_nxt_dr, q_nxt_sa, q_nxt_hs, q_nxt_fr]
      refine ⟨?_, ?_, ?_, ?_, ?_, fun hh p hp => ?_⟩
      · simp only [wr_ap, true_and, and_true, false_and, and_false, reduceIte] <;> (repeat' split) <;> omega
      · simp only [wr_ap, true_and, and_true, false_and, and_false, reduceIte] <;> (repeat' split) <;> omega
      · simp only [wr_ap, true_and, and_true, false_and, and_false, reduceIte] <;> (repeat' split) <;> omega
      · simp only [wr_ap, true_and, and_true, false_and, and_false, reduceIte] <;> (repeat' split) <;> omega
      · simp only [wr_ap, true_and, and_true, false_and, and_false, reduceIte] <;> (repeat' split) <;> omega
      · rw [q_nxt_ls _ v j p hp]; have d7 := d6 (by first | exact hh | omega) p hp; simp only [wr_ap, true_and, and_true, false_and, and_false, reduceIte] <;> (repeat' split) <;> omega
    · rw [q_nxt_rk _ v k hk]; have d8 := rk9 k hk; simp only [wr_ap, true_and, and_true, false_and, and_false, reduceIte] <;> (repeat' split) <;> omega
    · rw [q_nxt_s0]; simp only [wr_ap, true_and, and_true, false_and, and_false, reduceIte] <;> (repeat' split) <;> omega
    · rw [q_nxt_s1]; simp only [wr_ap, true_and, and_true, false_and, and_false, reduceIte] <;> (repeat' split) <;> omega
    · rw [q_nxt_s2]; simp only [wr_ap, true_and, and_true, false_and, and_false, reduceIte] <;> (repeat' split) <;> omega
    · rw [q_nxt_s3]; simp only [wr_ap, true_and, and_true, false_and, and_false, reduceIte] <;> (repeat' split) <;> omega
    · rw [q_nxt_s4]; simp only [wr_ap, true_and, and_true, false_and, and_false, reduceIte] <;> (repeat' split) <;> omega
    · rw [q_nxt_s5]; simp only [wr_ap, true_and, and_true, false_and, and_false, reduceIte] <;> (repeat' split) <;> omega
    · rw [q_nxt_s6]; simp only [wr_ap, true_and, and_true, false_and, and_false, reduceIte] <;> (repeat' split) <;> omega
    · have d9 := rb j hj; simp only [wr_ap, true_and, and_true, false_and, and_false, reduceIte] <;> (repeat' split) <;> omega
  have hoff : q_off M M3 t (t + 8) := by
    subst hM3
    subst hM2
    subst hM1
    exact (q_off.wr (q_off.wr (q_off.wr (q_off.rf _ _ _) (by omega) (by omega)) (by omega) (by omega)) (by omega) (by omega))
  exact g_vret hx hb hr hG hlocks (⟨hpost, hoff⟩) dX3_beginDay_20
set_option maxHeartbeats 4000000 in
set_option maxRecDepth 100000 in
theorem c_X0_setSameLosses (l : Launch) (G : gG) (M : Nat → Nat → Int) (hdm : ∀ k, k < 169 → gdm G k) (q : Nat) (hC : isC q) (v : Int) : gMv l yX0_setSameLosses wsX0_setSameLosses ({ frames := 0, cells := 0, slots := 0, locals := 0 } : Room) G M [.ref (gad G q), .int (iZ v)] (fun M1 => (∀ p : Nat, p < 6 → M1 (q + 3) p = v) ∧ q_off M M1 (q + 3) (q + 4)) := by
  refine gMv_of (cc := cX0_setSameLosses) (maxL := 3) (ret := none) (by decide) rfl (Nat.le_of_ble_eq_true rfl) ?_
  intro p e s m below meth c ls hx hb hr hml hown hts hlocks hl hG
  have hown : s.vm.findClass RX0 = some m.cls := hown
  have hl : lv_has ls 3 [(0, .ref (gad G q)), (1, .int (iZ v))] := hl
  have hdc_q : ∀ r, r < 4 → gdm G (q + r) := fun r hr => hdm _ (by rcases hC with h | h <;> omega)
  have hinX0 : ∀ w ∈ u_ws RX0 TX0 4, w ∈ wsX0_setSameLosses := by decide +kernel
  have f19 := hts (.fieldLink RX0 19 "DogTrials$Course" "losses" "[I") (by decide +kernel)
  refine lv_iconst (v := iZ 0) hx hb dX0_setSameLosses_0 rfl ?_
  refine lv_istore_n (lv' := [(2, .int (iZ 0)), (0, .ref (gad G q)), (1, .int (iZ v))]) hx hb dX0_setSameLosses_1 rfl hl (by decide) rfl (fun ls hl => ?_)
  have L_2 : ∀ (n_2 : Nat) (k : Nat) (x_i : Int) (Mk : Nat → Nat → Int), (x_i = (k : Int)) → (k ≤ 6) → ((∀ j : Nat, j < k → Mk (q + 3) j = v)) → (q_off M Mk (q + 3) (q + 4)) → 6 - k < n_2 → ∀ (H : Heap) (locs : List Loc) (ls : Array Slot), gH G Mk s H locs → lv_has ls 3 [(2, .int (iZ x_i)), (0, .ref (gad G q)), (1, .int (iZ v))] → W p l e ({ frames := 0, cells := 0, slots := 0, locals := 0 } : Room) s m [.ref (gad G q), .int (iZ v)].toArray below meth c H locs 0 0 (MQ below (va_Qv (fun (u : Nat → Nat → Int) => (fun M1 => (∀ p : Nat, p < 6 → M1 (q + 3) p = v) ∧ q_off M M1 (q + 3) (q + 4)) u) (fun u U => gB G u U) (gA G)) [.ref (gad G q), .int (iZ v)].toArray s 0 0 (gA G)) (F0 m 2 ls []) := by
    intro n_2
    induction n_2 with
    | zero => intro k x_i Mk he_x_i hk hrw ho hm_2; exact absurd hm_2 (Nat.not_lt_zero _)
    | succ n_2 ih_2 =>
      intro k x_i Mk he_x_i hk hrw ho hm_2 H locs ls hG hl
      subst he_x_i
      refine lv_iload_n hx hb dX0_setSameLosses_2 rfl (lv_at hl 0 rfl) ?_
      refine lv_bipush (v := iZ (6)) hx hb dX0_setSameLosses_3 (by decide) ?_
      refine z_icmp_ge (tgt := 21) hx hb (by omega) (by decide) dX0_setSameLosses_5 (by decide) (fun c_5 => ?_) (fun c_5 => ?_)
      · skip
        exact g_vret hx hb hr hG hlocks (⟨fun j hj => hrw j (by omega), ho⟩) dX0_setSameLosses_21
      · skip
        refine lv_aload_n hx hb dX0_setSameLosses_8 rfl (lv_at hl 1 rfl) ?_
        refine g_get hx hb hts hinX0 hown hG (o := q) (hdc_q 0 (by decide)) (gE_C hC G _) rfl 3 (by decide) f19 (fun _ h => h) rfl dX0_setSameLosses_9 ?_
        refine lv_iload_n hx hb dX0_setSameLosses_12 rfl (lv_at hl 0 rfl) ?_
        refine lv_iload_n hx hb dX0_setSameLosses_13 rfl (lv_at hl 2 rfl) ?_
        refine g_iast (j := k) hx hb hG (o := (q + 3)) (hdc_q 3 (by decide)) (fun f => gE_c3 hC G f) (by omega) (by omega) (by omega) dX0_setSameLosses_14 (fun H locs hG => ?_)
        obtain ⟨M1, hM1⟩ : ∃ X, X = (q_wr Mk (q + 3) k v) := ⟨_, rfl⟩
        rw [← hM1] at hG
        refine z_iinc (z := ((k : Int) + 1)) (lv' := [(2, .int (iZ ((k : Int) + 1))), (0, .ref (gad G q)), (1, .int (iZ v))]) hx hb dX0_setSameLosses_15 hl (k := 0) rfl (by omega) (by decide) rfl (fun ls hl => ?_)
        refine lv_goto (tgt := 2) hx hb dX0_setSameLosses_18 (by decide) ?_
        exact ih_2 (k + 1) ((k : Int) + 1) M1 (by omega) (by omega) (fun j hj => by rw [hM1, wr_ap]; split; rfl; (exact hrw j (by omega))) (by rw [hM1]; exact q_off.wr ho (by omega) (by omega)) (by omega) _ _ _ hG (lv_sub hl [0, 1, 2] rfl)
  exact L_2 _ 0 0 M rfl (by omega) (fun j h => absurd h (Nat.not_lt_zero _)) (q_off.rf _ _ _) (Nat.lt_succ_self _) _ _ _ hG (lv_sub hl [0, 1, 2] rfl)
set_option maxHeartbeats 4000000 in
set_option maxRecDepth 100000 in
theorem c_X3_makeNew (l : Launch) (G : gG) (M : Nat → Nat → Int) (t : Nat) (hT : isT t) (hd_t : ∀ r, r < 8 → gdm G (t + r)) : gMv l yX3_makeNew wsX3_makeNew ({ frames := 0, cells := 0, slots := 0, locals := 0 } : Room) G M [.ref (gad G t)] (fun M1 => (M1 t 0 = 0 ∧ M1 t 8 = 0 ∧ M1 t 9 = 0 ∧ M1 t 10 = 300 ∧ M1 t 11 = -9 ∧ M1 t 12 = 0 ∧ M1 t 13 = 0 ∧ M1 t 14 = 0) ∧ (∀ k : Nat, k < 6 → M1 (t + 7) k = (k : Int)) ∧ (∀ r : Nat, 1 ≤ r → r < 7 → M1 (t + r) = M (t + r)) ∧ q_off M M1 t (t + 8)) := by
  refine gMv_of (cc := cX3_makeNew) (maxL := 2) (ret := none) (by decide) rfl (Nat.le_of_ble_eq_true rfl) ?_
  intro p e s m below meth c ls hx hb hr hml hown hts hlocks hl hG
  have hown : s.vm.findClass RX3 = some m.cls := hown
  have hl : lv_has ls 2 [(0, .ref (gad G t))] := hl
  have hinX3 : ∀ w ∈ u_ws RX3 TX3 15, w ∈ wsX3_makeNew := by decide +kernel
  have f31 := hts (.fieldLink RX3 31 "DogTrials$Trial" "rank" "[I") (by decide +kernel)
  have f37 := hts (.fieldLink RX3 37 "DogTrials$Trial" "dogs" "I") (by decide +kernel)
  have f41 := hts (.fieldLink RX3 41 "DogTrials$Trial" "day" "I") (by decide +kernel)
  have f44 := hts (.fieldLink RX3 44 "DogTrials$Trial" "minute" "I") (by decide +kernel)
  have f47 := hts (.fieldLink RX3 47 "DogTrials$Trial" "sunset" "I") (by decide +kernel)
  have f50 := hts (.fieldLink RX3 50 "DogTrials$Trial" "last" "I") (by decide +kernel)
  have f53 := hts (.fieldLink RX3 53 "DogTrials$Trial" "counted" "I") (by decide +kernel)
  have f56 := hts (.fieldLink RX3 56 "DogTrials$Trial" "tooDark" "I") (by decide +kernel)
  have f59 := hts (.fieldLink RX3 59 "DogTrials$Trial" "interferences" "I") (by decide +kernel)
  refine lv_aload_n hx hb dX3_makeNew_0 rfl (lv_at hl 0 rfl) ?_
  refine lv_iconst (v := iZ 0) hx hb dX3_makeNew_1 rfl ?_
  refine g_put (F := (fun f => oT G f t)) hx hb hts hinX3 tyX3 tyX3_ok nmX3 hown hG (o := t) (hd_t 0 (by decide)) (fun f => gE_T hT G f) rfl 0 (by decide) f37 (fun _ h => h) rfl rfl (fun _ => Nat.lt_of_lt_of_le (by decide) (Nat.le_refl 15)) (fun _ => rfl) dX3_makeNew_2 (fun H locs hG => ?_)
  obtain ⟨M1, hM1⟩ : ∃ X, X = (q_wr M t 0 0) := ⟨_, rfl⟩
  rw [← hM1] at hG
  refine lv_iconst (v := iZ 0) hx hb dX3_makeNew_5 rfl ?_
  refine lv_istore_n (lv' := [(1, .int (iZ 0)), (0, .ref (gad G t))]) hx hb dX3_makeNew_6 rfl hl (by decide) rfl (fun ls hl => ?_)
  have L_7 : ∀ (n_7 : Nat) (k : Nat) (x_i : Int) (Mk : Nat → Nat → Int), (x_i = (k : Int)) → (k ≤ 6) → ((∀ j : Nat, j < k → Mk (t + 7) j = (j : Int))) → ((∀ a, a ≠ t + 7 → Mk a = M1 a)) → 6 - k < n_7 → ∀ (H : Heap) (locs : List Loc) (ls : Array Slot), gH G Mk s H locs → lv_has ls 2 [(1, .int (iZ x_i)), (0, .ref (gad G t))] → W p l e ({ frames := 0, cells := 0, slots := 0, locals := 0 } : Room) s m [.ref (gad G t)].toArray below meth c H locs 0 0 (MQ below (va_Qv (fun (u : Nat → Nat → Int) => (fun M1 => (M1 t 0 = 0 ∧ M1 t 8 = 0 ∧ M1 t 9 = 0 ∧ M1 t 10 = 300 ∧ M1 t 11 = -9 ∧ M1 t 12 = 0 ∧ M1 t 13 = 0 ∧ M1 t 14 = 0) ∧ (∀ k : Nat, k < 6 → M1 (t + 7) k = (k : Int)) ∧ (∀ r : Nat, 1 ≤ r → r < 7 → M1 (t + r) = M (t + r)) ∧ q_off M M1 t (t + 8)) u) (fun u U => gB G u U) (gA G)) [.ref (gad G t)].toArray s 0 0 (gA G)) (F0 m 7 ls []) := by
    intro n_7
    induction n_7 with
    | zero => intro k x_i Mk he_x_i hk hrw ho hm_7; exact absurd hm_7 (Nat.not_lt_zero _)
    | succ n_7 ih_7 =>
      intro k x_i Mk he_x_i hk hrw ho hm_7 H locs ls hG hl
      subst he_x_i
      refine lv_iload_n hx hb dX3_makeNew_7 rfl (lv_at hl 0 rfl) ?_
      refine lv_bipush (v := iZ (6)) hx hb dX3_makeNew_8 (by decide) ?_
      refine z_icmp_ge (tgt := 26) hx hb (by omega) (by decide) dX3_makeNew_10 (by decide) (fun c_10 => ?_) (fun c_10 => ?_)
      · skip
        refine lv_aload_n hx hb dX3_makeNew_26 rfl (lv_at hl 1 rfl) ?_
        refine lv_iconst (v := iZ 0) hx hb dX3_makeNew_27 rfl ?_
        refine g_put (F := (fun f => oT G f t)) hx hb hts hinX3 tyX3 tyX3_ok nmX3 hown hG (o := t) (hd_t 0 (by decide)) (fun f => gE_T hT G f) rfl 8 (by decide) f41 (fun _ h => h) rfl rfl (fun _ => Nat.lt_of_lt_of_le (by decide) (Nat.le_refl 15)) (fun _ => rfl) dX3_makeNew_28 (fun H locs hG => ?_)
        obtain ⟨M2, hM2⟩ : ∃ X, X = (q_wr Mk t 8 0) := ⟨_, rfl⟩
        rw [← hM2] at hG
        refine lv_aload_n hx hb dX3_makeNew_31 rfl (lv_at hl 1 rfl) ?_
        refine lv_iconst (v := iZ 0) hx hb dX3_makeNew_32 rfl ?_
        refine g_put (F := (fun f => oT G f t)) hx hb hts hinX3 tyX3 tyX3_ok nmX3 hown hG (o := t) (hd_t 0 (by decide)) (fun f => gE_T hT G f) rfl 9 (by decide) f44 (fun _ h => h) rfl rfl (fun _ => Nat.lt_of_lt_of_le (by decide) (Nat.le_refl 15)) (fun _ => rfl) dX3_makeNew_33 (fun H locs hG => ?_)
        obtain ⟨M3, hM3⟩ : ∃ X, X = (q_wr M2 t 9 0) := ⟨_, rfl⟩
        rw [← hM3] at hG
        refine lv_aload_n hx hb dX3_makeNew_36 rfl (lv_at hl 1 rfl) ?_
        refine lv_sipush (v := iZ (300)) hx hb dX3_makeNew_37 (by decide) ?_
        refine g_put (F := (fun f => oT G f t)) hx hb hts hinX3 tyX3 tyX3_ok nmX3 hown hG (o := t) (hd_t 0 (by decide)) (fun f => gE_T hT G f) rfl 10 (by decide) f47 (fun _ h => h) rfl rfl (fun _ => Nat.lt_of_lt_of_le (by decide) (Nat.le_refl 15)) (fun _ => rfl) dX3_makeNew_40 (fun H locs hG => ?_)
        obtain ⟨M4, hM4⟩ : ∃ X, X = (q_wr M3 t 10 300) := ⟨_, rfl⟩
        rw [← hM4] at hG
        refine lv_aload_n hx hb dX3_makeNew_43 rfl (lv_at hl 1 rfl) ?_
        refine lv_bipush (v := iZ (-9)) hx hb dX3_makeNew_44 (by decide) ?_
        refine g_put (F := (fun f => oT G f t)) hx hb hts hinX3 tyX3 tyX3_ok nmX3 hown hG (o := t) (hd_t 0 (by decide)) (fun f => gE_T hT G f) rfl 11 (by decide) f50 (fun _ h => h) rfl rfl (fun _ => Nat.lt_of_lt_of_le (by decide) (Nat.le_refl 15)) (fun _ => rfl) dX3_makeNew_46 (fun H locs hG => ?_)
        obtain ⟨M5, hM5⟩ : ∃ X, X = (q_wr M4 t 11 (-9)) := ⟨_, rfl⟩
        rw [← hM5] at hG
        refine lv_aload_n hx hb dX3_makeNew_49 rfl (lv_at hl 1 rfl) ?_
        refine lv_iconst (v := iZ 0) hx hb dX3_makeNew_50 rfl ?_
        refine g_put (F := (fun f => oT G f t)) hx hb hts hinX3 tyX3 tyX3_ok nmX3 hown hG (o := t) (hd_t 0 (by decide)) (fun f => gE_T hT G f) rfl 12 (by decide) f53 (fun _ h => h) rfl rfl (fun _ => Nat.lt_of_lt_of_le (by decide) (Nat.le_refl 15)) (fun _ => rfl) dX3_makeNew_51 (fun H locs hG => ?_)
        obtain ⟨M6, hM6⟩ : ∃ X, X = (q_wr M5 t 12 0) := ⟨_, rfl⟩
        rw [← hM6] at hG
        refine lv_aload_n hx hb dX3_makeNew_54 rfl (lv_at hl 1 rfl) ?_
        refine lv_iconst (v := iZ 0) hx hb dX3_makeNew_55 rfl ?_
        refine g_put (F := (fun f => oT G f t)) hx hb hts hinX3 tyX3 tyX3_ok nmX3 hown hG (o := t) (hd_t 0 (by decide)) (fun f => gE_T hT G f) rfl 13 (by decide) f56 (fun _ h => h) rfl rfl (fun _ => Nat.lt_of_lt_of_le (by decide) (Nat.le_refl 15)) (fun _ => rfl) dX3_makeNew_56 (fun H locs hG => ?_)
        obtain ⟨M7, hM7⟩ : ∃ X, X = (q_wr M6 t 13 0) := ⟨_, rfl⟩
        rw [← hM7] at hG
        refine lv_aload_n hx hb dX3_makeNew_59 rfl (lv_at hl 1 rfl) ?_
        refine lv_iconst (v := iZ 0) hx hb dX3_makeNew_60 rfl ?_
        refine g_put (F := (fun f => oT G f t)) hx hb hts hinX3 tyX3 tyX3_ok nmX3 hown hG (o := t) (hd_t 0 (by decide)) (fun f => gE_T hT G f) rfl 14 (by decide) f59 (fun _ h => h) rfl rfl (fun _ => Nat.lt_of_lt_of_le (by decide) (Nat.le_refl 15)) (fun _ => rfl) dX3_makeNew_61 (fun H locs hG => ?_)
        obtain ⟨M8, hM8⟩ : ∃ X, X = (q_wr M7 t 14 0) := ⟨_, rfl⟩
        rw [← hM8] at hG
        have hpost : (M8 t 0 = 0 ∧ M8 t 8 = 0 ∧ M8 t 9 = 0 ∧ M8 t 10 = 300 ∧ M8 t 11 = -9 ∧ M8 t 12 = 0 ∧ M8 t 13 = 0 ∧ M8 t 14 = 0) ∧ (∀ k : Nat, k < 6 → M8 (t + 7) k = (k : Int)) ∧ (∀ r : Nat, 1 ≤ r → r < 7 → M8 (t + r) = M (t + r)) ∧ q_off M M8 t (t + 8) := by
          subst hM8
          subst hM7
          subst hM6
          subst hM5
          subst hM4
          subst hM3
          subst hM2
          have e0 := ho t (by omega)
          have e00 : Mk t 0 = 0 := by rw [e0, hM1, wr_eq]
          refine ⟨⟨?_, ?_, ?_, ?_, ?_, ?_, ?_, ?_⟩, fun k2 hk2 => ?_, fun r h1 h2 => ?_, fun a ha => ?_⟩
          iterate 8 (· simp only [wr_ap, true_and, and_true, false_and, and_false, reduceIte] <;> (repeat' split) <;> omega)
          · have e7 := hrw k2 (by omega); simp only [wr_ap, true_and, and_true, false_and, and_false, reduceIte] <;> (repeat' split) <;> omega
          · rw [wr_off _ _ _ (by omega), wr_off _ _ _ (by omega), wr_off _ _ _ (by omega), wr_off _ _ _ (by omega), wr_off _ _ _ (by omega), wr_off _ _ _ (by omega), wr_off _ _ _ (by omega), ho _ (by omega), hM1, wr_off _ _ _ (by omega)]
          · rw [wr_off _ _ _ (by omega), wr_off _ _ _ (by omega), wr_off _ _ _ (by omega), wr_off _ _ _ (by omega), wr_off _ _ _ (by omega), wr_off _ _ _ (by omega), wr_off _ _ _ (by omega), ho _ (by omega), hM1, wr_off _ _ _ (by omega)]
        exact g_vret hx hb hr hG hlocks (hpost) dX3_makeNew_64
      · skip
        refine lv_aload_n hx hb dX3_makeNew_13 rfl (lv_at hl 1 rfl) ?_
        refine g_get hx hb hts hinX3 hown hG (o := t) (hd_t 0 (by decide)) (gE_T hT G _) rfl 7 (by decide) f31 (fun _ h => h) rfl dX3_makeNew_14 ?_
        refine lv_iload_n hx hb dX3_makeNew_17 rfl (lv_at hl 0 rfl) ?_
        refine lv_iload_n hx hb dX3_makeNew_18 rfl (lv_at hl 0 rfl) ?_
        refine g_iast (j := k) hx hb hG (o := (t + 7)) (hd_t 7 (by decide)) (fun f => gE_t7 hT G f) (by omega) (by omega) (by omega) dX3_makeNew_19 (fun H locs hG => ?_)
        obtain ⟨M9, hM9⟩ : ∃ X, X = (q_wr Mk (t + 7) k (k : Int)) := ⟨_, rfl⟩
        rw [← hM9] at hG
        refine z_iinc (z := ((k : Int) + 1)) (lv' := [(1, .int (iZ ((k : Int) + 1))), (0, .ref (gad G t))]) hx hb dX3_makeNew_20 hl (k := 0) rfl (by omega) (by decide) rfl (fun ls hl => ?_)
        refine lv_goto (tgt := 7) hx hb dX3_makeNew_23 (by decide) ?_
        exact ih_7 (k + 1) ((k : Int) + 1) M9 (by omega) (by omega) (fun j hj => by rw [hM9, wr_ap]; split; (omega); (exact hrw j (by omega))) (fun a ha => by rw [hM9, wr_off _ _ _ ha]; exact ho a ha) (by omega) _ _ _ hG (lv_sub hl [0, 1] rfl)
  exact L_7 _ 0 0 M1 rfl (by omega) (fun j h => absurd h (Nat.not_lt_zero _)) (fun _ _ => rfl) (Nat.lt_succ_self _) _ _ _ hG (lv_sub hl [0, 1] rfl)
set_option maxHeartbeats 4000000 in
set_option maxRecDepth 100000 in
theorem c_X3_addDog (l : Launch) (G : gG) (M : Nat → Nat → Int) (hdm : ∀ k, k < 169 → gdm G k) (t : Nat) (hT : isT t) (R : Nat → Int) (hR : q_tr M t R) (hI : q_inv R) (n : Nat) (hn : q_nd R = (n : Int)) (hn2 : n < 12) (o d : Int) : gMi l yX3_addDog wsX3_addDog ({ frames := 0, cells := 0, slots := 0, locals := 0 } : Room) G M [.ref (gad G t), .int (iZ o), .int (iZ d)] (fun z M1 => z = (n : Int) ∧ q_tr M1 t (q_ent R n o d) ∧ q_off M M1 t (t + 8)) := by
  refine gMi_of (cc := cX3_addDog) (maxL := 4) (ret := some .int) (by decide) rfl (Nat.le_of_ble_eq_true rfl) ?_
  intro p e s m below meth c ls hx hb hr hml hown hts hlocks hl hG
  have hown : s.vm.findClass RX3 = some m.cls := hown
  have hl : lv_has ls 4 [(0, .ref (gad G t)), (1, .int (iZ o)), (2, .int (iZ d))] := hl
  have hd_t : ∀ r, r < 8 → gdm G (t + r) := fun r hr => hdm _ (by have h1 := (hT).1; have h2 := (hT).2; omega)
  have hinX3 : ∀ w ∈ u_ws RX3 TX3 15, w ∈ wsX3_addDog := by decide +kernel
  have f9 := hts (.fieldLink RX3 9 "DogTrials$Trial" "owners" "[I") (by decide +kernel)
  have f15 := hts (.fieldLink RX3 15 "DogTrials$Trial" "draws" "[I") (by decide +kernel)
  have f18 := hts (.fieldLink RX3 18 "DogTrials$Trial" "states" "[I") (by decide +kernel)
  have f21 := hts (.fieldLink RX3 21 "DogTrials$Trial" "ran" "[Z") (by decide +kernel)
  have f25 := hts (.fieldLink RX3 25 "DogTrials$Trial" "anew" "[I") (by decide +kernel)
  have f37 := hts (.fieldLink RX3 37 "DogTrials$Trial" "dogs" "I") (by decide +kernel)
  refine lv_aload_n hx hb dX3_addDog_0 rfl (lv_at hl 0 rfl) ?_
  refine g_geti (z := (n : Int)) hx hb hts hinX3 hown hG (o := t) (hd_t 0 (by decide)) (gE_T hT G _) rfl 0 (by decide) f37 (fun _ h => h) rfl ((tr_nd hR).trans hn) dX3_addDog_1 ?_
  refine lv_istore_n (lv' := [(3, .int (iZ (n : Int))), (0, .ref (gad G t)), (1, .int (iZ o)), (2, .int (iZ d))]) hx hb dX3_addDog_4 rfl hl (by decide) rfl (fun ls hl => ?_)
  refine lv_iload_n hx hb dX3_addDog_5 rfl (lv_at hl 0 rfl) ?_
  refine lv_bipush (v := iZ (12)) hx hb dX3_addDog_6 (by decide) ?_
  refine z_icmp_lt (tgt := 14) hx hb (by omega) (by decide) dX3_addDog_8 (by decide) (fun c_8 => ?_) (fun c_8 => ?_)
  · skip
    refine lv_aload_n hx hb dX3_addDog_14 rfl (lv_at hl 1 rfl) ?_
    refine g_get hx hb hts hinX3 hown hG (o := t) (hd_t 0 (by decide)) (gE_T hT G _) rfl 1 (by decide) f9 (fun _ h => h) rfl dX3_addDog_15 ?_
    refine lv_iload_n hx hb dX3_addDog_18 rfl (lv_at hl 0 rfl) ?_
    refine lv_iload_n hx hb dX3_addDog_19 rfl (lv_at hl 2 rfl) ?_
    refine g_iast (j := n) hx hb hG (o := (t + 1)) (hd_t 1 (by decide)) (fun f => gE_tI hT 1 (by decide) G f) (by omega) (by omega) (by omega) dX3_addDog_20 (fun H locs hG => ?_)
    obtain ⟨M1, hM1⟩ : ∃ X, X = (q_wr M (t + 1) n o) := ⟨_, rfl⟩
    rw [← hM1] at hG
    refine lv_aload_n hx hb dX3_addDog_21 rfl (lv_at hl 1 rfl) ?_
    refine g_get hx hb hts hinX3 hown hG (o := t) (hd_t 0 (by decide)) (gE_T hT G _) rfl 2 (by decide) f15 (fun _ h => h) rfl dX3_addDog_22 ?_
    refine lv_iload_n hx hb dX3_addDog_25 rfl (lv_at hl 0 rfl) ?_
    refine lv_iload_n hx hb dX3_addDog_26 rfl (lv_at hl 3 rfl) ?_
    refine g_iast (j := n) hx hb hG (o := (t + 2)) (hd_t 2 (by decide)) (fun f => gE_tI hT 2 (by decide) G f) (by omega) (by omega) (by omega) dX3_addDog_27 (fun H locs hG => ?_)
    obtain ⟨M2, hM2⟩ : ∃ X, X = (q_wr M1 (t + 2) n d) := ⟨_, rfl⟩
    rw [← hM2] at hG
    refine lv_aload_n hx hb dX3_addDog_28 rfl (lv_at hl 1 rfl) ?_
    refine g_get hx hb hts hinX3 hown hG (o := t) (hd_t 0 (by decide)) (gE_T hT G _) rfl 3 (by decide) f18 (fun _ h => h) rfl dX3_addDog_29 ?_
    refine lv_iload_n hx hb dX3_addDog_32 rfl (lv_at hl 0 rfl) ?_
    refine lv_iconst (v := iZ 0) hx hb dX3_addDog_33 rfl ?_
    refine g_iast (j := n) hx hb hG (o := (t + 3)) (hd_t 3 (by decide)) (fun f => gE_tI hT 3 (by decide) G f) (by omega) (by omega) (by omega) dX3_addDog_34 (fun H locs hG => ?_)
    obtain ⟨M3, hM3⟩ : ∃ X, X = (q_wr M2 (t + 3) n 0) := ⟨_, rfl⟩
    rw [← hM3] at hG
    refine lv_aload_n hx hb dX3_addDog_35 rfl (lv_at hl 1 rfl) ?_
    refine g_get hx hb hts hinX3 hown hG (o := t) (hd_t 0 (by decide)) (gE_T hT G _) rfl 4 (by decide) f21 (fun _ h => h) rfl dX3_addDog_36 ?_
    refine lv_iload_n hx hb dX3_addDog_39 rfl (lv_at hl 0 rfl) ?_
    refine lv_iconst (v := iZ 0) hx hb dX3_addDog_40 rfl ?_
    refine g_zast (j := n) hx hb hG (o := (t + 4)) (hd_t 4 (by decide)) (fun f => gE_tZ hT G f) (by omega) (by omega) (by omega) (by omega) dX3_addDog_41 (fun H locs hG => ?_)
    obtain ⟨M4, hM4⟩ : ∃ X, X = (q_wr M3 (t + 4) n 0) := ⟨_, rfl⟩
    rw [← hM4] at hG
    refine lv_aload_n hx hb dX3_addDog_42 rfl (lv_at hl 1 rfl) ?_
    refine g_get hx hb hts hinX3 hown hG (o := t) (hd_t 0 (by decide)) (gE_T hT G _) rfl 5 (by decide) f25 (fun _ h => h) rfl dX3_addDog_43 ?_
    refine lv_iload_n hx hb dX3_addDog_46 rfl (lv_at hl 0 rfl) ?_
    refine lv_bipush (v := iZ (6)) hx hb dX3_addDog_47 (by decide) ?_
    refine g_iast (j := n) hx hb hG (o := (t + 5)) (hd_t 5 (by decide)) (fun f => gE_tI hT 5 (by decide) G f) (by omega) (by omega) (by omega) dX3_addDog_49 (fun H locs hG => ?_)
    obtain ⟨M5, hM5⟩ : ∃ X, X = (q_wr M4 (t + 5) n 6) := ⟨_, rfl⟩
    rw [← hM5] at hG
    refine lv_aload_n hx hb dX3_addDog_50 rfl (lv_at hl 1 rfl) ?_
    refine lv_dup hx hb dX3_addDog_51 rfl ?_
    refine g_geti (z := (n : Int)) hx hb hts hinX3 hown hG (o := t) (hd_t 0 (by decide)) (gE_T hT G _) rfl 0 (by decide) f37 (fun _ h => h) rfl (by rw [hM5, wr_off _ _ _ (by omega), hM4, wr_off _ _ _ (by omega), hM3, wr_off _ _ _ (by omega), hM2, wr_off _ _ _ (by omega), hM1, wr_off _ _ _ (by omega)]; exact (tr_nd hR).trans hn) dX3_addDog_52 ?_
    refine lv_iconst (v := iZ 1) hx hb dX3_addDog_55 rfl ?_
    refine z_iadd (z := ((n : Int) + 1)) hx hb (by omega) dX3_addDog_56 ?_
    refine g_put (F := (fun f => oT G f t)) hx hb hts hinX3 tyX3 tyX3_ok nmX3 hown hG (o := t) (hd_t 0 (by decide)) (fun f => gE_T hT G f) rfl 0 (by decide) f37 (fun _ h => h) rfl rfl (fun _ => Nat.lt_of_lt_of_le (by decide) (Nat.le_refl 15)) (fun _ => rfl) dX3_addDog_57 (fun H locs hG => ?_)
    obtain ⟨M6, hM6⟩ : ∃ X, X = (q_wr M5 t 0 ((n : Int) + 1)) := ⟨_, rfl⟩
    rw [← hM6] at hG
    have hpost : q_tr M6 t (q_ent R n o d) := by
      subst hM6
      subst hM5
      subst hM4
      subst hM3
      subst hM2
      subst hM1
      obtain ⟨r0, rd, rk9, r8, r9, r10, r11, r12, r13, r14, rb⟩ := hR
      refine ⟨?_, fun j hj => ?_, fun k hk => ?_, ?_, ?_, ?_, ?_, ?_, ?_, ?_, fun j hj => ?_⟩
      · rw [q_ent_nd]; simp only [wr_ap, true_and, and_true, false_and, and_false, reduceIte] <;> (repeat' split) <;> omega
      · rw [q_ent_nd] at hj; rw [q_ent_ow, q_ent_dr, q_ent_sa, q_ent_hs, q_ent_fr]
        by_cases e1 : j = n
        · refine ⟨?_, ?_, ?_, ?_, ?_, fun hh p hp => ?_⟩
          · simp only [wr_ap, true_and, and_true, false_and, and_false, reduceIte] <;> (repeat' split) <;> omega
          · simp only [wr_ap, true_and, and_true, false_and, and_false, reduceIte] <;> (repeat' split) <;> omega
          · simp only [wr_ap, true_and, and_true, false_and, and_false, reduceIte] <;> (repeat' split) <;> omega
          · simp only [wr_ap, true_and, and_true, false_and, and_false, reduceIte] <;> (repeat' split) <;> omega
          · simp only [wr_ap, true_and, and_true, false_and, and_false, reduceIte] <;> (repeat' split) <;> omega
          · rw [if_pos e1] at hh; exact absurd hh (by decide)
        · obtain ⟨d1, d2, d3, d4, d5, d6⟩ := rd j (by omega)
          refine ⟨?_, ?_, ?_, ?_, ?_, fun hh p hp => ?_⟩
          · simp only [wr_ap, true_and, and_true, false_and, and_false, reduceIte] <;> (repeat' split) <;> omega
          · simp only [wr_ap, true_and, and_true, false_and, and_false, reduceIte] <;> (repeat' split) <;> omega
          · simp only [wr_ap, true_and, and_true, false_and, and_false, reduceIte] <;> (repeat' split) <;> omega
          · simp only [wr_ap, true_and, and_true, false_and, and_false, reduceIte] <;> (repeat' split) <;> omega
          · simp only [wr_ap, true_and, and_true, false_and, and_false, reduceIte] <;> (repeat' split) <;> omega
          · rw [if_neg e1] at hh; rw [q_ent_ls _ n o d j p hp, if_neg e1]; have d7 := d6 hh p hp; simp only [wr_ap, true_and, and_true, false_and, and_false, reduceIte] <;> (repeat' split) <;> omega
      · rw [q_ent_rk _ n o d k hk]; have d8 := rk9 k hk; simp only [wr_ap, true_and, and_true, false_and, and_false, reduceIte] <;> (repeat' split) <;> omega
      · rw [q_ent_s0]; simp only [wr_ap, true_and, and_true, false_and, and_false, reduceIte] <;> (repeat' split) <;> omega
      · rw [q_ent_s1]; simp only [wr_ap, true_and, and_true, false_and, and_false, reduceIte] <;> (repeat' split) <;> omega
      · rw [q_ent_s2]; simp only [wr_ap, true_and, and_true, false_and, and_false, reduceIte] <;> (repeat' split) <;> omega
      · rw [q_ent_s3]; simp only [wr_ap, true_and, and_true, false_and, and_false, reduceIte] <;> (repeat' split) <;> omega
      · rw [q_ent_s4]; simp only [wr_ap, true_and, and_true, false_and, and_false, reduceIte] <;> (repeat' split) <;> omega
      · rw [q_ent_s5]; simp only [wr_ap, true_and, and_true, false_and, and_false, reduceIte] <;> (repeat' split) <;> omega
      · rw [q_ent_s6]; simp only [wr_ap, true_and, and_true, false_and, and_false, reduceIte] <;> (repeat' split) <;> omega
      · have d9 := rb j hj; simp only [wr_ap, true_and, and_true, false_and, and_false, reduceIte] <;> (repeat' split) <;> omega
    have hoff : q_off M M6 t (t + 8) := by
      subst hM6
      subst hM5
      subst hM4
      subst hM3
      subst hM2
      subst hM1
      exact (q_off.wr (q_off.wr (q_off.wr (q_off.wr (q_off.wr (q_off.wr (q_off.rf _ _ _) (by omega) (by omega)) (by omega) (by omega)) (by omega) (by omega)) (by omega) (by omega)) (by omega) (by omega)) (by omega) (by omega))
    refine lv_iload_n hx hb dX3_addDog_60 rfl (lv_at hl 0 rfl) ?_
    exact g_iret (post := fun z M1 => z = (n : Int) ∧ q_tr M1 t (q_ent R n o d) ∧ q_off M M1 t (t + 8)) (z := (n : Int)) hx hb hr hG hlocks (⟨rfl, hpost, hoff⟩) dX3_addDog_61
  · exfalso; omega
set_option maxHeartbeats 4000000 in
set_option maxRecDepth 100000 in
theorem c_X3_noteRun (l : Launch) (G : gG) (M : Nat → Nat → Int) (hdm : ∀ k, k < 169 → gdm G k) (t : Nat) (hT : isT t) (R : Nat → Int) (hR : q_tr M t R) (hI : q_inv R) (q : Nat) (hC : isC q) (i : Nat) (hi : (i : Int) < q_nd R) : gMv l yX3_noteRun wsX3_noteRun ({ frames := 1, cells := 0, slots := 0, locals := 21 } : Room) G M [.ref (gad G t), .int (iZ (i : Int)), .ref (gad G (q + 3))] (fun M1 => q_tr M1 t (q_nr R i (fun p => M (q + 3) p)) ∧ q_off M M1 t (t + 8)) := by
  refine gMv_of (cc := cX3_noteRun) (maxL := 4) (ret := none) (by decide) rfl (Nat.le_of_ble_eq_true rfl) ?_
  intro p e s m below meth c ls hx hb hr hml hown hts hlocks hl hG
  have hown : s.vm.findClass RX3 = some m.cls := hown
  have hl : lv_has ls 4 [(0, .ref (gad G t)), (1, .int (iZ (i : Int))), (2, .ref (gad G (q + 3)))] := hl
  have hd_t : ∀ r, r < 8 → gdm G (t + r) := fun r hr => hdm _ (by have h1 := (hT).1; have h2 := (hT).2; omega)
  have hdc_q : ∀ r, r < 4 → gdm G (q + r) := fun r hr => hdm _ (by rcases hC with h | h <;> omega)
  have hinX3 : ∀ w ∈ u_ws RX3 TX3 15, w ∈ wsX3_noteRun := by decide +kernel
  have f18 := hts (.fieldLink RX3 18 "DogTrials$Trial" "states" "[I") (by decide +kernel)
  have f21 := hts (.fieldLink RX3 21 "DogTrials$Trial" "ran" "[Z") (by decide +kernel)
  have f25 := hts (.fieldLink RX3 25 "DogTrials$Trial" "anew" "[I") (by decide +kernel)
  have f28 := hts (.fieldLink RX3 28 "DogTrials$Trial" "noted" "[I") (by decide +kernel)
  have hnd := hI.1
  have hdk := dok hI i hi
  have ht1 := hT.1
  have ht2 := hT.2
  have hq := hC
  unfold isC at hq
  have hfp : 0 ≤ q_fp R i ∧ q_fp R i ≤ 6 := by unfold q_fp; split <;> omega
  have hfh : 0 < q_fp R i → q_hs R i = 1 := by unfold q_fp; split <;> omega
  refine lv_aload_n hx hb dX3_noteRun_0 rfl (lv_at hl 0 rfl) ?_
  refine lv_iload_n hx hb dX3_noteRun_1 rfl (lv_at hl 1 rfl) ?_
  refine g_callV (b := t) (As := [.int (iZ (i : Int))]) (rest := []) ⟨hx, hb, hml, hown, hts⟩ (c_X3_firstPhaseToRun l G M hdm t hT R hR hI i (by omega)) (cwV 1 hts gX3_noteRun_X3_firstPhaseToRun rfl rfl rfl (by decide +kernel) ⟨Nat.le_of_ble_eq_true rfl, Nat.le_of_ble_eq_true rfl⟩) hG (g_recv hG (b := t) (hd_t 0 (by decide)) (gE_T hT G _) rfl) rfl hl.1 rfl (Nat.le_of_ble_eq_true rfl) dX3_noteRun_2 ⟨Nat.zero_le _, Nat.zero_le _⟩ (fun z1 M2 H locs hp_2 hG => ?_)
  obtain ⟨hz_2, hM_2⟩ := hp_2; replace hz_2 := hz_2.symm; subst hz_2; replace hM_2 := hM_2.symm; subst hM_2
  rw [show q_fp R i = (((q_fp R i).toNat) : Int) by omega]
  refine lv_istore_n (lv' := [(3, .int (iZ (((q_fp R i).toNat) : Int))), (0, .ref (gad G t)), (1, .int (iZ (i : Int))), (2, .ref (gad G (q + 3)))]) hx hb dX3_noteRun_5 rfl hl (by decide) rfl (fun ls hl => ?_)
  have L_6 : ∀ (n_6 : Nat) (k : Nat) (x_i : Int) (Mk : Nat → Nat → Int), (x_i = (k : Int)) → (k ≤ 6) → ((q_fp R i).toNat ≤ k) → ((∀ b : Nat, Mk (t + 6) b = if 6 * i + (q_fp R i).toNat ≤ b ∧ b < 6 * i + k then M (q + 3) (b - 6 * i) else M (t + 6) b)) → ((∀ a, a ≠ t + 6 → Mk a = M a)) → 6 - k < n_6 → ∀ (H : Heap) (locs : List Loc) (ls : Array Slot), gH G Mk s H locs → lv_has ls 4 [(3, .int (iZ x_i)), (0, .ref (gad G t)), (1, .int (iZ (i : Int))), (2, .ref (gad G (q + 3)))] → W p l e ({ frames := 1, cells := 0, slots := 0, locals := 21 } : Room) s m [.ref (gad G t), .int (iZ (i : Int)), .ref (gad G (q + 3))].toArray below meth c H locs 0 0 (MQ below (va_Qv (fun (u : Nat → Nat → Int) => (fun M1 => q_tr M1 t (q_nr R i (fun p => M (q + 3) p)) ∧ q_off M M1 t (t + 8)) u) (fun u U => gB G u U) (gA G)) [.ref (gad G t), .int (iZ (i : Int)), .ref (gad G (q + 3))].toArray s 0 0 (gA G)) (F0 m 6 ls []) := by
    intro n_6
    induction n_6 with
    | zero => intro k x_i Mk he_x_i hk hkf hrw ho hm_6; exact absurd hm_6 (Nat.not_lt_zero _)
    | succ n_6 ih_6 =>
      intro k x_i Mk he_x_i hk hkf hrw ho hm_6 H locs ls hG hl
      subst he_x_i
      refine lv_iload_n hx hb dX3_noteRun_6 rfl (lv_at hl 0 rfl) ?_
      refine lv_bipush (v := iZ (6)) hx hb dX3_noteRun_7 (by decide) ?_
      refine z_icmp_ge (tgt := 32) hx hb (by omega) (by decide) dX3_noteRun_9 (by decide) (fun c_9 => ?_) (fun c_9 => ?_)
      · skip
        refine lv_aload_n hx hb dX3_noteRun_32 rfl (lv_at hl 1 rfl) ?_
        refine g_get hx hb hts hinX3 hown hG (o := t) (hd_t 0 (by decide)) (gE_T hT G _) rfl 3 (by decide) f18 (fun _ h => h) rfl dX3_noteRun_33 ?_
        refine lv_iload_n hx hb dX3_noteRun_36 rfl (lv_at hl 2 rfl) ?_
        refine lv_iconst (v := iZ 1) hx hb dX3_noteRun_37 rfl ?_
        refine g_iast (j := i) hx hb hG (o := (t + 3)) (hd_t 3 (by decide)) (fun f => gE_tI hT 3 (by decide) G f) (by omega) (by omega) (by omega) dX3_noteRun_38 (fun H locs hG => ?_)
        obtain ⟨M3, hM3⟩ : ∃ X, X = (q_wr Mk (t + 3) i 1) := ⟨_, rfl⟩
        rw [← hM3] at hG
        refine lv_aload_n hx hb dX3_noteRun_39 rfl (lv_at hl 1 rfl) ?_
        refine g_get hx hb hts hinX3 hown hG (o := t) (hd_t 0 (by decide)) (gE_T hT G _) rfl 4 (by decide) f21 (fun _ h => h) rfl dX3_noteRun_40 ?_
        refine lv_iload_n hx hb dX3_noteRun_43 rfl (lv_at hl 2 rfl) ?_
        refine lv_iconst (v := iZ 1) hx hb dX3_noteRun_44 rfl ?_
        refine g_zast (j := i) hx hb hG (o := (t + 4)) (hd_t 4 (by decide)) (fun f => gE_tZ hT G f) (by omega) (by omega) (by omega) (by omega) dX3_noteRun_45 (fun H locs hG => ?_)
        obtain ⟨M4, hM4⟩ : ∃ X, X = (q_wr M3 (t + 4) i 1) := ⟨_, rfl⟩
        rw [← hM4] at hG
        refine lv_aload_n hx hb dX3_noteRun_46 rfl (lv_at hl 1 rfl) ?_
        refine g_get hx hb hts hinX3 hown hG (o := t) (hd_t 0 (by decide)) (gE_T hT G _) rfl 5 (by decide) f25 (fun _ h => h) rfl dX3_noteRun_47 ?_
        refine lv_iload_n hx hb dX3_noteRun_50 rfl (lv_at hl 2 rfl) ?_
        refine lv_bipush (v := iZ (6)) hx hb dX3_noteRun_51 (by decide) ?_
        refine g_iast (j := i) hx hb hG (o := (t + 5)) (hd_t 5 (by decide)) (fun f => gE_tI hT 5 (by decide) G f) (by omega) (by omega) (by omega) dX3_noteRun_53 (fun H locs hG => ?_)
        obtain ⟨M5, hM5⟩ : ∃ X, X = (q_wr M4 (t + 5) i 6) := ⟨_, rfl⟩
        rw [← hM5] at hG
        have hpost : q_tr M5 t (q_nr R i (fun p => M (q + 3) p)) := by
          subst hM5
          subst hM4
          subst hM3
          obtain ⟨r0, rd, rk9, r8, r9, r10, r11, r12, r13, r14, rb⟩ := hR
          have z0 := ho t (by omega)
          have z1 := ho (t + 1) (by omega)
          have z2 := ho (t + 2) (by omega)
          have z3 := ho (t + 3) (by omega)
          have z4 := ho (t + 4) (by omega)
          have z5 := ho (t + 5) (by omega)
          have z7 := ho (t + 7) (by omega)
          refine ⟨?_, fun j hj => ?_, fun k2 hk2 => ?_, ?_, ?_, ?_, ?_, ?_, ?_, ?_, fun j hj => ?_⟩
          · rw [q_nr_nd]; simp only [wr_ap, z0, z1, z2, z3, z4, z5, z7, true_and, and_true, false_and, and_false, reduceIte] <;> (repeat' split) <;> omega
          · rw [q_nr_nd] at hj; obtain ⟨d1, d2, d3, d4, d5, d6⟩ := rd j hj; rw [q_nr_ow, q_nr_dr, q_nr_sa, q_nr_hs, q_nr_fr]
            refine ⟨?_, ?_, ?_, ?_, ?_, fun hh p hp => ?_⟩
            · simp only [wr_ap, z0, z1, z2, z3, z4, z5, z7, true_and, and_true, false_and, and_false, reduceIte] <;> (repeat' split) <;> omega
            · simp only [wr_ap, z0, z1, z2, z3, z4, z5, z7, true_and, and_true, false_and, and_false, reduceIte] <;> (repeat' split) <;> omega
            · simp only [wr_ap, z0, z1, z2, z3, z4, z5, z7, true_and, and_true, false_and, and_false, reduceIte] <;> (repeat' split) <;> omega
            · simp only [wr_ap, z0, z1, z2, z3, z4, z5, z7, true_and, and_true, false_and, and_false, reduceIte] <;> (repeat' split) <;> omega
            · simp only [wr_ap, z0, z1, z2, z3, z4, z5, z7, true_and, and_true, false_and, and_false, reduceIte] <;> (repeat' split) <;> omega
            · rw [q_nr_ls _ i _ j p hp]; simp only [wr_ap] <;> (repeat' split) <;> (try omega)
              all_goals rw [hrw]
              all_goals (split <;> first | (exfalso; omega) | (congr 1; omega) | (refine d6 ?_ p hp; split at hh <;> first | exact hh | (rename_i e8; rw [e8]; exact hfh (by omega))))
          · rw [q_nr_rk _ i _ k2 hk2]; have d8 := rk9 k2 hk2; simp only [wr_ap, z0, z1, z2, z3, z4, z5, z7, true_and, and_true, false_and, and_false, reduceIte] <;> (repeat' split) <;> omega
          · rw [q_nr_s0]; simp only [wr_ap, z0, z1, z2, z3, z4, z5, z7, true_and, and_true, false_and, and_false, reduceIte] <;> (repeat' split) <;> omega
          · rw [q_nr_s1]; simp only [wr_ap, z0, z1, z2, z3, z4, z5, z7, true_and, and_true, false_and, and_false, reduceIte] <;> (repeat' split) <;> omega
          · rw [q_nr_s2]; simp only [wr_ap, z0, z1, z2, z3, z4, z5, z7, true_and, and_true, false_and, and_false, reduceIte] <;> (repeat' split) <;> omega
          · rw [q_nr_s3]; simp only [wr_ap, z0, z1, z2, z3, z4, z5, z7, true_and, and_true, false_and, and_false, reduceIte] <;> (repeat' split) <;> omega
          · rw [q_nr_s4]; simp only [wr_ap, z0, z1, z2, z3, z4, z5, z7, true_and, and_true, false_and, and_false, reduceIte] <;> (repeat' split) <;> omega
          · rw [q_nr_s5]; simp only [wr_ap, z0, z1, z2, z3, z4, z5, z7, true_and, and_true, false_and, and_false, reduceIte] <;> (repeat' split) <;> omega
          · rw [q_nr_s6]; simp only [wr_ap, z0, z1, z2, z3, z4, z5, z7, true_and, and_true, false_and, and_false, reduceIte] <;> (repeat' split) <;> omega
          · have d9 := rb j hj; simp only [wr_ap, z0, z1, z2, z3, z4, z5, z7, true_and, and_true, false_and, and_false, reduceIte] <;> (repeat' split) <;> omega
        have hoff : q_off M M5 t (t + 8) := by
          subst hM5
          subst hM4
          subst hM3
          have hb : q_off M Mk t (t + 8) := fun a ha => ho a (by omega)
          exact (q_off.wr (q_off.wr (q_off.wr hb (by omega) (by omega)) (by omega) (by omega)) (by omega) (by omega))
        exact g_vret hx hb hr hG hlocks (⟨hpost, hoff⟩) dX3_noteRun_54
      · skip
        refine lv_aload_n hx hb dX3_noteRun_12 rfl (lv_at hl 1 rfl) ?_
        refine g_get hx hb hts hinX3 hown hG (o := t) (hd_t 0 (by decide)) (gE_T hT G _) rfl 6 (by decide) f28 (fun _ h => h) rfl dX3_noteRun_13 ?_
        refine lv_iload_n hx hb dX3_noteRun_16 rfl (lv_at hl 2 rfl) ?_
        refine lv_bipush (v := iZ (6)) hx hb dX3_noteRun_17 (by decide) ?_
        refine z_imul (z := (6 * (i : Int))) hx hb (by omega) dX3_noteRun_19 ?_
        refine lv_iload_n hx hb dX3_noteRun_20 rfl (lv_at hl 0 rfl) ?_
        refine z_iadd (z := (6 * (i : Int) + (k : Int))) hx hb (by omega) dX3_noteRun_21 ?_
        refine lv_aload_n hx hb dX3_noteRun_22 rfl (lv_at hl 3 rfl) ?_
        refine lv_iload_n hx hb dX3_noteRun_23 rfl (lv_at hl 0 rfl) ?_
        refine g_iald (z := (Mk (q + 3) k)) (j := k) hx hb hG (o := (q + 3)) (hdc_q 3 (by decide)) (gE_c3 hC G _) (by omega) (by omega) (by omega) rfl dX3_noteRun_24 ?_
        refine g_iast (j := (6 * i + k)) hx hb hG (o := (t + 6)) (hd_t 6 (by decide)) (fun f => gE_t6 hT G f) (by omega) (by omega) (by omega) dX3_noteRun_25 (fun H locs hG => ?_)
        obtain ⟨M6, hM6⟩ : ∃ X, X = (q_wr Mk (t + 6) (6 * i + k) (Mk (q + 3) k)) := ⟨_, rfl⟩
        rw [← hM6] at hG
        refine z_iinc (z := ((k : Int) + 1)) (lv' := [(3, .int (iZ ((k : Int) + 1))), (0, .ref (gad G t)), (1, .int (iZ (i : Int))), (2, .ref (gad G (q + 3)))]) hx hb dX3_noteRun_26 hl (k := 0) rfl (by omega) (by decide) rfl (fun ls hl => ?_)
        refine lv_goto (tgt := 6) hx hb dX3_noteRun_29 (by decide) ?_
        exact ih_6 (k + 1) ((k : Int) + 1) M6 (by omega) (by omega) (by omega) (fun b => by rw [hM6, wr_ap, hrw b, ho (q + 3) (by omega)]; (repeat' split) <;> first | rfl | (exfalso; omega) | (congr 1; omega)) (fun a ha => by rw [hM6, wr_off _ _ _ ha]; exact ho a ha) (by omega) _ _ _ hG (lv_sub hl [0, 1, 2, 3] rfl)
  exact L_6 _ ((q_fp R i).toNat) (((q_fp R i).toNat) : Int) M rfl (by omega) (by omega) (fun b => by rw [if_neg (by omega)]) (fun _ _ => rfl) (Nat.lt_succ_self _) _ _ _ hG (lv_sub hl [0, 1, 2, 3] rfl)
