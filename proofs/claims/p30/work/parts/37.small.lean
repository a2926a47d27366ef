/-! SMALL methods of the law -/
set_option maxHeartbeats 4000000 in
set_option maxRecDepth 100000 in
theorem c_L_worth (l : Launch) (hl0 : l.stackTraces = false) (G : gG) (hdm : ∀ k, k < 169 → gdm G k) (M0 : Nat → Nat → Int) (K : gP) (p0 : Nat) (hp0 : p0 < 6)  : gML l yL_worth wA_worth ({ frames := 0, cells := 0, slots := 0, locals := 0 } : Room) 0 G M0 (K) [.int (iZ (p0 : Int))] (fun z K1 => z = q_wth p0 ∧ K1 = K) := by
  refine gML_of (cc := cL_worth) (maxL := 1) (ret := some .int) (by decide) rfl (Nat.le_of_ble_eq_true rfl) ?_
  intro p e s m below meth c ls hx hb hr hml hown hts hlocks hl hG
  have hown : s.vm.findClass RL = some m.cls := hown
  have hl : lv_has ls 1 [(0, .int (iZ (p0 : Int)))] := hl
  refine lv_iload_n hx hb dL_worth_0 rfl (lv_at hl 0 rfl) ?_
  refine lv_iconst (v := iZ 3) hx hb dL_worth_1 rfl ?_
  refine z_icmp_ne (tgt := 10) hx hb (by omega) (by decide) dL_worth_2 (by decide) (fun c_2 => ?_) (fun c_2 => ?_)
  · skip
    refine lv_iload_n hx hb dL_worth_10 rfl (lv_at hl 0 rfl) ?_
    refine z_if_eq (tgt := 19) hx hb (by omega) dL_worth_11 (by decide) (fun c_11 => ?_) (fun c_11 => ?_)
    · skip
      refine lv_bipush (v := iZ (20)) hx hb dL_worth_19 (by decide) ?_
      refine lv_goto (tgt := 26) hx hb dL_worth_21 (by decide) ?_
      exact g_iretL (z := 20) hx hb hr hG hlocks (⟨by unfold q_wth; (repeat' split) <;> omega, rfl⟩) ⟨by omega, by omega⟩ dL_worth_26
    · skip
      refine lv_iload_n hx hb dL_worth_14 rfl (lv_at hl 0 rfl) ?_
      refine lv_iconst (v := iZ 2) hx hb dL_worth_15 rfl ?_
      refine z_icmp_ne (tgt := 24) hx hb (by omega) (by decide) dL_worth_16 (by decide) (fun c_16 => ?_) (fun c_16 => ?_)
      · skip
        refine lv_bipush (v := iZ (10)) hx hb dL_worth_24 (by decide) ?_
        exact g_iretL (z := 10) hx hb hr hG hlocks (⟨by unfold q_wth; (repeat' split) <;> omega, rfl⟩) ⟨by omega, by omega⟩ dL_worth_26
      · skip
        refine lv_bipush (v := iZ (20)) hx hb dL_worth_19 (by decide) ?_
        refine lv_goto (tgt := 26) hx hb dL_worth_21 (by decide) ?_
        exact g_iretL (z := 20) hx hb hr hG hlocks (⟨by unfold q_wth; (repeat' split) <;> omega, rfl⟩) ⟨by omega, by omega⟩ dL_worth_26
  · skip
    refine lv_bipush (v := iZ (30)) hx hb dL_worth_5 (by decide) ?_
    refine lv_goto (tgt := 26) hx hb dL_worth_7 (by decide) ?_
    exact g_iretL (z := 30) hx hb hr hG hlocks (⟨by unfold q_wth; (repeat' split) <;> omega, rfl⟩) ⟨by omega, by omega⟩ dL_worth_26
set_option maxHeartbeats 4000000 in
set_option maxRecDepth 100000 in
theorem c_L_about (l : Launch) (hl0 : l.stackTraces = false) (G : gG) (hdm : ∀ k, k < 169 → gdm G k) (M0 : Nat → Nat → Int) (σ : gS) (hσ : s_ok σ) (k : Int) (hk9 : -2147483648 ≤ k ∧ k < 2147483648) : gML l yL_about wA_about ({ frames := 9, cells := 1, slots := 6, locals := 216 } : Room) 1 G M0 (kS σ) [.ref (gad G 152), .int (iZ k)] (fun z K1 => z = a_about σ k ∧ K1 = kS σ) := by
  refine gML_of (cc := cL_about) (maxL := 2) (ret := some .int) (by decide) rfl (Nat.le_of_ble_eq_true rfl) ?_
  intro p e s m below meth c ls hx hb hr hml hown hts hlocks hl hG
  have hown : s.vm.findClass RL = some m.cls := hown
  have hl : lv_has ls 2 [(0, .ref (gad G 152)), (1, .int (iZ k))] := hl
  refine lv_aload_n hx hb dL_about_0 rfl (lv_at hl 0 rfl) ?_
  refine lv_iconst (v := iZ 2) hx hb dL_about_1 rfl ?_
  refine lv_iload_n hx hb dL_about_2 rfl (lv_at hl 1 rfl) ?_
  refine lv_iconst (v := iZ 0) hx hb dL_about_3 rfl ?_
  refine lv_iconst (v := iZ 0) hx hb dL_about_4 rfl ?_
  refine lv_iconst (v := iZ 0) hx hb dL_about_5 rfl ?_
  refine g_cL (As := [.ref (gad G 152), .int (iZ 2), .int (iZ k), .int (iZ 0), .int (iZ 0), .int (iZ 0)]) (rest := []) (1) ⟨hx, hb, hml, hown, hts⟩ (c_L_call_About l hl0 G hdm M0 σ hσ k (by omega) 0 0 0) (va_cwS 6 hts gA_about_L_call rfl rfl rfl (by decide +kernel) ⟨Nat.le_of_ble_eq_true rfl, Nat.le_of_ble_eq_true rfl⟩) hG rfl hl.1 rfl (Nat.le_of_ble_eq_true rfl) dL_about_6 ⟨by omega, by omega⟩ ⟨Nat.le_of_ble_eq_true rfl, Nat.le_of_ble_eq_true rfl⟩ (fun z1 K2 H locs hp_6 hG => ?_)
  obtain ⟨hz_6, hK_6⟩ := hp_6
  replace hz_6 := hz_6.symm; subst hz_6; replace hK_6 := hK_6.symm; subst hK_6
  exact g_iretL (z := (a_about σ k)) hx hb hr hG hlocks (⟨rfl, rfl⟩) ⟨by omega, by omega⟩ dL_about_9
set_option maxHeartbeats 4000000 in
set_option maxRecDepth 100000 in
theorem c_L_dog (l : Launch) (hl0 : l.stackTraces = false) (G : gG) (hdm : ∀ k, k < 169 → gdm G k) (M0 : Nat → Nat → Int) (σ : gS) (hσ : s_ok σ) (i : Int) (hi9 : -2147483648 ≤ i ∧ i < 2147483648) (w : Int) (hw9 : -2147483648 ≤ w ∧ w < 2147483648) : gML l yL_dog wA_dog ({ frames := 9, cells := 1, slots := 6, locals := 216 } : Room) 1 G M0 (kS σ) [.ref (gad G 152), .int (iZ i), .int (iZ w)] (fun z K1 => z = a_dog σ i w ∧ K1 = kS σ) := by
  refine gML_of (cc := cL_dog) (maxL := 3) (ret := some .int) (by decide) rfl (Nat.le_of_ble_eq_true rfl) ?_
  intro p e s m below meth c ls hx hb hr hml hown hts hlocks hl hG
  have hown : s.vm.findClass RL = some m.cls := hown
  have hl : lv_has ls 3 [(0, .ref (gad G 152)), (1, .int (iZ i)), (2, .int (iZ w))] := hl
  refine lv_aload_n hx hb dL_dog_0 rfl (lv_at hl 0 rfl) ?_
  refine lv_iconst (v := iZ 3) hx hb dL_dog_1 rfl ?_
  refine lv_iload_n hx hb dL_dog_2 rfl (lv_at hl 1 rfl) ?_
  refine lv_iload_n hx hb dL_dog_3 rfl (lv_at hl 2 rfl) ?_
  refine lv_iconst (v := iZ 0) hx hb dL_dog_4 rfl ?_
  refine lv_iconst (v := iZ 0) hx hb dL_dog_5 rfl ?_
  refine g_cL (As := [.ref (gad G 152), .int (iZ 3), .int (iZ i), .int (iZ w), .int (iZ 0), .int (iZ 0)]) (rest := []) (1) ⟨hx, hb, hml, hown, hts⟩ (c_L_call_Dog l hl0 G hdm M0 σ hσ i (by omega) w (by omega) 0 0) (va_cwS 6 hts gA_dog_L_call rfl rfl rfl (by decide +kernel) ⟨Nat.le_of_ble_eq_true rfl, Nat.le_of_ble_eq_true rfl⟩) hG rfl hl.1 rfl (Nat.le_of_ble_eq_true rfl) dL_dog_6 ⟨by omega, by omega⟩ ⟨Nat.le_of_ble_eq_true rfl, Nat.le_of_ble_eq_true rfl⟩ (fun z1 K2 H locs hp_6 hG => ?_)
  obtain ⟨hz_6, hK_6⟩ := hp_6
  replace hz_6 := hz_6.symm; subst hz_6; replace hK_6 := hK_6.symm; subst hK_6
  exact g_iretL (z := (a_dog σ i w)) hx hb hr hG hlocks (⟨rfl, rfl⟩) ⟨by omega, by omega⟩ dL_dog_9
set_option maxHeartbeats 4000000 in
set_option maxRecDepth 100000 in
theorem c_L_points (l : Launch) (hl0 : l.stackTraces = false) (G : gG) (hdm : ∀ k, k < 169 → gdm G k) (M0 : Nat → Nat → Int) (K : gP) (v : Int) (hv : 0 ≤ v ∧ v < 2147483648)  : gMLl l yL_points wA_points ({ frames := 1, cells := 0, slots := 0, locals := 20 } : Room) 0 G M0 (K) [.int (iZ v)] (fun z K1 => z = q_pv v 6 ∧ K1 = K) := by
  refine gMLl_of (cc := cL_points) (maxL := 4) (ret := some .long) (by decide) rfl (Nat.le_of_ble_eq_true rfl) ?_
  intro p e s m below meth c ls hx hb hr hml hown hts hlocks hl hG
  have hown : s.vm.findClass RL = some m.cls := hown
  have hl : lv_has ls 4 [(0, .int (iZ v))] := hl
  refine lv_lconst (v := lZ 0) hx hb dL_points_0 rfl ?_
  refine lv_lstore_n (lv' := [(1, .long (lZ 0)), (0, .int (iZ v))]) hx hb dL_points_1 rfl hl (by decide) rfl (fun ls hl => ?_)
  refine lv_iconst (v := iZ 0) hx hb dL_points_2 rfl ?_
  refine lv_istore_n (lv' := [(3, .int (iZ 0)), (1, .long (lZ 0)), (0, .int (iZ v))]) hx hb dL_points_3 rfl hl (by decide) rfl (fun ls hl => ?_)
  have L_4 : ∀ (n_4 : Nat) (k : Nat) (x_3 : Int) (x_1 : Int), (x_3 = (k : Int)) → (x_1 = (q_pv v k)) → (k ≤ 6) → 6 - k < n_4 → ∀ (H : Heap) (locs : List Loc) (ls : Array Slot), gKH G M0 (K) s H locs → lv_has ls 4 [(3, .int (iZ x_3)), (1, .long (lZ x_1)), (0, .int (iZ v))] → W p l e ({ frames := 1, cells := 0, slots := 0, locals := 20 } : Room) s m [.int (iZ v)].toArray below meth c H locs (0) (6 * (0)) (gLQl below G M0 (fun z K1 => z = q_pv v 6 ∧ K1 = K) [.int (iZ v)] s 0) (F0 m 4 ls []) := by
    intro n_4
    induction n_4 with
    | zero => intro k x_3 x_1 he_3 he_1 hk hm_4; exact absurd hm_4 (Nat.not_lt_zero _)
    | succ n_4 ih_4 =>
      intro k x_3 x_1 he_3 he_1 hk hm_4 H locs ls hG hl
      subst he_3
      subst he_1
      refine lv_iload_n hx hb dL_points_4 rfl (lv_at hl 0 rfl) ?_
      refine lv_bipush (v := iZ (6)) hx hb dL_points_5 (by decide) ?_
      refine z_icmp_ge (tgt := 36) hx hb (by omega) (by decide) dL_points_7 (by decide) (fun c_7 => ?_) (fun c_7 => ?_)
      · skip
        refine lv_lload_n hx hb dL_points_36 rfl (lv_at hl 1 rfl) ?_
        exact g_lretL (z := (q_pv v k)) hx hb hr hG hlocks (⟨by rw [show k = 6 by omega], rfl⟩) ⟨by omega, by omega⟩ dL_points_37
      · skip
        have hq1 : 0 ≤ v / ((k : Int) + 1) ∧ v / ((k : Int) + 1) < 2147483648 := ⟨Int.ediv_nonneg hv.1 (by omega), Int.lt_of_le_of_lt (Int.ediv_le_self _ hv.1) hv.2⟩
        have hw9 := wth_in k
        have hq2 : 0 ≤ v / ((k : Int) + 1) % (q_wth k + 1) ∧ v / ((k : Int) + 1) % (q_wth k + 1) < q_wth k + 1 := ⟨Int.emod_nonneg _ (by omega), Int.emod_lt_of_pos _ (by omega)⟩
        refine lv_ldc2 (v := lZ (100)) hx hb hown (by rw [show lZ (100) = (100 : Int64) from by decide]; exact hts (.constantLong RL 163 (100)) (List.mem_cons_of_mem _ (List.mem_append_left _ (by decide +kernel)))) dL_points_10 ?_
        refine lv_lload_n hx hb dL_points_13 rfl (lv_at hl 1 rfl) ?_
        refine z_lmul (z := (100 * (q_pv v k))) hx hb (by omega) dL_points_14 ?_
        refine lv_iload_n hx hb dL_points_15 rfl (lv_at hl 2 rfl) ?_
        refine lv_iload_n hx hb dL_points_16 rfl (lv_at hl 0 rfl) ?_
        refine lv_iconst (v := iZ 1) hx hb dL_points_17 rfl ?_
        refine z_iadd (z := ((k : Int) + 1)) hx hb (by omega) dL_points_18 ?_
        refine z_idiv (z := (v / ((k : Int) + 1))) hx hb (by omega) (by omega) rfl dL_points_19 ?_
        refine lv_iload_n hx hb dL_points_20 rfl (lv_at hl 0 rfl) ?_
        refine g_cL (As := [.int (iZ (k : Int))]) (rest := [.int (iZ (v / ((k : Int) + 1))), .long (lZ (100 * (q_pv v k)))]) (0) ⟨hx, hb, hml, hown, hts⟩ (c_L_worth l hl0 G hdm M0 (K) k (by omega)) (va_cwS 1 hts gA_points_L_worth rfl rfl rfl (by decide +kernel) ⟨Nat.le_of_ble_eq_true rfl, Nat.le_of_ble_eq_true rfl⟩) hG rfl hl.1 rfl (Nat.le_of_ble_eq_true rfl) dL_points_21 ⟨by omega, by omega⟩ ⟨Nat.le_of_ble_eq_true rfl, Nat.le_of_ble_eq_true rfl⟩ (fun z1 K2 H locs hp_21 hG => ?_)
        obtain ⟨hz_21, hK_21⟩ := hp_21
        replace hz_21 := hz_21.symm; subst hz_21; replace hK_21 := hK_21.symm; subst hK_21
        refine lv_iconst (v := iZ 1) hx hb dL_points_24 rfl ?_
        refine z_iadd (z := ((q_wth k) + 1)) hx hb (by omega) dL_points_25 ?_
        refine z_irem (z := ((v / ((k : Int) + 1)) % ((q_wth k) + 1))) hx hb (by omega) (by omega) rfl dL_points_26 ?_
        refine z_i2l hx hb (by omega) dL_points_27 ?_
        refine z_ladd (z := (100 * q_pv v k + v / ((k : Int) + 1) % (q_wth k + 1))) hx hb rfl dL_points_28 ?_
        refine lv_lstore_n (lv' := [(1, .long (lZ (100 * q_pv v k + v / ((k : Int) + 1) % (q_wth k + 1)))), (3, .int (iZ (k : Int))), (0, .int (iZ v))]) hx hb dL_points_29 rfl hl (by decide) rfl (fun ls hl => ?_)
        refine z_iinc (z := ((k : Int) + 1)) (lv' := [(3, .int (iZ ((k : Int) + 1))), (1, .long (lZ (100 * q_pv v k + v / ((k : Int) + 1) % (q_wth k + 1)))), (0, .int (iZ v))]) hx hb dL_points_30 hl (k := 1) rfl (by omega) (by decide) rfl (fun ls hl => ?_)
        refine lv_goto (tgt := 4) hx hb dL_points_33 (by decide) ?_
        refine W.widen (k := 0) (n := 6 * (0)) (by omega) (by omega) ?_
        exact ih_4 (k + 1) ((k : Int) + 1) (100 * q_pv v k + v / ((k : Int) + 1) % (q_wth k + 1)) (by omega) rfl (by omega) (by omega) _ _ _ hG (lv_sub hl [0, 1, 2] rfl)
  refine W.widen (k := 0) (n := 6 * (0)) (by omega) (by omega) ?_
  exact L_4 _ 0 0 0 rfl rfl (by omega) (Nat.lt_succ_self _) _ _ _ hG (lv_sub hl [0, 1, 2] rfl)
set_option maxHeartbeats 4000000 in
set_option maxRecDepth 100000 in
theorem c_L_sum (l : Launch) (hl0 : l.stackTraces = false) (G : gG) (hdm : ∀ k, k < 169 → gdm G k) (M0 : Nat → Nat → Int) (σ : gS) (hσ : s_ok σ)  : gMLl l yL_sum wA_sum ({ frames := 10, cells := 200, slots := 1200, locals := 238 } : Room) 200 G M0 (kS σ) [.ref (gad G 152)] (fun z K1 => z = q_all σ.1 ∧ K1 = kS σ) := by
  refine gMLl_of (cc := cL_sum) (maxL := 5) (ret := some .long) (by decide) rfl (Nat.le_of_ble_eq_true rfl) ?_
  intro p e s m below meth c ls hx hb hr hml hown hts hlocks hl hG
  have hown : s.vm.findClass RL = some m.cls := hown
  have hl : lv_has ls 5 [(0, .ref (gad G 152))] := hl
  have hnd : 1 ≤ q_nd σ.1 ∧ q_nd σ.1 ≤ 12 := ⟨hσ.1.2.2, hσ.1.1.1.2⟩
  refine lv_lconst (v := lZ 0) hx hb dL_sum_0 rfl ?_
  refine lv_lstore_n (lv' := [(1, .long (lZ 0)), (0, .ref (gad G 152))]) hx hb dL_sum_1 rfl hl (by decide) rfl (fun ls hl => ?_)
  refine lv_iconst (v := iZ 0) hx hb dL_sum_2 rfl ?_
  refine lv_istore_n (lv' := [(3, .int (iZ 0)), (1, .long (lZ 0)), (0, .ref (gad G 152))]) hx hb dL_sum_3 rfl hl (by decide) rfl (fun ls hl => ?_)
  have L_4 : ∀ (n_4 : Nat) (k : Nat) (x_3 : Int) (x_1 : Int), (x_3 = (k : Int)) → (x_1 = (q_su 0 (fun k => q_abt σ.1 (k : Int)) k)) → (k ≤ 17) → 17 - k < n_4 → ∀ (H : Heap) (locs : List Loc) (ls : Array Slot), gKH G M0 (kS σ) s H locs → lv_has ls 5 [(3, .int (iZ x_3)), (1, .long (lZ x_1)), (0, .ref (gad G 152))] → W p l e ({ frames := 10, cells := 200, slots := 1200, locals := 238 } : Room) s m [.ref (gad G 152)].toArray below meth c H locs (k) (6 * (k)) (gLQl below G M0 (fun z K1 => z = q_all σ.1 ∧ K1 = kS σ) [.ref (gad G 152)] s 200) (F0 m 4 ls []) := by
    intro n_4
    induction n_4 with
    | zero => intro k x_3 x_1 he_3 he_1 hk hm_4; exact absurd hm_4 (Nat.not_lt_zero _)
    | succ n_4 ih_4 =>
      intro k x_3 x_1 he_3 he_1 hk hm_4 H locs ls hG hl
      subst he_3
      subst he_1
      refine lv_iload_n hx hb dL_sum_4 rfl (lv_at hl 0 rfl) ?_
      refine lv_bipush (v := iZ (17)) hx hb dL_sum_5 (by decide) ?_
      refine z_icmp_ge (tgt := 29) hx hb (by omega) (by decide) dL_sum_7 (by decide) (fun c_7 => ?_) (fun c_7 => ?_)
      · skip
        refine lv_iconst (v := iZ 0) hx hb dL_sum_29 rfl ?_
        refine lv_istore_n (lv' := [(3, .int (iZ 0)), (1, .long (lZ (q_su 0 (fun k => q_abt σ.1 (k : Int)) k))), (0, .ref (gad G 152))]) hx hb dL_sum_30 rfl hl (by decide) rfl (fun ls hl => ?_)
        have L_31 : ∀ (n_31 : Nat) (i : Nat) (x_3 : Int) (x_1 : Int), (x_3 = (i : Int)) → (x_1 = (q_sud σ.1 i)) → ((i : Int) ≤ q_nd σ.1) → (q_nd σ.1).toNat - i < n_31 → ∀ (H : Heap) (locs : List Loc) (ls : Array Slot), gKH G M0 (kS σ) s H locs → lv_has ls 5 [(3, .int (iZ x_3)), (1, .long (lZ x_1)), (0, .ref (gad G 152))] → W p l e ({ frames := 10, cells := 200, slots := 1200, locals := 238 } : Room) s m [.ref (gad G 152)].toArray below meth c H locs (17 + 15 * i) (6 * (17 + 15 * i)) (gLQl below G M0 (fun z K1 => z = q_all σ.1 ∧ K1 = kS σ) [.ref (gad G 152)] s 200) (F0 m 31 ls []) := by
          intro n_31
          induction n_31 with
          | zero => intro i x_3 x_1 he_3 he_1 hi hm_31; exact absurd hm_31 (Nat.not_lt_zero _)
          | succ n_31 ih_31 =>
            intro i x_3 x_1 he_3 he_1 hi hm_31 H locs ls hG hl
            subst he_3
            subst he_1
            refine lv_iload_n hx hb dL_sum_31 rfl (lv_at hl 0 rfl) ?_
            refine lv_aload_n hx hb dL_sum_32 rfl (lv_at hl 2 rfl) ?_
            refine lv_iconst (v := iZ 0) hx hb dL_sum_33 rfl ?_
            refine g_cL (As := [.ref (gad G 152), .int (iZ 0)]) (rest := [.int (iZ (i : Int))]) (17 + 15 * i + 1) ⟨hx, hb, hml, hown, hts⟩ (c_L_about l hl0 G hdm M0 σ hσ 0 (by omega)) (va_cwS 2 hts gA_sum_L_about rfl rfl rfl (by decide +kernel) ⟨Nat.le_of_ble_eq_true rfl, Nat.le_of_ble_eq_true rfl⟩) hG rfl hl.1 rfl (Nat.le_of_ble_eq_true rfl) dL_sum_34 ⟨by omega, by omega⟩ ⟨by dsimp only; omega, by dsimp only; omega⟩ (fun z1 K2 H locs hp_34 hG => ?_)
            obtain ⟨hz_34, hK_34⟩ := hp_34
            replace hz_34 := hz_34.trans (a_about_0 σ)
            replace hz_34 := hz_34.symm; subst hz_34; replace hK_34 := hK_34.symm; subst hK_34
            refine z_icmp_ge (tgt := 111) hx hb (by omega) (by omega) dL_sum_37 (by decide) (fun c_37 => ?_) (fun c_37 => ?_)
            · skip
              refine lv_lload_n hx hb dL_sum_111 rfl (lv_at hl 1 rfl) ?_
              exact g_lretL (z := (q_sud σ.1 i)) hx hb hr hG hlocks (⟨by unfold q_all; rw [show i = (q_nd σ.1).toNat by omega], rfl⟩) ⟨by omega, by omega⟩ dL_sum_112
            · skip
              refine lv_iconst (v := iZ 0) hx hb dL_sum_40 rfl ?_
              refine lv_istore (lv' := [(4, .int (iZ 0)), (3, .int (iZ (i : Int))), (1, .long (lZ (q_sud σ.1 i))), (0, .ref (gad G 152))]) hx hb dL_sum_41 hl (by decide) rfl (fun ls hl => ?_)
              have L_43 : ∀ (n_43 : Nat) (k9 : Nat) (x_4 : Int) (x_1 : Int), (x_4 = (k9 : Int)) → (x_1 = (q_su (q_sud σ.1 i) (fun k => q_dga σ.1 i (k : Int)) k9)) → (k9 ≤ 8) → 8 - k9 < n_43 → ∀ (H : Heap) (locs : List Loc) (ls : Array Slot), gKH G M0 (kS σ) s H locs → lv_has ls 5 [(4, .int (iZ x_4)), (3, .int (iZ (i : Int))), (1, .long (lZ x_1)), (0, .ref (gad G 152))] → W p l e ({ frames := 10, cells := 200, slots := 1200, locals := 238 } : Room) s m [.ref (gad G 152)].toArray below meth c H locs (17 + 15 * i + 1 + k9) (6 * (17 + 15 * i + 1 + k9)) (gLQl below G M0 (fun z K1 => z = q_all σ.1 ∧ K1 = kS σ) [.ref (gad G 152)] s 200) (F0 m 43 ls []) := by
                intro n_43
                induction n_43 with
                | zero => intro k9 x_4 x_1 he_4 he_1 hk9 hm_43; exact absurd hm_43 (Nat.not_lt_zero _)
                | succ n_43 ih_43 =>
                  intro k9 x_4 x_1 he_4 he_1 hk9 hm_43 H locs ls hG hl
                  subst he_4
                  subst he_1
                  refine lv_iload hx hb dL_sum_43 (lv_at hl 0 rfl) ?_
                  refine lv_bipush (v := iZ (8)) hx hb dL_sum_45 (by decide) ?_
                  refine z_icmp_ge (tgt := 71) hx hb (by omega) (by decide) dL_sum_47 (by decide) (fun c_47 => ?_) (fun c_47 => ?_)
                  · skip
                    refine lv_iconst (v := iZ 0) hx hb dL_sum_71 rfl ?_
                    refine lv_istore (lv' := [(4, .int (iZ 0)), (3, .int (iZ (i : Int))), (1, .long (lZ (q_su (q_sud σ.1 i) (fun k => q_dga σ.1 i (k : Int)) k9))), (0, .ref (gad G 152))]) hx hb dL_sum_72 hl (by decide) rfl (fun ls hl => ?_)
                    have L_74 : ∀ (n_74 : Nat) (p9 : Nat) (x_4 : Int) (x_1 : Int), (x_4 = (p9 : Int)) → (x_1 = (q_su (q_su (q_sud σ.1 i) (fun k => q_dga σ.1 i (k : Int)) 8) (q_lv σ.1 i) p9)) → (p9 ≤ 6) → 6 - p9 < n_74 → ∀ (H : Heap) (locs : List Loc) (ls : Array Slot), gKH G M0 (kS σ) s H locs → lv_has ls 5 [(4, .int (iZ x_4)), (3, .int (iZ (i : Int))), (1, .long (lZ x_1)), (0, .ref (gad G 152))] → W p l e ({ frames := 10, cells := 200, slots := 1200, locals := 238 } : Room) s m [.ref (gad G 152)].toArray below meth c H locs (17 + 15 * i + 9 + p9) (6 * (17 + 15 * i + 9 + p9)) (gLQl below G M0 (fun z K1 => z = q_all σ.1 ∧ K1 = kS σ) [.ref (gad G 152)] s 200) (F0 m 74 ls []) := by
                      intro n_74
                      induction n_74 with
                      | zero => intro p9 x_4 x_1 he_4 he_1 hp9 hm_74; exact absurd hm_74 (Nat.not_lt_zero _)
                      | succ n_74 ih_74 =>
                        intro p9 x_4 x_1 he_4 he_1 hp9 hm_74 H locs ls hG hl
                        subst he_4
                        subst he_1
                        refine lv_iload hx hb dL_sum_74 (lv_at hl 0 rfl) ?_
                        refine lv_bipush (v := iZ (6)) hx hb dL_sum_76 (by decide) ?_
                        refine z_icmp_ge (tgt := 105) hx hb (by omega) (by decide) dL_sum_78 (by decide) (fun c_78 => ?_) (fun c_78 => ?_)
                        · skip
                          refine z_iinc (z := ((i : Int) + 1)) (lv' := [(3, .int (iZ ((i : Int) + 1))), (4, .int (iZ (p9 : Int))), (1, .long (lZ (q_su (q_su (q_sud σ.1 i) (fun k => q_dga σ.1 i (k : Int)) 8) (q_lv σ.1 i) p9))), (0, .ref (gad G 152))]) hx hb dL_sum_105 hl (k := 1) rfl (by omega) (by decide) rfl (fun ls hl => ?_)
                          refine lv_goto (tgt := 31) hx hb dL_sum_108 (by decide) ?_
                          refine W.widen (k := 17 + 15 * (i + 1)) (n := 6 * (17 + 15 * (i + 1))) (by omega) (by omega) ?_
                          exact ih_31 (i + 1) ((i : Int) + 1) (q_su (q_su (q_sud σ.1 i) (fun k => q_dga σ.1 i (k : Int)) 8) (q_lv σ.1 i) p9) (by omega) (by rw [show p9 = 6 by omega]; rfl) (by omega) (by omega) _ _ _ hG (lv_sub hl [0, 2, 3] rfl)
                        · skip
                          refine lv_ldc2 (v := lZ (131)) hx hb hown (by rw [show lZ (131) = (131 : Int64) from by decide]; exact hts (.constantLong RL 157 (131)) (List.mem_cons_of_mem _ (List.mem_append_left _ (by decide +kernel)))) dL_sum_81 ?_
                          refine lv_lload_n hx hb dL_sum_84 rfl (lv_at hl 2 rfl) ?_
                          refine z_lmul (z := (131 * (q_su (q_su (q_sud σ.1 i) (fun k => q_dga σ.1 i (k : Int)) 8) (q_lv σ.1 i) p9))) hx hb (by omega) dL_sum_85 ?_
                          refine lv_aload_n hx hb dL_sum_86 rfl (lv_at hl 3 rfl) ?_
                          refine lv_iconst (v := iZ 4) hx hb dL_sum_87 rfl ?_
                          refine lv_iload_n hx hb dL_sum_88 rfl (lv_at hl 1 rfl) ?_
                          refine lv_iload hx hb dL_sum_89 (lv_at hl 0 rfl) ?_
                          refine lv_iconst (v := iZ 0) hx hb dL_sum_91 rfl ?_
                          refine lv_iconst (v := iZ 0) hx hb dL_sum_92 rfl ?_
                          refine g_cL (As := [.ref (gad G 152), .int (iZ 4), .int (iZ (i : Int)), .int (iZ (p9 : Int)), .int (iZ 0), .int (iZ 0)]) (rest := [.long (lZ (131 * (q_su (q_su (q_sud σ.1 i) (fun k => q_dga σ.1 i (k : Int)) 8) (q_lv σ.1 i) p9)))]) (17 + 15 * i + 9 + p9 + 1) ⟨hx, hb, hml, hown, hts⟩ (c_L_call_Lost l hl0 G hdm M0 σ hσ (i : Int) (by omega) (p9 : Int) (by omega) 0 0) (va_cwS 6 hts gA_sum_L_call rfl rfl rfl (by decide +kernel) ⟨Nat.le_of_ble_eq_true rfl, Nat.le_of_ble_eq_true rfl⟩) hG rfl hl.1 rfl (Nat.le_of_ble_eq_true rfl) dL_sum_93 ⟨by omega, by omega⟩ ⟨by dsimp only; omega, by dsimp only; omega⟩ (fun z3 K4 H locs hp_93 hG => ?_)
                          obtain ⟨hz_93, hK_93⟩ := hp_93
                          replace hz_93 := hz_93.trans (a_lost_in (by omega) (by omega))
                          replace hz_93 := hz_93.symm; subst hz_93; replace hK_93 := hK_93.symm; subst hK_93
                          refine z_i2lw hx hb dL_sum_96 ?_
                          refine z_ladd (z := (131 * (q_su (q_su (q_sud σ.1 i) (fun k => q_dga σ.1 i (k : Int)) 8) (q_lv σ.1 i) p9) + ((iZ (q_lv σ.1 i p9)).toInt))) hx hb rfl dL_sum_97 ?_
                          refine lv_lstore_n (lv' := [(1, .long (lZ (131 * (q_su (q_su (q_sud σ.1 i) (fun k => q_dga σ.1 i (k : Int)) 8) (q_lv σ.1 i) p9) + ((iZ (q_lv σ.1 i p9)).toInt)))), (4, .int (iZ (p9 : Int))), (3, .int (iZ (i : Int))), (0, .ref (gad G 152))]) hx hb dL_sum_98 rfl hl (by decide) rfl (fun ls hl => ?_)
                          refine z_iinc (z := ((p9 : Int) + 1)) (lv' := [(4, .int (iZ ((p9 : Int) + 1))), (1, .long (lZ (131 * (q_su (q_su (q_sud σ.1 i) (fun k => q_dga σ.1 i (k : Int)) 8) (q_lv σ.1 i) p9) + ((iZ (q_lv σ.1 i p9)).toInt)))), (3, .int (iZ (i : Int))), (0, .ref (gad G 152))]) hx hb dL_sum_99 hl (k := 1) rfl (by omega) (by decide) rfl (fun ls hl => ?_)
                          refine lv_goto (tgt := 74) hx hb dL_sum_102 (by decide) ?_
                          refine W.widen (k := 17 + 15 * i + 9 + (p9 + 1)) (n := 6 * (17 + 15 * i + 9 + (p9 + 1))) (by omega) (by omega) ?_
                          exact ih_74 (p9 + 1) ((p9 : Int) + 1) (131 * (q_su (q_su (q_sud σ.1 i) (fun k => q_dga σ.1 i (k : Int)) 8) (q_lv σ.1 i) p9) + ((iZ (q_lv σ.1 i p9)).toInt)) (by omega) rfl (by omega) (by omega) _ _ _ hG (lv_sub hl [0, 2, 1, 3] rfl)
                    refine W.widen (k := 17 + 15 * i + 9 + 0) (n := 6 * (17 + 15 * i + 9 + 0)) (by omega) (by omega) ?_
                    exact L_74 _ 0 0 (q_su (q_sud σ.1 i) (fun k => q_dga σ.1 i (k : Int)) k9) rfl (by rw [show k9 = 8 by omega]; rfl) (by omega) (Nat.lt_succ_self _) _ _ _ hG (lv_sub hl [0, 1, 2, 3] rfl)
                  · skip
                    refine lv_ldc2 (v := lZ (131)) hx hb hown (by rw [show lZ (131) = (131 : Int64) from by decide]; exact hts (.constantLong RL 157 (131)) (List.mem_cons_of_mem _ (List.mem_append_left _ (by decide +kernel)))) dL_sum_50 ?_
                    refine lv_lload_n hx hb dL_sum_53 rfl (lv_at hl 2 rfl) ?_
                    refine z_lmul (z := (131 * (q_su (q_sud σ.1 i) (fun k => q_dga σ.1 i (k : Int)) k9))) hx hb (by omega) dL_sum_54 ?_
                    refine lv_aload_n hx hb dL_sum_55 rfl (lv_at hl 3 rfl) ?_
                    refine lv_iload_n hx hb dL_sum_56 rfl (lv_at hl 1 rfl) ?_
                    refine lv_iload hx hb dL_sum_57 (lv_at hl 0 rfl) ?_
                    refine g_cL (As := [.ref (gad G 152), .int (iZ (i : Int)), .int (iZ (k9 : Int))]) (rest := [.long (lZ (131 * (q_su (q_sud σ.1 i) (fun k => q_dga σ.1 i (k : Int)) k9)))]) (17 + 15 * i + 1 + k9 + 1) ⟨hx, hb, hml, hown, hts⟩ (c_L_dog l hl0 G hdm M0 σ hσ (i : Int) (by omega) (k9 : Int) (by omega)) (va_cwS 3 hts gA_sum_L_dog rfl rfl rfl (by decide +kernel) ⟨Nat.le_of_ble_eq_true rfl, Nat.le_of_ble_eq_true rfl⟩) hG rfl hl.1 rfl (Nat.le_of_ble_eq_true rfl) dL_sum_59 ⟨by omega, by omega⟩ ⟨by dsimp only; omega, by dsimp only; omega⟩ (fun z5 K6 H locs hp_59 hG => ?_)
                    obtain ⟨hz_59, hK_59⟩ := hp_59
                    replace hz_59 := hz_59.trans (a_dog_in σ (by omega) (by omega))
                    replace hz_59 := hz_59.symm; subst hz_59; replace hK_59 := hK_59.symm; subst hK_59
                    refine z_i2lw hx hb dL_sum_62 ?_
                    refine z_ladd (z := (131 * (q_su (q_sud σ.1 i) (fun k => q_dga σ.1 i (k : Int)) k9) + ((iZ (q_dga σ.1 i (k9 : Int))).toInt))) hx hb rfl dL_sum_63 ?_
                    refine lv_lstore_n (lv' := [(1, .long (lZ (131 * (q_su (q_sud σ.1 i) (fun k => q_dga σ.1 i (k : Int)) k9) + ((iZ (q_dga σ.1 i (k9 : Int))).toInt)))), (4, .int (iZ (k9 : Int))), (3, .int (iZ (i : Int))), (0, .ref (gad G 152))]) hx hb dL_sum_64 rfl hl (by decide) rfl (fun ls hl => ?_)
                    refine z_iinc (z := ((k9 : Int) + 1)) (lv' := [(4, .int (iZ ((k9 : Int) + 1))), (1, .long (lZ (131 * (q_su (q_sud σ.1 i) (fun k => q_dga σ.1 i (k : Int)) k9) + ((iZ (q_dga σ.1 i (k9 : Int))).toInt)))), (3, .int (iZ (i : Int))), (0, .ref (gad G 152))]) hx hb dL_sum_65 hl (k := 1) rfl (by omega) (by decide) rfl (fun ls hl => ?_)
                    refine lv_goto (tgt := 43) hx hb dL_sum_68 (by decide) ?_
                    refine W.widen (k := 17 + 15 * i + 1 + (k9 + 1)) (n := 6 * (17 + 15 * i + 1 + (k9 + 1))) (by omega) (by omega) ?_
                    exact ih_43 (k9 + 1) ((k9 : Int) + 1) (131 * (q_su (q_sud σ.1 i) (fun k => q_dga σ.1 i (k : Int)) k9) + ((iZ (q_dga σ.1 i (k9 : Int))).toInt)) (by omega) rfl (by omega) (by omega) _ _ _ hG (lv_sub hl [0, 2, 1, 3] rfl)
              refine W.widen (k := 17 + 15 * i + 1 + 0) (n := 6 * (17 + 15 * i + 1 + 0)) (by omega) (by omega) ?_
              exact L_43 _ 0 0 (q_sud σ.1 i) rfl rfl (by omega) (Nat.lt_succ_self _) _ _ _ hG (lv_sub hl [0, 1, 2, 3] rfl)
        refine W.widen (k := 17 + 15 * 0) (n := 6 * (17 + 15 * 0)) (by omega) (by omega) ?_
        exact L_31 _ 0 0 (q_su 0 (fun k => q_abt σ.1 (k : Int)) k) rfl (by rw [show k = 17 by omega]; rfl) (by omega) (Nat.lt_succ_self _) _ _ _ hG (lv_sub hl [0, 1, 2] rfl)
      · skip
        refine lv_ldc2 (v := lZ (131)) hx hb hown (by rw [show lZ (131) = (131 : Int64) from by decide]; exact hts (.constantLong RL 157 (131)) (List.mem_cons_of_mem _ (List.mem_append_left _ (by decide +kernel)))) dL_sum_10 ?_
        refine lv_lload_n hx hb dL_sum_13 rfl (lv_at hl 1 rfl) ?_
        refine z_lmul (z := (131 * (q_su 0 (fun k => q_abt σ.1 (k : Int)) k))) hx hb (by omega) dL_sum_14 ?_
        refine lv_aload_n hx hb dL_sum_15 rfl (lv_at hl 2 rfl) ?_
        refine lv_iload_n hx hb dL_sum_16 rfl (lv_at hl 0 rfl) ?_
        refine g_cL (As := [.ref (gad G 152), .int (iZ (k : Int))]) (rest := [.long (lZ (131 * (q_su 0 (fun k => q_abt σ.1 (k : Int)) k)))]) (k + 1) ⟨hx, hb, hml, hown, hts⟩ (c_L_about l hl0 G hdm M0 σ hσ (k : Int) (by omega)) (va_cwS 2 hts gA_sum_L_about rfl rfl rfl (by decide +kernel) ⟨Nat.le_of_ble_eq_true rfl, Nat.le_of_ble_eq_true rfl⟩) hG rfl hl.1 rfl (Nat.le_of_ble_eq_true rfl) dL_sum_17 ⟨by omega, by omega⟩ ⟨by dsimp only; omega, by dsimp only; omega⟩ (fun z7 K8 H locs hp_17 hG => ?_)
        obtain ⟨hz_17, hK_17⟩ := hp_17
        replace hz_17 := hz_17.trans (a_about_in σ (by omega))
        replace hz_17 := hz_17.symm; subst hz_17; replace hK_17 := hK_17.symm; subst hK_17
        refine z_i2lw hx hb dL_sum_20 ?_
        refine z_ladd (z := (131 * (q_su 0 (fun k => q_abt σ.1 (k : Int)) k) + ((iZ (q_abt σ.1 (k : Int))).toInt))) hx hb rfl dL_sum_21 ?_
        refine lv_lstore_n (lv' := [(1, .long (lZ (131 * (q_su 0 (fun k => q_abt σ.1 (k : Int)) k) + ((iZ (q_abt σ.1 (k : Int))).toInt)))), (3, .int (iZ (k : Int))), (0, .ref (gad G 152))]) hx hb dL_sum_22 rfl hl (by decide) rfl (fun ls hl => ?_)
        refine z_iinc (z := ((k : Int) + 1)) (lv' := [(3, .int (iZ ((k : Int) + 1))), (1, .long (lZ (131 * (q_su 0 (fun k => q_abt σ.1 (k : Int)) k) + ((iZ (q_abt σ.1 (k : Int))).toInt)))), (0, .ref (gad G 152))]) hx hb dL_sum_23 hl (k := 1) rfl (by omega) (by decide) rfl (fun ls hl => ?_)
        refine lv_goto (tgt := 4) hx hb dL_sum_26 (by decide) ?_
        refine W.widen (k := (k + 1)) (n := 6 * ((k + 1))) (by omega) (by omega) ?_
        exact ih_4 (k + 1) ((k : Int) + 1) (131 * (q_su 0 (fun k => q_abt σ.1 (k : Int)) k) + ((iZ (q_abt σ.1 (k : Int))).toInt)) (by omega) rfl (by omega) (by omega) _ _ _ hG (lv_sub hl [0, 1, 2] rfl)
  refine W.widen (k := 0) (n := 6 * (0)) (by omega) (by omega) ?_
  exact L_4 _ 0 0 0 rfl rfl (by omega) (Nat.lt_succ_self _) _ _ _ hG (lv_sub hl [0, 1, 2] rfl)
