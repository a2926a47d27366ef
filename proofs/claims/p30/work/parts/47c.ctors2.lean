set_option maxHeartbeats 4000000 in
set_option maxRecDepth 100000 in
theorem c_X1_init (l : Launch) (B : wB) : wMet l yX1_init wsX1_init ({ frames := 2, cells := 113, slots := 2156, locals := 41 } : Room) B 1 [.null, .int (iZ 0), .int (iZ 0)] 35 114 113 2156 := by
  refine wMet_of (cc := cX1_init) (maxL := 2) (by decide) rfl rfl (Nat.le_of_ble_eq_true rfl) ?_
  intro p e s m below meth c ls hx hb hr hml hown hts hlocks hnm0 hl h1 h2 h3
  have hown : s.vm.findClass RX1 = some m.cls := hown
  have hinX1 : ∀ w ∈ u_ws RX1 TX1 3, w ∈ wsX1_init := by decide +kernel
  have hinX3 : ∀ w ∈ u_ws RX3 TX3 15, w ∈ wsX1_init := by decide +kernel
  have hH : wH B qMI 35 1 [.null, .int (iZ 0), .int (iZ 0)] 36 s s.heap [] := ⟨h1, wN.nil, h2, va_S.rf, h3, Nat.lt_succ_self _⟩
  refine lv_aload_n hx hb dX1_init_0 rfl (lv_at hl 0 rfl) ?_
  refine W.objInit hx hb hown (hts (.methodLink RX1 3 objectInit) (by decide +kernel)) (hts (.instanceMethod objectInit) (by decide +kernel)) (hts (.code objectInit ⟨#[0xb1]⟩ 1 none) (List.mem_of_getElem? (i := 3) rfl)) rfl (by rw [hml]; exact hl.1) rfl dX1_init_1 (Nat.le_of_ble_eq_true rfl) (Nat.le_of_ble_eq_true rfl) ?_
  refine W.eq (g2 := F0 m 4 ls []) rfl ?_
  refine lv_aload_n hx hb dX1_init_4 rfl (lv_at hl 0 rfl) ?_
  refine lv_bipush (v := iZ (14)) hx hb dX1_init_5 (by decide) ?_
  obtain ⟨k1, k2, k3, k4, k5, k6⟩ := hH
  refine w_newq0 (B := B) (N := 14) hx hb hown (hts (.classLink RX1 9 RX3) (by decide +kernel)) h3 k4 k3 (by omega) (by decide) (Nat.le_of_ble_eq_true rfl) (Nat.le_of_ble_eq_true rfl) dX1_init_7 (fun H r2 z1 o1 hS => ?_)
  have r1 := k1.kept (o1 _ (wa_lt (by decide)))
  refine w_putF0 (B := B) (C := RX1) (T := TX1) (N := 3) hx hb hts hinX1 tyX1 tyX1_ok nmX1 hown h3 hS r1 (Nat.le_refl _) rfl 0 (by decide) (hts (.fieldLink RX1 11 "DogTrials$Memory" "states" "[LDogTrials$Trial;") (by decide +kernel)) (fun _ h9 => h9) rfl hnm0 rfl rfl rfl rfl (Nat.le_of_ble_eq_true rfl) dX1_init_10 (fun H locs r1n z2 o2 hS => ?_)
  refine lv_iconst (v := iZ 0) hx hb dX1_init_13 rfl ?_
  refine lv_istore_n (lv' := [(1, .int (iZ 0)), (0, .ref (wa B 35))]) hx hb dX1_init_14 rfl hl (by decide) rfl (fun ls hl => ?_)
  have hlp : ∀ (n i : Nat), i + n = 14 → ∀ (H : Heap) (locs : List Loc) (ls : Array Slot), va_at B.1 vwCl (wa B 35, .inr (1, [.ref (wa B 36), .int (iZ 0), .int (iZ 0)])) H → va_at B.1 vwCl (wa B 36, .inl (B.2.1 2, 14, .inr (.inr (.inr (.inr (fun j => if j < i then some (wa B (37 + 8 * j)) else none)))))) H → wN B qMI 37 (37 + 8 * i) H → H.size = wa B (37 + 8 * i) → va_S (fun q => wa B 35 ≤ q) s.heap H locs → lv_has ls 2 [(1, .int (iZ (i : Int))), (0, .ref (wa B 35))] → W p l e ({ frames := 2, cells := 113, slots := 2156, locals := 41 } : Room) s m #[.ref (wa B 35)] below meth c H locs (1 + 8 * i) (14 + 153 * i) (MQ below (wPost B 35 114) #[.ref (wa B 35)] s 113 2156 (fun q => wa B 35 ≤ q)) (F0 m 15 ls []) := by
    intro n
    induction n with
    | zero =>
      intro i hi H locs ls r1 r2 r3 r4 hS  hl
      obtain rfl : i = 14 := by omega
      refine lv_iload_n hx hb dX1_init_15 rfl (lv_at hl 0 rfl) ?_
      refine lv_bipush (v := iZ (14)) hx hb dX1_init_16 (by decide) ?_
      refine z_icmp_ge (tgt := 40) hx hb (by omega) (by omega) dX1_init_18 (by decide) (fun _ => ?_) (fun h9 => absurd (by omega) h9)
      refine w_ret hx hb hr hlocks (((wN.one (k := 165) (by decide) rfl ?_).join (wN.one (k := 166) (by decide) rfl ?_)).join r3) r4 hS dX1_init_40
      · exact r1
      · show H[wa B 36]? = some (vp_cell _ _)
        have r2m : H[wa B 36]? = some (vp_cell _ _) := r2
        rw [r2m, vp_cell_q]
        show _ = some (vp_cell (B.2.1 2) (14, .inr (.inr (.inr (.inr (fun j => some (gad (wF B) (8 * (5 + j)))))))))
        rw [vp_cell_q]
        refine congrArg some (arrV_cong _ _ (fun j hj => ?_))
        rw [if_pos hj]
        show va_rf (some (wa B (37 + 8 * j))) = va_rf (some (wa B (q_of (8 * (5 + j)))))
        rw [show q_of (8 * (5 + j)) = 37 + 8 * j by unfold q_of; rw [if_neg (by omega), if_neg (by omega), if_neg (by omega), if_pos (by omega)]; omega]
    | succ n ih =>
      intro i hi H locs ls r1 r2 r3 r4 hS  hl
      refine lv_iload_n hx hb dX1_init_15 rfl (lv_at hl 0 rfl) ?_
      refine lv_bipush (v := iZ (14)) hx hb dX1_init_16 (by decide) ?_
      refine z_icmp_ge (tgt := 40) hx hb (by omega) (by omega) dX1_init_18 (by decide) (fun h9 => absurd h9 (by omega)) (fun _ => ?_)
      refine lv_aload_n hx hb dX1_init_21 rfl (lv_at hl 1 rfl) ?_
      refine va_get (D := B.1) (cl := vwCl) (tys := gty (wF B)) (ws := [(wa B 35, .inr (1, [.ref (wa B 36), .int (iZ 0), .int (iZ 0)]))]) (ci := 1) (v := .ref (wa B 36)) (C := RX1) (T := TX1) (N := 3) hx hb hts hinX1 hown h3.1.1 (fun i q hi => by match i, hi with | 0, hi => cases hi; exact r1 | i + 1, hi => simp at hi) 0 rfl rfl 0 (by decide) (hts (.fieldLink RX1 11 "DogTrials$Memory" "states" "[LDogTrials$Trial;") (by decide +kernel)) (fun _ h9 => h9) rfl dX1_init_22 ?_
      refine lv_iload_n hx hb dX1_init_25 rfl (lv_at hl 0 rfl) ?_
      have hT9 : isT (40 + 8 * i) := ⟨by omega, by omega⟩
      have hq9 : ∀ r, r < 8 → q_of ((40 + 8 * i) + r) = (37 + 8 * i) + r := fun r hr => by unfold q_of; rw [if_neg (by omega), if_neg (by omega), if_neg (by omega), if_pos (by omega)]; omega
      refine w_mk0 (B := B) (C := RX3) (T := TX3) (N := 15) (fs := [.int (iZ 0), .null, .null, .null, .null, .null, .null, .null, .int (iZ 0), .int (iZ 0), .int (iZ 0), .int (iZ 0), .int (iZ 0), .int (iZ 0), .int (iZ 0)]) (z := (37 + 8 * i)) (cnt := 8) (mc := 7) (ms := 138) hx hb hts hinX3 tyX3 tyX3_ok hown (hts (.classLink RX1 9 RX3) (by decide +kernel)) (hts (.instantiable RX3 15) (by decide +kernel)) (hts (.initialized RX3) (by decide +kernel)) rfl (fun j hj => by rcases (show j = 0 ∨ j = 1 ∨ j = 2 ∨ j = 3 ∨ j = 4 ∨ j = 5 ∨ j = 6 ∨ j = 7 ∨ j = 8 ∨ j = 9 ∨ j = 10 ∨ j = 11 ∨ j = 12 ∨ j = 13 ∨ j = 14 by omega) with rfl | rfl | rfl | rfl | rfl | rfl | rfl | rfl | rfl | rfl | rfl | rfl | rfl | rfl | rfl <;> rfl) h3 hS (fun q hq => Nat.le_trans (wa_le (by omega)) hq) (fun q hq => Nat.le_trans (by unfold wa; omega) hq) r4 (by show _ ≤ 113; omega) (by show _ ≤ 2156; omega) dX1_init_26 dX1_init_29 (fun H1 hp => va_runI (As := []) ⟨hx, hb, hml, hown, hts⟩ (c_X3_init l B (40 + 8 * i) (37 + 8 * i) hT9 hq9) (cwI 0 hts gX1_init_X3_init rfl rfl rfl (hts (.initialized RX3) (by decide +kernel)) (hts (.methodLink RX1 17 yX3_init) (by decide +kernel)) (hts (.instanceMethod yX3_init) (by decide +kernel)) rfl (by decide +kernel) ⟨Nat.le_of_ble_eq_true rfl, Nat.le_of_ble_eq_true rfl⟩) hp rfl rfl hl.1 rfl (lv_room (Nat.le_of_ble_eq_true rfl)) dX1_init_30 ⟨by show _ ≤ 113; omega, by show _ ≤ 2156; omega⟩) (fun H1 locs n1 z1 o1 hS => ?_)
      have hq0 : q_of (40 + 8 * i) = (37 + 8 * i) := hq9 0 (by decide)
      have hv := n1 (40 + 8 * i) (by omega) (by rw [hq0]; exact Nat.le_refl _) (by rw [hq0]; omega)
      rw [show q_of (40 + 8 * i) = (37 + 8 * i) from hq9 0 (by decide), gE_T hT9] at hv
      refine w_aast0 (B := B) (a := wa B 36) (j := i) hx hb h3 hS (r2.kept (o1 _ (wa_lt (by omega)))) hv (wa_le (by decide)) rfl (by omega) (by decide) dX1_init_33 (fun H2 locs r2n z2 o2 hS => ?_)
      refine z_iinc (z := (i : Int) + 1) (lv' := [(1, .int (iZ ((i : Int) + 1))), (0, .ref (wa B 35))]) hx hb dX1_init_34 hl (k := 0) rfl rfl (by decide) rfl (fun ls hl => ?_)
      refine lv_goto (tgt := 15) hx hb dX1_init_37 (by decide) ?_
      refine W.widen (k := 1 + 8 * (i + 1)) (n := 14 + 153 * (i + 1)) (by omega) (by omega) ?_
      have o3 : ∀ x, x < (37 + 8 * i) → x ≠ 36 → H2[wa B x]? = H[wa B x]? := fun x h7 h8 => (o2 _ (wa_ne h8)).trans (o1 _ (wa_lt h7))
      refine ih (i + 1) (by omega) H2 locs ls (r1.kept (o3 35 (by omega) (by decide))) ?_ ?_ (z2.trans z1) hS  hl
      · show H2[wa B 36]? = some (vp_cell _ _)
        have r2m : H2[wa B 36]? = some (vp_cell _ _) := r2n
        rw [r2m, vp_cell_q, vp_cell_q]
        refine congrArg some (arrV_cong _ _ (fun j hj => ?_))
        show va_rf (va_up _ i _ j) = va_rf _
        unfold va_up
        by_cases h7 : j = i
        · subst h7; rw [if_pos rfl, if_pos (by omega)]
        · rw [if_neg h7]
          show va_rf (if j < i then some (wa B (37 + 8 * j)) else none) = _
          by_cases h8 : j < i
          · rw [if_pos h8, if_pos (by omega)]
          · rw [if_neg h8, if_neg (by omega)]
      · exact ((r3.kept (fun x h7 h8 => o1 _ (wa_lt h8))).join n1).kept (fun x h7 h8 => o2 _ (wa_ne (by omega)))
  refine hlp 14 0 rfl H locs ls r1n ?_ wN.nil (z2.trans z1) hS hl
  have r2k := r2.kept (o2 _ (wa_ne (by decide)))
  show H[wa B 36]? = some (vp_cell _ _)
  have r2m : H[wa B 36]? = some (vp_cell _ _) := r2k
  rw [r2m, vp_cell_q, vp_cell_q]
  exact congrArg some (arrV_cong _ _ (fun j hj => by rw [if_neg (Nat.not_lt_zero _)]))
set_option maxHeartbeats 4000000 in
set_option maxRecDepth 100000 in
theorem c_X5_init (l : Launch) (B : wB) : wMet l yX5_init wsX5_init ({ frames := 3, cells := 168, slots := 3076, locals := 64 } : Room) B 5 [.null, .null, .null, .null, .null, .null, .null, .null] 0 169 168 3076 := by
  refine wMet_of (cc := cX5_init) (maxL := 2) (by decide) rfl rfl (Nat.le_of_ble_eq_true rfl) ?_
  intro p e s m below meth c ls hx hb hr hml hown hts hlocks hnm0 hl h1 h2 h3
  have hown : s.vm.findClass RX5 = some m.cls := hown
  have hinX5 : ∀ w ∈ u_ws RX5 TX5 8, w ∈ wsX5_init := by decide +kernel
  have hinX3 : ∀ w ∈ u_ws RX3 TX3 15, w ∈ wsX5_init := by decide +kernel
  have hinX0 : ∀ w ∈ u_ws RX0 TX0 4, w ∈ wsX5_init := by decide +kernel
  have hinX2 : ∀ w ∈ u_ws RX2 TX2 3, w ∈ wsX5_init := by decide +kernel
  have hinX1 : ∀ w ∈ u_ws RX1 TX1 3, w ∈ wsX5_init := by decide +kernel
  have hinX4 : ∀ w ∈ u_ws RX4 TX4 3, w ∈ wsX5_init := by decide +kernel
  have hH : wH B qMI 0 5 [.null, .null, .null, .null, .null, .null, .null, .null] 1 s s.heap [] := ⟨h1, wN.nil, h2, va_S.rf, h3, Nat.lt_succ_self _⟩
  refine lv_aload_n hx hb dX5_init_0 rfl (lv_at hl 0 rfl) ?_
  refine W.objInit hx hb hown (hts (.methodLink RX5 1 objectInit) (by decide +kernel)) (hts (.instanceMethod objectInit) (by decide +kernel)) (hts (.code objectInit ⟨#[0xb1]⟩ 1 none) (List.mem_of_getElem? (i := 3) rfl)) rfl (by rw [hml]; exact hl.1) rfl dX5_init_1 (Nat.le_of_ble_eq_true rfl) (Nat.le_of_ble_eq_true rfl) ?_
  refine W.eq (g2 := F0 m 4 ls []) rfl ?_
  refine lv_aload_n hx hb dX5_init_4 rfl (lv_at hl 0 rfl) ?_
  refine w_mk (C := RX3) (T := TX3) (N := 15) (fs := [.int (iZ 0), .null, .null, .null, .null, .null, .null, .null, .int (iZ 0), .int (iZ 0), .int (iZ 0), .int (iZ 0), .int (iZ 0), .int (iZ 0), .int (iZ 0)]) (cnt := 8) (mc := 7) (ms := 138) hx hb hH hts hinX3 tyX3 tyX3_ok hown (hts (.classLink RX5 7 RX3) (by decide +kernel)) (hts (.instantiable RX3 15) (by decide +kernel)) (hts (.initialized RX3) (by decide +kernel)) rfl (fun j hj => by rcases (show j = 0 ∨ j = 1 ∨ j = 2 ∨ j = 3 ∨ j = 4 ∨ j = 5 ∨ j = 6 ∨ j = 7 ∨ j = 8 ∨ j = 9 ∨ j = 10 ∨ j = 11 ∨ j = 12 ∨ j = 13 ∨ j = 14 by omega) with rfl | rfl | rfl | rfl | rfl | rfl | rfl | rfl | rfl | rfl | rfl | rfl | rfl | rfl | rfl <;> rfl) (Nat.le_of_ble_eq_true rfl) (Nat.le_of_ble_eq_true rfl) dX5_init_5 dX5_init_8 (fun H1 hp => va_runI (As := []) ⟨hx, hb, hml, hown, hts⟩ (c_X3_init l B 0 1 ⟨by decide, by decide⟩ (by decide)) (cwI 0 hts gX5_init_X3_init rfl rfl rfl (hts (.initialized RX3) (by decide +kernel)) (hts (.methodLink RX5 9 yX3_init) (by decide +kernel)) (hts (.instanceMethod yX3_init) (by decide +kernel)) rfl (by decide +kernel) ⟨Nat.le_of_ble_eq_true rfl, Nat.le_of_ble_eq_true rfl⟩) hp rfl rfl hl.1 rfl (lv_room (Nat.le_of_ble_eq_true rfl)) dX5_init_9 ⟨Nat.le_of_ble_eq_true rfl, Nat.le_of_ble_eq_true rfl⟩) (fun H locs hH => ?_)
  refine w_putF (C := RX5) (T := TX5) (N := 8) hx hb hH hts hinX5 tyX5 tyX5_ok nmX5 hown rfl 0 (by decide) (hts (.fieldLink RX5 10 "DogTrials" "now" "LDogTrials$Trial;") (by decide +kernel)) (fun _ h9 => h9) rfl hnm0 rfl rfl rfl rfl (Nat.le_of_ble_eq_true rfl) dX5_init_12 (fun H locs hH => ?_)
  refine lv_aload_n hx hb dX5_init_15 rfl (lv_at hl 0 rfl) ?_
  refine w_mk (C := RX3) (T := TX3) (N := 15) (fs := [.int (iZ 0), .null, .null, .null, .null, .null, .null, .null, .int (iZ 0), .int (iZ 0), .int (iZ 0), .int (iZ 0), .int (iZ 0), .int (iZ 0), .int (iZ 0)]) (cnt := 8) (mc := 7) (ms := 138) hx hb hH hts hinX3 tyX3 tyX3_ok hown (hts (.classLink RX5 7 RX3) (by decide +kernel)) (hts (.instantiable RX3 15) (by decide +kernel)) (hts (.initialized RX3) (by decide +kernel)) rfl (fun j hj => by rcases (show j = 0 ∨ j = 1 ∨ j = 2 ∨ j = 3 ∨ j = 4 ∨ j = 5 ∨ j = 6 ∨ j = 7 ∨ j = 8 ∨ j = 9 ∨ j = 10 ∨ j = 11 ∨ j = 12 ∨ j = 13 ∨ j = 14 by omega) with rfl | rfl | rfl | rfl | rfl | rfl | rfl | rfl | rfl | rfl | rfl | rfl | rfl | rfl | rfl <;> rfl) (Nat.le_of_ble_eq_true rfl) (Nat.le_of_ble_eq_true rfl) dX5_init_16 dX5_init_19 (fun H1 hp => va_runI (As := []) ⟨hx, hb, hml, hown, hts⟩ (c_X3_init l B 8 9 ⟨by decide, by decide⟩ (by decide)) (cwI 0 hts gX5_init_X3_init rfl rfl rfl (hts (.initialized RX3) (by decide +kernel)) (hts (.methodLink RX5 9 yX3_init) (by decide +kernel)) (hts (.instanceMethod yX3_init) (by decide +kernel)) rfl (by decide +kernel) ⟨Nat.le_of_ble_eq_true rfl, Nat.le_of_ble_eq_true rfl⟩) hp rfl rfl hl.1 rfl (lv_room (Nat.le_of_ble_eq_true rfl)) dX5_init_20 ⟨Nat.le_of_ble_eq_true rfl, Nat.le_of_ble_eq_true rfl⟩) (fun H locs hH => ?_)
  refine w_putF (C := RX5) (T := TX5) (N := 8) hx hb hH hts hinX5 tyX5 tyX5_ok nmX5 hown rfl 1 (by decide) (hts (.fieldLink RX5 16 "DogTrials" "supposed" "LDogTrials$Trial;") (by decide +kernel)) (fun _ h9 => h9) rfl hnm0 rfl rfl rfl rfl (Nat.le_of_ble_eq_true rfl) dX5_init_23 (fun H locs hH => ?_)
  refine lv_aload_n hx hb dX5_init_26 rfl (lv_at hl 0 rfl) ?_
  refine w_mk (C := RX0) (T := TX0) (N := 4) (fs := [.null, .null, .int (iZ 0), .null]) (cnt := 4) (mc := 3) (ms := 30) hx hb hH hts hinX0 tyX0 tyX0_ok hown (hts (.classLink RX5 19 RX0) (by decide +kernel)) (hts (.instantiable RX0 4) (by decide +kernel)) (hts (.initialized RX0) (by decide +kernel)) rfl (fun j hj => by rcases (show j = 0 ∨ j = 1 ∨ j = 2 ∨ j = 3 by omega) with rfl | rfl | rfl | rfl <;> rfl) (Nat.le_of_ble_eq_true rfl) (Nat.le_of_ble_eq_true rfl) dX5_init_27 dX5_init_30 (fun H1 hp => va_runIN (As := []) ⟨hx, hb, hml, hown, hts⟩ (c_X0_init l B 155 17 (Or.inl rfl) (by decide)) ⟨va_cnB 0 hts gX5_init_X0_init_n21 rfl rfl rfl h3.2.2.1 (hts (.initialized RX0) (by decide +kernel)) (by decide +kernel) ⟨Nat.le_of_ble_eq_true rfl, Nat.le_of_ble_eq_true rfl⟩, rfl, (hts (.instanceMethod yX0_init) (by decide +kernel))⟩ hp rfl rfl hl.1 rfl (lv_room (Nat.le_of_ble_eq_true rfl)) dX5_init_31 ⟨Nat.le_of_ble_eq_true rfl, Nat.le_of_ble_eq_true rfl⟩) (fun H locs hH => ?_)
  refine w_putF (C := RX5) (T := TX5) (N := 8) hx hb hH hts hinX5 tyX5 tyX5_ok nmX5 hown rfl 2 (by decide) (hts (.fieldLink RX5 22 "DogTrials" "course" "LDogTrials$Course;") (by decide +kernel)) (fun _ h9 => h9) rfl hnm0 rfl rfl rfl rfl (Nat.le_of_ble_eq_true rfl) dX5_init_34 (fun H locs hH => ?_)
  refine lv_aload_n hx hb dX5_init_37 rfl (lv_at hl 0 rfl) ?_
  refine w_mk (C := RX2) (T := TX2) (N := 3) (fs := [.null, .null, .null]) (cnt := 14) (mc := 13) (ms := 191) hx hb hH hts hinX2 tyX2 tyX2_ok hown (hts (.classLink RX5 26 RX2) (by decide +kernel)) (hts (.instantiable RX2 3) (by decide +kernel)) (hts (.initialized RX2) (by decide +kernel)) rfl (fun j hj => by rcases (show j = 0 ∨ j = 1 ∨ j = 2 by omega) with rfl | rfl | rfl <;> rfl) (Nat.le_of_ble_eq_true rfl) (Nat.le_of_ble_eq_true rfl) dX5_init_38 dX5_init_41 (fun H1 hp => va_runIN (As := []) ⟨hx, hb, hml, hown, hts⟩ (c_X2_init l B) ⟨va_cnB 0 hts gX5_init_X2_init_n28 rfl rfl rfl h3.2.2.2.1 (hts (.initialized RX2) (by decide +kernel)) (by decide +kernel) ⟨Nat.le_of_ble_eq_true rfl, Nat.le_of_ble_eq_true rfl⟩, rfl, (hts (.instanceMethod yX2_init) (by decide +kernel))⟩ hp rfl rfl hl.1 rfl (lv_room (Nat.le_of_ble_eq_true rfl)) dX5_init_42 ⟨Nat.le_of_ble_eq_true rfl, Nat.le_of_ble_eq_true rfl⟩) (fun H locs hH => ?_)
  refine w_putF (C := RX5) (T := TX5) (N := 8) hx hb hH hts hinX5 tyX5 tyX5_ok nmX5 hown rfl 3 (by decide) (hts (.fieldLink RX5 29 "DogTrials" "rehearsal" "LDogTrials$Rehearsal;") (by decide +kernel)) (fun _ h9 => h9) rfl hnm0 rfl rfl rfl rfl (Nat.le_of_ble_eq_true rfl) dX5_init_45 (fun H locs hH => ?_)
  refine lv_aload_n hx hb dX5_init_48 rfl (lv_at hl 0 rfl) ?_
  refine w_mk (C := RX1) (T := TX1) (N := 3) (fs := [.null, .int (iZ 0), .int (iZ 0)]) (cnt := 114) (mc := 113) (ms := 2156) hx hb hH hts hinX1 tyX1 tyX1_ok hown (hts (.classLink RX5 33 RX1) (by decide +kernel)) (hts (.instantiable RX1 3) (by decide +kernel)) (hts (.initialized RX1) (by decide +kernel)) rfl (fun j hj => by rcases (show j = 0 ∨ j = 1 ∨ j = 2 by omega) with rfl | rfl | rfl <;> rfl) (Nat.le_of_ble_eq_true rfl) (Nat.le_of_ble_eq_true rfl) dX5_init_49 dX5_init_52 (fun H1 hp => va_runI (As := []) ⟨hx, hb, hml, hown, hts⟩ (c_X1_init l B) (cwI 0 hts gX5_init_X1_init rfl rfl rfl (hts (.initialized RX1) (by decide +kernel)) (hts (.methodLink RX5 35 yX1_init) (by decide +kernel)) (hts (.instanceMethod yX1_init) (by decide +kernel)) rfl (by decide +kernel) ⟨Nat.le_of_ble_eq_true rfl, Nat.le_of_ble_eq_true rfl⟩) hp rfl rfl hl.1 rfl (lv_room (Nat.le_of_ble_eq_true rfl)) dX5_init_53 ⟨Nat.le_of_ble_eq_true rfl, Nat.le_of_ble_eq_true rfl⟩) (fun H locs hH => ?_)
  refine w_putF (C := RX5) (T := TX5) (N := 8) hx hb hH hts hinX5 tyX5 tyX5_ok nmX5 hown rfl 4 (by decide) (hts (.fieldLink RX5 36 "DogTrials" "memory" "LDogTrials$Memory;") (by decide +kernel)) (fun _ h9 => h9) rfl hnm0 rfl rfl rfl rfl (Nat.le_of_ble_eq_true rfl) dX5_init_56 (fun H locs hH => ?_)
  refine lv_aload_n hx hb dX5_init_59 rfl (lv_at hl 0 rfl) ?_
  refine w_mk (C := RX4) (T := TX4) (N := 3) (fs := [.null, .int (iZ 0), .int (iZ 0)]) (cnt := 2) (mc := 1) (ms := 70) hx hb hH hts hinX4 tyX4 tyX4_ok hown (hts (.classLink RX5 40 RX4) (by decide +kernel)) (hts (.instantiable RX4 3) (by decide +kernel)) (hts (.initialized RX4) (by decide +kernel)) rfl (fun j hj => by rcases (show j = 0 ∨ j = 1 ∨ j = 2 by omega) with rfl | rfl | rfl <;> rfl) (Nat.le_of_ble_eq_true rfl) (Nat.le_of_ble_eq_true rfl) dX5_init_60 dX5_init_63 (fun H1 hp => va_runIN (As := []) ⟨hx, hb, hml, hown, hts⟩ (c_X4_init l B) ⟨va_cnB 0 hts gX5_init_X4_init_n42 rfl rfl rfl h3.2.2.2.2.2 (hts (.initialized RX4) (by decide +kernel)) (by decide +kernel) ⟨Nat.le_of_ble_eq_true rfl, Nat.le_of_ble_eq_true rfl⟩, rfl, (hts (.instanceMethod yX4_init) (by decide +kernel))⟩ hp rfl rfl hl.1 rfl (lv_room (Nat.le_of_ble_eq_true rfl)) dX5_init_64 ⟨Nat.le_of_ble_eq_true rfl, Nat.le_of_ble_eq_true rfl⟩) (fun H locs hH => ?_)
  refine w_putF (C := RX5) (T := TX5) (N := 8) hx hb hH hts hinX5 tyX5 tyX5_ok nmX5 hown rfl 5 (by decide) (hts (.fieldLink RX5 43 "DogTrials" "text" "LDogTrials$TrialText;") (by decide +kernel)) (fun _ h9 => h9) rfl hnm0 rfl rfl rfl rfl (Nat.le_of_ble_eq_true rfl) dX5_init_67 (fun H locs hH => ?_)
  refine lv_aload_n hx hb dX5_init_70 rfl (lv_at hl 0 rfl) ?_
  refine lv_iconst (v := iZ 2) hx hb dX5_init_71 rfl ?_
  obtain ⟨k1, k2, k3, k4, k5, k6⟩ := hH
  refine w_newq0 (B := B) (N := 2) hx hb hown (hts (.classLink RX5 7 RX3) (by decide +kernel)) h3 k4 k3 (by omega) (by decide) (Nat.le_of_ble_eq_true rfl) (Nat.le_of_ble_eq_true rfl) dX5_init_72 (fun H r2 z1 o1 hS => ?_)
  have r1 := k1.kept (o1 _ (wa_lt (by decide)))
  have w1 := k2.kept (fun x _ h8 => o1 _ (wa_lt h8))
  refine w_putF0 (B := B) (C := RX5) (T := TX5) (N := 8) hx hb hts hinX5 tyX5 tyX5_ok nmX5 hown h3 hS r1 (Nat.le_refl _) rfl 6 (by decide) (hts (.fieldLink RX5 47 "DogTrials" "slots" "[LDogTrials$Trial;") (by decide +kernel)) (fun _ h9 => h9) rfl hnm0 rfl rfl rfl rfl (Nat.le_of_ble_eq_true rfl) dX5_init_75 (fun H locs r1n z2 o2 hS => ?_)
  have w2 := w1.kept (fun x h7 _ => o2 _ (wa_ne (by omega)))
  have r2b := r2.kept (o2 _ (wa_ne (by decide)))
  refine lv_aload_n hx hb dX5_init_78 rfl (lv_at hl 0 rfl) ?_
  refine lv_iconst (v := iZ 2) hx hb dX5_init_79 rfl ?_
  refine w_newa0 (B := B) (N := 2) (a0 := (2, .inl (fun j => iZ (qMI 154 j)))) (atype := .boolean) hx hb (hts (.arrayClass .boolean) (by decide +kernel)) 1 rfl (fun h => h) h3 hS (h := wa B 152) (z2.trans z1) (fun cA => rfl) (by omega) (by decide) (Nat.le_of_ble_eq_true rfl) (Nat.le_of_ble_eq_true rfl) (Nat.le_of_ble_eq_true rfl) dX5_init_80 (fun H ra z3 o3 hS => ?_)
  have w3 := w2.kept (fun x _ h8 => o3 _ (wa_lt (by omega)))
  have r2c := r2b.kept (o3 _ (wa_lt (by decide)))
  have r1c := r1n.kept (o3 _ (wa_lt (by decide)))
  have hra9 : wN B qMI 152 153 H := wN.one (k := 154) (by decide) rfl ra
  refine w_putF0 (B := B) (C := RX5) (T := TX5) (N := 8) hx hb hts hinX5 tyX5 tyX5_ok nmX5 hown h3 hS r1c (Nat.le_refl _) rfl 7 (by decide) (hts (.fieldLink RX5 51 "DogTrials" "saved" "[Z") (by decide +kernel)) (fun _ h9 => h9) rfl hnm0 rfl rfl rfl rfl (Nat.le_of_ble_eq_true rfl) dX5_init_82 (fun H locs r1n z2 o2 hS => ?_)
  have w4 := w3.kept (fun x h7 _ => o2 _ (wa_ne (by omega)))
  have hra := hra9.kept (fun x h7 _ => o2 _ (wa_ne (by omega)))
  have r2d := r2c.kept (o2 _ (wa_ne (by decide)))
  refine lv_iconst (v := iZ 0) hx hb dX5_init_85 rfl ?_
  refine lv_istore_n (lv' := [(1, .int (iZ 0)), (0, .ref (wa B 0))]) hx hb dX5_init_86 rfl hl (by decide) rfl (fun ls hl => ?_)
  have hlp : ∀ (n i : Nat), i + n = 2 → ∀ (H : Heap) (locs : List Loc) (ls : Array Slot), va_at B.1 vwCl (wa B 0, .inr (5, [.ref (wa B 1), .ref (wa B 9), .ref (wa B 17), .ref (wa B 21), .ref (wa B 35), .ref (wa B 149), .ref (wa B 151), .ref (wa B 152)])) H → va_at B.1 vwCl (wa B 151, .inl (B.2.1 2, 2, .inr (.inr (.inr (.inr (fun j => if j < i then some (wa B (153 + 8 * j)) else none)))))) H → wN B qMI 152 (153 + 8 * i) H → H.size = wa B (153 + 8 * i) → va_S (fun q => wa B 0 ≤ q) s.heap H locs → wN B qMI 1 151 H → lv_has ls 2 [(1, .int (iZ (i : Int))), (0, .ref (wa B 0))] → W p l e ({ frames := 3, cells := 168, slots := 3076, locals := 64 } : Room) s m #[.ref (wa B 0)] below meth c H locs (152 + 8 * i) (2770 + 153 * i) (MQ below (wPost B 0 169) #[.ref (wa B 0)] s 168 3076 (fun q => wa B 0 ≤ q)) (F0 m 87 ls []) := by
    intro n
    induction n with
    | zero =>
      intro i hi H locs ls r1 r2 r3 r4 hS w5 hl
      obtain rfl : i = 2 := by omega
      refine lv_iload_n hx hb dX5_init_87 rfl (lv_at hl 0 rfl) ?_
      refine lv_iconst (v := iZ 2) hx hb dX5_init_88 rfl ?_
      refine z_icmp_ge (tgt := 111) hx hb (by omega) (by omega) dX5_init_89 (by decide) (fun _ => ?_) (fun h9 => absurd (by omega) h9)
      refine w_ret hx hb hr hlocks ((((wN.one (k := 152) (by decide) rfl ?_).join w5).join (wN.one (k := 153) (by decide) rfl ?_)).join r3) r4 hS dX5_init_111
      · exact r1
      · show H[wa B 151]? = some (vp_cell _ _)
        have r2m : H[wa B 151]? = some (vp_cell _ _) := r2
        rw [r2m, vp_cell_q]
        show _ = some (vp_cell (B.2.1 2) (2, .inr (.inr (.inr (.inr (fun j => some (gad (wF B) (8 * (3 + j)))))))))
        rw [vp_cell_q]
        refine congrArg some (arrV_cong _ _ (fun j hj => ?_))
        rw [if_pos hj]
        show va_rf (some (wa B (153 + 8 * j))) = va_rf (some (wa B (q_of (8 * (3 + j)))))
        rw [show q_of (8 * (3 + j)) = 153 + 8 * j by unfold q_of; rw [if_neg (by omega), if_neg (by omega), if_pos (by omega)]; omega]
    | succ n ih =>
      intro i hi H locs ls r1 r2 r3 r4 hS w5 hl
      refine lv_iload_n hx hb dX5_init_87 rfl (lv_at hl 0 rfl) ?_
      refine lv_iconst (v := iZ 2) hx hb dX5_init_88 rfl ?_
      refine z_icmp_ge (tgt := 111) hx hb (by omega) (by omega) dX5_init_89 (by decide) (fun h9 => absurd h9 (by omega)) (fun _ => ?_)
      refine lv_aload_n hx hb dX5_init_92 rfl (lv_at hl 1 rfl) ?_
      refine va_get (D := B.1) (cl := vwCl) (tys := gty (wF B)) (ws := [(wa B 0, .inr (5, [.ref (wa B 1), .ref (wa B 9), .ref (wa B 17), .ref (wa B 21), .ref (wa B 35), .ref (wa B 149), .ref (wa B 151), .ref (wa B 152)]))]) (ci := 5) (v := .ref (wa B 151)) (C := RX5) (T := TX5) (N := 8) hx hb hts hinX5 hown h3.1.1 (fun i q hi => by match i, hi with | 0, hi => cases hi; exact r1 | i + 1, hi => simp at hi) 0 rfl rfl 6 (by decide) (hts (.fieldLink RX5 47 "DogTrials" "slots" "[LDogTrials$Trial;") (by decide +kernel)) (fun _ h9 => h9) rfl dX5_init_93 ?_
      refine lv_iload_n hx hb dX5_init_96 rfl (lv_at hl 0 rfl) ?_
      have hT9 : isT (24 + 8 * i) := ⟨by omega, by omega⟩
      have hq9 : ∀ r, r < 8 → q_of ((24 + 8 * i) + r) = (153 + 8 * i) + r := fun r hr => by unfold q_of; rw [if_neg (by omega), if_neg (by omega), if_pos (by omega)]; omega
      refine w_mk0 (B := B) (C := RX3) (T := TX3) (N := 15) (fs := [.int (iZ 0), .null, .null, .null, .null, .null, .null, .null, .int (iZ 0), .int (iZ 0), .int (iZ 0), .int (iZ 0), .int (iZ 0), .int (iZ 0), .int (iZ 0)]) (z := (153 + 8 * i)) (cnt := 8) (mc := 7) (ms := 138) hx hb hts hinX3 tyX3 tyX3_ok hown (hts (.classLink RX5 7 RX3) (by decide +kernel)) (hts (.instantiable RX3 15) (by decide +kernel)) (hts (.initialized RX3) (by decide +kernel)) rfl (fun j hj => by rcases (show j = 0 ∨ j = 1 ∨ j = 2 ∨ j = 3 ∨ j = 4 ∨ j = 5 ∨ j = 6 ∨ j = 7 ∨ j = 8 ∨ j = 9 ∨ j = 10 ∨ j = 11 ∨ j = 12 ∨ j = 13 ∨ j = 14 by omega) with rfl | rfl | rfl | rfl | rfl | rfl | rfl | rfl | rfl | rfl | rfl | rfl | rfl | rfl | rfl <;> rfl) h3 hS (fun q hq => Nat.le_trans (wa_le (by omega)) hq) (fun q hq => Nat.le_trans (by unfold wa; omega) hq) r4 (by show _ ≤ 168; omega) (by show _ ≤ 3076; omega) dX5_init_97 dX5_init_100 (fun H1 hp => va_runI (As := []) ⟨hx, hb, hml, hown, hts⟩ (c_X3_init l B (24 + 8 * i) (153 + 8 * i) hT9 hq9) (cwI 0 hts gX5_init_X3_init rfl rfl rfl (hts (.initialized RX3) (by decide +kernel)) (hts (.methodLink RX5 9 yX3_init) (by decide +kernel)) (hts (.instanceMethod yX3_init) (by decide +kernel)) rfl (by decide +kernel) ⟨Nat.le_of_ble_eq_true rfl, Nat.le_of_ble_eq_true rfl⟩) hp rfl rfl hl.1 rfl (lv_room (Nat.le_of_ble_eq_true rfl)) dX5_init_101 ⟨by show _ ≤ 168; omega, by show _ ≤ 3076; omega⟩) (fun H1 locs n1 z1 o1 hS => ?_)
      have hq0 : q_of (24 + 8 * i) = (153 + 8 * i) := hq9 0 (by decide)
      have hv := n1 (24 + 8 * i) (by omega) (by rw [hq0]; exact Nat.le_refl _) (by rw [hq0]; omega)
      rw [show q_of (24 + 8 * i) = (153 + 8 * i) from hq9 0 (by decide), gE_T hT9] at hv
      refine w_aast0 (B := B) (a := wa B 151) (j := i) hx hb h3 hS (r2.kept (o1 _ (wa_lt (by omega)))) hv (wa_le (by decide)) rfl (by omega) (by decide) dX5_init_104 (fun H2 locs r2n z2 o2 hS => ?_)
      refine z_iinc (z := (i : Int) + 1) (lv' := [(1, .int (iZ ((i : Int) + 1))), (0, .ref (wa B 0))]) hx hb dX5_init_105 hl (k := 0) rfl rfl (by decide) rfl (fun ls hl => ?_)
      refine lv_goto (tgt := 87) hx hb dX5_init_108 (by decide) ?_
      refine W.widen (k := 152 + 8 * (i + 1)) (n := 2770 + 153 * (i + 1)) (by omega) (by omega) ?_
      have o3 : ∀ x, x < (153 + 8 * i) → x ≠ 151 → H2[wa B x]? = H[wa B x]? := fun x h7 h8 => (o2 _ (wa_ne h8)).trans (o1 _ (wa_lt h7))
      refine ih (i + 1) (by omega) H2 locs ls (r1.kept (o3 0 (by omega) (by decide))) ?_ ?_ (z2.trans z1) hS (w5.kept (fun x h7 h8 => o3 x (by omega) (by omega))) hl
      · show H2[wa B 151]? = some (vp_cell _ _)
        have r2m : H2[wa B 151]? = some (vp_cell _ _) := r2n
        rw [r2m, vp_cell_q, vp_cell_q]
        refine congrArg some (arrV_cong _ _ (fun j hj => ?_))
        show va_rf (va_up _ i _ j) = va_rf _
        unfold va_up
        by_cases h7 : j = i
        · subst h7; rw [if_pos rfl, if_pos (by omega)]
        · rw [if_neg h7]
          show va_rf (if j < i then some (wa B (153 + 8 * j)) else none) = _
          by_cases h8 : j < i
          · rw [if_pos h8, if_pos (by omega)]
          · rw [if_neg h8, if_neg (by omega)]
      · exact ((r3.kept (fun x h7 h8 => o1 _ (wa_lt h8))).join n1).kept (fun x h7 h8 => o2 _ (wa_ne (by omega)))
  refine hlp 2 0 rfl H locs ls r1n ?_ hra (z2.trans z3) hS w4 hl
  show H[wa B 151]? = some (vp_cell _ _)
  have r2m : H[wa B 151]? = some (vp_cell _ _) := r2d
  rw [r2m, vp_cell_q, vp_cell_q]
  exact congrArg some (arrV_cong _ _ (fun j hj => by rw [if_neg (Nat.not_lt_zero _)]))
