set_option maxHeartbeats 4000000 in
set_option maxRecDepth 100000 in
theorem c_X6_init (l : Launch) (B : wB) : wMet l yX6_init wsX6_init ({ frames := 1, cells := 8, slots := 2858, locals := 21 } : Room) B 6 [.int (iZ 0), .null, .int (iZ 0), .int (iZ 0), .null, .null, .null, .null, .int (iZ 0), .null, .null, .null, .int (iZ 0)] 169 9 8 2858 := by
  refine wMet_of (cc := cX6_init) (maxL := 1) (by decide) rfl rfl (Nat.le_of_ble_eq_true rfl) ?_
  intro p e s m below meth c ls hx hb hr hml hown hts hlocks hnm0 hl h1 h2 h3
  have hown : s.vm.findClass RX6 = some m.cls := hown
  have hinX6 : ∀ w ∈ u_ws RX6 TX6 13, w ∈ wsX6_init := by decide +kernel
  have hH : wH B qMI 169 6 [.int (iZ 0), .null, .int (iZ 0), .int (iZ 0), .null, .null, .null, .null, .int (iZ 0), .null, .null, .null, .int (iZ 0)] 170 s s.heap [] := ⟨h1, wN.nil, h2, va_S.rf, h3, Nat.lt_succ_self _⟩
  refine lv_aload_n hx hb dX6_init_0 rfl (lv_at hl 0 rfl) ?_
  refine W.objInit hx hb hown (hts (.methodLink RX6 1 objectInit) (by decide +kernel)) (hts (.instanceMethod objectInit) (by decide +kernel)) (hts (.code objectInit ⟨#[0xb1]⟩ 1 none) (List.mem_of_getElem? (i := 3) rfl)) rfl (by rw [hml]; exact hl.1) rfl dX6_init_1 (Nat.le_of_ble_eq_true rfl) (Nat.le_of_ble_eq_true rfl) ?_
  refine W.eq (g2 := F0 m 4 ls []) rfl ?_
  replace hH : wH B qM0 169 6 [.int (iZ 0), .null, .int (iZ 0), .int (iZ 0), .null, .null, .null, .null, .int (iZ 0), .null, .null, .null, .int (iZ 0)] 170 s s.heap [] := ⟨h1, wN.nil, h2, va_S.rf, h3, Nat.lt_succ_self _⟩
  refine lv_aload_n hx hb dX6_init_4 rfl (lv_at hl 0 rfl) ?_
  refine lv_bipush (v := iZ (70)) hx hb dX6_init_5 (by decide) ?_
  refine w_newa (k := 170) (N := 70) (atype := .int) hx hb hH (hts (.arrayClass .int) (by decide +kernel)) 0 rfl (fun h => h) (by decide) rfl rfl (fun j _ => rfl) rfl (by omega) (by decide) (by decide) (Nat.le_of_ble_eq_true rfl) (Nat.le_of_ble_eq_true rfl) dX6_init_7 (fun H hH => ?_)
  refine w_putF (C := RX6) (T := TX6) (N := 13) hx hb hH hts hinX6 tyX6 tyX6_ok nmX6 hown rfl 1 (by decide) (hts (.fieldLink RX6 7 "DogTrialsModel" "text" "[I") (by decide +kernel)) (fun _ h9 => h9) rfl hnm0 rfl rfl rfl rfl (Nat.le_of_ble_eq_true rfl) dX6_init_9 (fun H locs hH => ?_)
  refine lv_aload_n hx hb dX6_init_12 rfl (lv_at hl 0 rfl) ?_
  refine lv_sipush (v := iZ (146)) hx hb dX6_init_13 (by decide) ?_
  refine w_newa (k := 171) (N := 146) (atype := .int) hx hb hH (hts (.arrayClass .int) (by decide +kernel)) 0 rfl (fun h => h) (by decide) rfl rfl (fun j _ => rfl) rfl (by omega) (by decide) (by decide) (Nat.le_of_ble_eq_true rfl) (Nat.le_of_ble_eq_true rfl) dX6_init_16 (fun H hH => ?_)
  refine w_putF (C := RX6) (T := TX6) (N := 13) hx hb hH hts hinX6 tyX6 tyX6_ok nmX6 hown rfl 4 (by decide) (hts (.fieldLink RX6 13 "DogTrialsModel" "read" "[I") (by decide +kernel)) (fun _ h9 => h9) rfl hnm0 rfl rfl rfl rfl (Nat.le_of_ble_eq_true rfl) dX6_init_18 (fun H locs hH => ?_)
  refine lv_aload_n hx hb dX6_init_21 rfl (lv_at hl 0 rfl) ?_
  refine lv_sipush (v := iZ (146)) hx hb dX6_init_22 (by decide) ?_
  refine w_newa (k := 172) (N := 146) (atype := .int) hx hb hH (hts (.arrayClass .int) (by decide +kernel)) 0 rfl (fun h => h) (by decide) rfl rfl (fun j _ => rfl) rfl (by omega) (by decide) (by decide) (Nat.le_of_ble_eq_true rfl) (Nat.le_of_ble_eq_true rfl) dX6_init_25 (fun H hH => ?_)
  refine w_putF (C := RX6) (T := TX6) (N := 13) hx hb hH hts hinX6 tyX6 tyX6_ok nmX6 hown rfl 5 (by decide) (hts (.fieldLink RX6 16 "DogTrialsModel" "now" "[I") (by decide +kernel)) (fun _ h9 => h9) rfl hnm0 rfl rfl rfl rfl (Nat.le_of_ble_eq_true rfl) dX6_init_27 (fun H locs hH => ?_)
  refine lv_aload_n hx hb dX6_init_30 rfl (lv_at hl 0 rfl) ?_
  refine lv_sipush (v := iZ (146)) hx hb dX6_init_31 (by decide) ?_
  refine w_newa (k := 173) (N := 146) (atype := .int) hx hb hH (hts (.arrayClass .int) (by decide +kernel)) 0 rfl (fun h => h) (by decide) rfl rfl (fun j _ => rfl) rfl (by omega) (by decide) (by decide) (Nat.le_of_ble_eq_true rfl) (Nat.le_of_ble_eq_true rfl) dX6_init_34 (fun H hH => ?_)
  refine w_putF (C := RX6) (T := TX6) (N := 13) hx hb hH hts hinX6 tyX6 tyX6_ok nmX6 hown rfl 6 (by decide) (hts (.fieldLink RX6 19 "DogTrialsModel" "trial" "[I") (by decide +kernel)) (fun _ h9 => h9) rfl hnm0 rfl rfl rfl rfl (Nat.le_of_ble_eq_true rfl) dX6_init_36 (fun H locs hH => ?_)
  refine lv_aload_n hx hb dX6_init_39 rfl (lv_at hl 0 rfl) ?_
  refine lv_sipush (v := iZ (2044)) hx hb dX6_init_40 (by decide) ?_
  refine w_newa (k := 174) (N := 2044) (atype := .int) hx hb hH (hts (.arrayClass .int) (by decide +kernel)) 0 rfl (fun h => h) (by decide) rfl rfl (fun j _ => rfl) rfl (by omega) (by decide) (by decide) (Nat.le_of_ble_eq_true rfl) (Nat.le_of_ble_eq_true rfl) dX6_init_43 (fun H hH => ?_)
  refine w_putF (C := RX6) (T := TX6) (N := 13) hx hb hH hts hinX6 tyX6 tyX6_ok nmX6 hown rfl 7 (by decide) (hts (.fieldLink RX6 22 "DogTrialsModel" "diary" "[I") (by decide +kernel)) (fun _ h9 => h9) rfl hnm0 rfl rfl rfl rfl (Nat.le_of_ble_eq_true rfl) dX6_init_45 (fun H locs hH => ?_)
  refine lv_aload_n hx hb dX6_init_48 rfl (lv_at hl 0 rfl) ?_
  refine lv_sipush (v := iZ (292)) hx hb dX6_init_49 (by decide) ?_
  refine w_newa (k := 175) (N := 292) (atype := .int) hx hb hH (hts (.arrayClass .int) (by decide +kernel)) 0 rfl (fun h => h) (by decide) rfl rfl (fun j _ => rfl) rfl (by omega) (by decide) (by decide) (Nat.le_of_ble_eq_true rfl) (Nat.le_of_ble_eq_true rfl) dX6_init_52 (fun H hH => ?_)
  refine w_putF (C := RX6) (T := TX6) (N := 13) hx hb hH hts hinX6 tyX6 tyX6_ok nmX6 hown rfl 9 (by decide) (hts (.fieldLink RX6 25 "DogTrialsModel" "kept" "[I") (by decide +kernel)) (fun _ h9 => h9) rfl hnm0 rfl rfl rfl rfl (Nat.le_of_ble_eq_true rfl) dX6_init_54 (fun H locs hH => ?_)
  refine lv_aload_n hx hb dX6_init_57 rfl (lv_at hl 0 rfl) ?_
  refine lv_iconst (v := iZ 2) hx hb dX6_init_58 rfl ?_
  refine w_newa (k := 176) (N := 2) (atype := .boolean) hx hb hH (hts (.arrayClass .boolean) (by decide +kernel)) 1 rfl (fun h => h) (by decide) rfl rfl (fun j _ => rfl) rfl (by omega) (by decide) (by decide) (Nat.le_of_ble_eq_true rfl) (Nat.le_of_ble_eq_true rfl) dX6_init_59 (fun H hH => ?_)
  refine w_putF (C := RX6) (T := TX6) (N := 13) hx hb hH hts hinX6 tyX6 tyX6_ok nmX6 hown rfl 10 (by decide) (hts (.fieldLink RX6 28 "DogTrialsModel" "isKept" "[Z") (by decide +kernel)) (fun _ h9 => h9) rfl hnm0 rfl rfl rfl rfl (Nat.le_of_ble_eq_true rfl) dX6_init_61 (fun H locs hH => ?_)
  refine lv_aload_n hx hb dX6_init_64 rfl (lv_at hl 0 rfl) ?_
  refine lv_bipush (v := iZ (12)) hx hb dX6_init_65 (by decide) ?_
  refine w_newa (k := 177) (N := 12) (atype := .int) hx hb hH (hts (.arrayClass .int) (by decide +kernel)) 0 rfl (fun h => h) (by decide) rfl rfl (fun j _ => rfl) rfl (by omega) (by decide) (by decide) (Nat.le_of_ble_eq_true rfl) (Nat.le_of_ble_eq_true rfl) dX6_init_67 (fun H hH => ?_)
  refine w_putF (C := RX6) (T := TX6) (N := 13) hx hb hH hts hinX6 tyX6 tyX6_ok nmX6 hown rfl 11 (by decide) (hts (.fieldLink RX6 32 "DogTrialsModel" "row" "[I") (by decide +kernel)) (fun _ h9 => h9) rfl hnm0 rfl rfl rfl rfl (Nat.le_of_ble_eq_true rfl) dX6_init_69 (fun H locs hH => ?_)
  obtain ⟨k1, k2, k3, k4, k5, k6⟩ := hH
  refine lv_aload_n hx hb dX6_init_72 rfl (lv_at hl 0 rfl) ?_
  refine va_get (D := B.1) (cl := vwCl) (tys := gty (wF B)) (ws := [(wa B 169, .inr (6, [.int (iZ 0), .ref (wa B 170), .int (iZ 0), .int (iZ 0), .ref (wa B 171), .ref (wa B 172), .ref (wa B 173), .ref (wa B 174), .int (iZ 0), .ref (wa B 175), .ref (wa B 176), .ref (wa B 177), .int (iZ 0)]))]) (ci := 6) (v := .ref (wa B 172)) (C := RX6) (T := TX6) (N := 13) hx hb hts hinX6 hown h3.1.1 (fun i q hi => by match i, hi with | 0, hi => cases hi; exact k1 | i + 1, hi => simp at hi) 0 rfl rfl 5 (by decide) (hts (.fieldLink RX6 16 "DogTrialsModel" "now" "[I") (by decide +kernel)) (fun _ h9 => h9) rfl dX6_init_73 ?_
  have hqk : ∀ x, 169 ≤ x → q_of x = x := fun x hx9 => by unfold q_of; rw [if_neg (by omega), if_neg (by omega), if_neg (by omega), if_neg (by omega), if_neg (by omega), if_neg (by omega), if_neg (by omega), if_neg (by omega), if_neg (by omega), if_neg (by omega), if_neg (by omega), if_neg (by omega), if_neg (by omega), if_neg (by omega), if_neg (by omega)]
  have hG : gH (wg B (fun k => 169 ≤ k ∧ k < 178) (wa B 169)) qM0 s H locs := by
    refine ⟨fun k hk => ?_, h3.fix (fun k hk => ?_) (by rw [h2]; exact wa_le (by decide)), k4⟩
    · have hk9 : 169 ≤ k ∧ k < 178 := hk
      have h9 : wN B qM0 169 178 H := (wN.one (k := 169) (by decide) rfl k1).join k2
      have h8 := h9 k (by omega) (by rw [hqk k hk9.1]; exact hk9.1) (by rw [hqk k hk9.1]; exact hk9.2)
      exact h8
    · have hk9 : 169 ≤ k ∧ k < 178 := hk
      exact ⟨by omega, by rw [hqk k hk9.1]; exact hk9.1⟩
  have e172 : wa B 172 = gad (wg B (fun k => 169 ≤ k ∧ k < 178) (wa B 169)) 172 := rfl
  rw [e172]
  refine g_vcallS (As := [.ref (gad (wg B (fun k => 169 ≤ k ∧ k < 178) (wa B 169)) 172)]) (rest := []) ⟨hx, hb, hml, hown, hts⟩ (c_X6_clear l (wg B (fun k => 169 ≤ k ∧ k < 178) (wa B 169)) qM0 172 (Or.inr (Or.inl rfl)) ⟨by decide, by decide⟩) (va_cwS 1 hts gX6_init_X6_clear rfl rfl rfl (by decide +kernel) ⟨Nat.le_of_ble_eq_true rfl, Nat.le_of_ble_eq_true rfl⟩) hG rfl hl.1 rfl (Nat.le_of_ble_eq_true rfl) dX6_init_76 ⟨Nat.le_of_ble_eq_true rfl, Nat.le_of_ble_eq_true rfl⟩ (fun M1 H locs hp hG => ?_)
  obtain ⟨p1, p2⟩ := hp
  refine w_size (fun hsz => ?_)
  have hat : ∀ k, 169 ≤ k → k < 178 → va_at B.1 vwCl (wa B k, gE (wF B) (M1 k) k) H := fun k h8 h9 => by
    have h7 := hG.1 k ⟨h8, h9⟩
    have e : gad (wg B (fun k => 169 ≤ k ∧ k < 178) (wa B 169)) k = wa B k := by show B.2.2.1 + q_of k = B.2.2.1 + k; rw [hqk k h8]
    rw [e] at h7
    exact h7
  have h7 : H[wa B 177]? = some (arrV (B.2.1 0) 12 (fun j => .int (iZ (M1 177 j)))) := hat 177 (by decide) (by decide)
  have hlt : wa B 177 < H.size := (Array.getElem?_eq_some_iff.mp h7).1
  have hz : H.size = wa B 178 := by unfold wa at *; omega
  refine w_ret hx hb hr hlocks (fun k hk h8 h9 => ?_) hz hG.2.2 dX6_init_79
  have hkq : k = q_of k := q_of_inj hk (by omega) (hqk _ h8).symm
  rw [← hkq] at h8 h9 ⊢
  by_cases h5 : k = 172
  · subst h5
    have h6 : H[wa B 172]? = some (arrV (B.2.1 0) 146 (fun j => .int (iZ (M1 172 j)))) := hat 172 (by decide) (by decide)
    show H[wa B 172]? = some (arrV (B.2.1 0) 146 (fun j => .int (iZ (qMI 172 j))))
    rw [h6]
    exact congrArg some (arrV_cong _ _ (fun j hj => by rw [p1 j hj]; rfl))
  · have e : qMI k = M1 k := by
      rw [p2 k (by omega)]
      funext j
      show qMI k j = 0
      unfold qMI; rw [if_neg (by omega), if_neg h5]
    rw [e]; exact hat k h8 h9
