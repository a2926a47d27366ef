set_option maxHeartbeats 4000000 in
set_option maxRecDepth 100000 in
theorem c_X3_copyFrom (l : Launch) (G : gG) (M : Nat → Nat → Int) (hdm : ∀ k, k < 169 → gdm G k) (t : Nat) (hT : isT t) (u : Nat) (hU : isT u) (hne : t ≠ u) (R : Nat → Int) (hR : q_tr M u R) (hI : q_inv R) : gMv l yX3_copyFrom wsX3_copyFrom ({ frames := 1, cells := 0, slots := 0, locals := 48 } : Room) G M [.ref (gad G t), .ref (gad G u)] (fun M1 => q_tr M1 t R ∧ q_off M M1 t (t + 8)) := by
  refine gMv_of (cc := cX3_copyFrom) (maxL := 3) (ret := none) (by decide) rfl (Nat.le_of_ble_eq_true rfl) ?_
  intro p e s m below meth c ls hx hb hr hml hown hts hlocks hl hG
  have hown : s.vm.findClass RX3 = some m.cls := hown
  have hl : lv_has ls 3 [(0, .ref (gad G t)), (1, .ref (gad G u))] := hl
  have hd_t : ∀ r, r < 8 → gdm G (t + r) := fun r hr => hdm _ (by have h1 := (hT).1; have h2 := (hT).2; omega)
  have hd_u : ∀ r, r < 8 → gdm G (u + r) := fun r hr => hdm _ (by have h1 := (hU).1; have h2 := (hU).2; omega)
  have hinX3 : ∀ w ∈ u_ws RX3 TX3 15, w ∈ wsX3_copyFrom := by decide +kernel
  have f9 := hts (.fieldLink RX3 9 "DogTrials$Trial" "owners" "[I") (by decide +kernel)
  have f15 := hts (.fieldLink RX3 15 "DogTrials$Trial" "draws" "[I") (by decide +kernel)
  have f18 := hts (.fieldLink RX3 18 "DogTrials$Trial" "states" "[I") (by decide +kernel)
  have f21 := hts (.fieldLink RX3 21 "DogTrials$Trial" "ran" "[Z") (by decide +kernel)
  have f25 := hts (.fieldLink RX3 25 "DogTrials$Trial" "anew" "[I") (by decide +kernel)
  have f28 := hts (.fieldLink RX3 28 "DogTrials$Trial" "noted" "[I") (by decide +kernel)
  have f31 := hts (.fieldLink RX3 31 "DogTrials$Trial" "rank" "[I") (by decide +kernel)
  have f37 := hts (.fieldLink RX3 37 "DogTrials$Trial" "dogs" "I") (by decide +kernel)
  have f41 := hts (.fieldLink RX3 41 "DogTrials$Trial" "day" "I") (by decide +kernel)
  have f44 := hts (.fieldLink RX3 44 "DogTrials$Trial" "minute" "I") (by decide +kernel)
  have f47 := hts (.fieldLink RX3 47 "DogTrials$Trial" "sunset" "I") (by decide +kernel)
  have f50 := hts (.fieldLink RX3 50 "DogTrials$Trial" "last" "I") (by decide +kernel)
  have f53 := hts (.fieldLink RX3 53 "DogTrials$Trial" "counted" "I") (by decide +kernel)
  have f56 := hts (.fieldLink RX3 56 "DogTrials$Trial" "tooDark" "I") (by decide +kernel)
  have f59 := hts (.fieldLink RX3 59 "DogTrials$Trial" "interferences" "I") (by decide +kernel)
  have ht1 := hT.1
  have ht2 := hT.2
  have hu1 := hU.1
  have hu2 := hU.2
  have hnd := hI.1
  refine lv_aload_n hx hb dX3_copyFrom_0 rfl (lv_at hl 0 rfl) ?_
  refine lv_aload_n hx hb dX3_copyFrom_1 rfl (lv_at hl 1 rfl) ?_
  refine g_geti (z := (q_nd R)) hx hb hts hinX3 hown hG (o := u) (hd_u 0 (by decide)) (gE_T hU G _) rfl 0 (by decide) f37 (fun _ h => h) rfl (tr_nd hR) dX3_copyFrom_2 ?_
  refine g_put (F := (fun f => oT G f t)) hx hb hts hinX3 tyX3 tyX3_ok nmX3 hown hG (o := t) (hd_t 0 (by decide)) (fun f => gE_T hT G f) rfl 0 (by decide) f37 (fun _ h => h) rfl rfl (fun _ => Nat.lt_of_lt_of_le (by decide) (Nat.le_refl 15)) (fun _ => rfl) dX3_copyFrom_5 (fun H locs hG => ?_)
  obtain ⟨M1, hM1⟩ : ∃ X, X = (q_wr M t 0 (q_nd R)) := ⟨_, rfl⟩
  rw [← hM1] at hG
  refine lv_aload_n hx hb dX3_copyFrom_8 rfl (lv_at hl 1 rfl) ?_
  refine g_get hx hb hts hinX3 hown hG (o := u) (hd_u 0 (by decide)) (gE_T hU G _) rfl 1 (by decide) f9 (fun _ h => h) rfl dX3_copyFrom_9 ?_
  refine lv_iconst (v := iZ 0) hx hb dX3_copyFrom_12 rfl ?_
  refine lv_aload_n hx hb dX3_copyFrom_13 rfl (lv_at hl 0 rfl) ?_
  refine g_get hx hb hts hinX3 hown hG (o := t) (hd_t 0 (by decide)) (gE_T hT G _) rfl 1 (by decide) f9 (fun _ h => h) rfl dX3_copyFrom_14 ?_
  refine lv_iconst (v := iZ 0) hx hb dX3_copyFrom_17 rfl ?_
  refine lv_bipush (v := iZ (12)) hx hb dX3_copyFrom_18 (by decide) ?_
  refine g_copy (k := 12) hx hb (hml.trans hl.1.symm) hown (hts (.methodLink RX3 62 arraycopyName) (by decide +kernel)) (hts (.native arraycopyName) (by decide +kernel)) (hts (.static arraycopyName) (by decide +kernel)) (hts (.initialized "java/lang/System") (by decide +kernel)) hG (o1 := (u + 1)) (o2 := (t + 1)) (hd_u 1 (by decide)) (hd_t 1 (by decide)) (gE_tI hU 1 (by decide) G _) (fun f => gE_tI hT 1 (by decide) G f) (by decide) (by decide) (by decide) (Nat.le_of_ble_eq_true rfl) (Nat.le_of_ble_eq_true rfl) dX3_copyFrom_20 (fun H locs hG => ?_)
  obtain ⟨M2, hM2⟩ : ∃ X, X = (q_cpa M1 (t + 1) (u + 1) 12) := ⟨_, rfl⟩
  rw [← hM2] at hG
  refine lv_aload_n hx hb dX3_copyFrom_23 rfl (lv_at hl 1 rfl) ?_
  refine g_get hx hb hts hinX3 hown hG (o := u) (hd_u 0 (by decide)) (gE_T hU G _) rfl 2 (by decide) f15 (fun _ h => h) rfl dX3_copyFrom_24 ?_
  refine lv_iconst (v := iZ 0) hx hb dX3_copyFrom_27 rfl ?_
  refine lv_aload_n hx hb dX3_copyFrom_28 rfl (lv_at hl 0 rfl) ?_
  refine g_get hx hb hts hinX3 hown hG (o := t) (hd_t 0 (by decide)) (gE_T hT G _) rfl 2 (by decide) f15 (fun _ h => h) rfl dX3_copyFrom_29 ?_
  refine lv_iconst (v := iZ 0) hx hb dX3_copyFrom_32 rfl ?_
  refine lv_bipush (v := iZ (12)) hx hb dX3_copyFrom_33 (by decide) ?_
  refine g_copy (k := 12) hx hb (hml.trans hl.1.symm) hown (hts (.methodLink RX3 62 arraycopyName) (by decide +kernel)) (hts (.native arraycopyName) (by decide +kernel)) (hts (.static arraycopyName) (by decide +kernel)) (hts (.initialized "java/lang/System") (by decide +kernel)) hG (o1 := (u + 2)) (o2 := (t + 2)) (hd_u 2 (by decide)) (hd_t 2 (by decide)) (gE_tI hU 2 (by decide) G _) (fun f => gE_tI hT 2 (by decide) G f) (by decide) (by decide) (by decide) (Nat.le_of_ble_eq_true rfl) (Nat.le_of_ble_eq_true rfl) dX3_copyFrom_35 (fun H locs hG => ?_)
  obtain ⟨M3, hM3⟩ : ∃ X, X = (q_cpa M2 (t + 2) (u + 2) 12) := ⟨_, rfl⟩
  rw [← hM3] at hG
  refine lv_aload_n hx hb dX3_copyFrom_38 rfl (lv_at hl 1 rfl) ?_
  refine g_get hx hb hts hinX3 hown hG (o := u) (hd_u 0 (by decide)) (gE_T hU G _) rfl 3 (by decide) f18 (fun _ h => h) rfl dX3_copyFrom_39 ?_
  refine lv_iconst (v := iZ 0) hx hb dX3_copyFrom_42 rfl ?_
  refine lv_aload_n hx hb dX3_copyFrom_43 rfl (lv_at hl 0 rfl) ?_
  refine g_get hx hb hts hinX3 hown hG (o := t) (hd_t 0 (by decide)) (gE_T hT G _) rfl 3 (by decide) f18 (fun _ h => h) rfl dX3_copyFrom_44 ?_
  refine lv_iconst (v := iZ 0) hx hb dX3_copyFrom_47 rfl ?_
  refine lv_bipush (v := iZ (12)) hx hb dX3_copyFrom_48 (by decide) ?_
  refine g_copy (k := 12) hx hb (hml.trans hl.1.symm) hown (hts (.methodLink RX3 62 arraycopyName) (by decide +kernel)) (hts (.native arraycopyName) (by decide +kernel)) (hts (.static arraycopyName) (by decide +kernel)) (hts (.initialized "java/lang/System") (by decide +kernel)) hG (o1 := (u + 3)) (o2 := (t + 3)) (hd_u 3 (by decide)) (hd_t 3 (by decide)) (gE_tI hU 3 (by decide) G _) (fun f => gE_tI hT 3 (by decide) G f) (by decide) (by decide) (by decide) (Nat.le_of_ble_eq_true rfl) (Nat.le_of_ble_eq_true rfl) dX3_copyFrom_50 (fun H locs hG => ?_)
  obtain ⟨M4, hM4⟩ : ∃ X, X = (q_cpa M3 (t + 3) (u + 3) 12) := ⟨_, rfl⟩
  rw [← hM4] at hG
  refine lv_aload_n hx hb dX3_copyFrom_53 rfl (lv_at hl 1 rfl) ?_
  refine g_get hx hb hts hinX3 hown hG (o := u) (hd_u 0 (by decide)) (gE_T hU G _) rfl 5 (by decide) f25 (fun _ h => h) rfl dX3_copyFrom_54 ?_
  refine lv_iconst (v := iZ 0) hx hb dX3_copyFrom_57 rfl ?_
  refine lv_aload_n hx hb dX3_copyFrom_58 rfl (lv_at hl 0 rfl) ?_
  refine g_get hx hb hts hinX3 hown hG (o := t) (hd_t 0 (by decide)) (gE_T hT G _) rfl 5 (by decide) f25 (fun _ h => h) rfl dX3_copyFrom_59 ?_
  refine lv_iconst (v := iZ 0) hx hb dX3_copyFrom_62 rfl ?_
  refine lv_bipush (v := iZ (12)) hx hb dX3_copyFrom_63 (by decide) ?_
  refine g_copy (k := 12) hx hb (hml.trans hl.1.symm) hown (hts (.methodLink RX3 62 arraycopyName) (by decide +kernel)) (hts (.native arraycopyName) (by decide +kernel)) (hts (.static arraycopyName) (by decide +kernel)) (hts (.initialized "java/lang/System") (by decide +kernel)) hG (o1 := (u + 5)) (o2 := (t + 5)) (hd_u 5 (by decide)) (hd_t 5 (by decide)) (gE_tI hU 5 (by decide) G _) (fun f => gE_tI hT 5 (by decide) G f) (by decide) (by decide) (by decide) (Nat.le_of_ble_eq_true rfl) (Nat.le_of_ble_eq_true rfl) dX3_copyFrom_65 (fun H locs hG => ?_)
  obtain ⟨M5, hM5⟩ : ∃ X, X = (q_cpa M4 (t + 5) (u + 5) 12) := ⟨_, rfl⟩
  rw [← hM5] at hG
  refine lv_aload_n hx hb dX3_copyFrom_68 rfl (lv_at hl 1 rfl) ?_
  refine g_get hx hb hts hinX3 hown hG (o := u) (hd_u 0 (by decide)) (gE_T hU G _) rfl 6 (by decide) f28 (fun _ h => h) rfl dX3_copyFrom_69 ?_
  refine lv_iconst (v := iZ 0) hx hb dX3_copyFrom_72 rfl ?_
  refine lv_aload_n hx hb dX3_copyFrom_73 rfl (lv_at hl 0 rfl) ?_
  refine g_get hx hb hts hinX3 hown hG (o := t) (hd_t 0 (by decide)) (gE_T hT G _) rfl 6 (by decide) f28 (fun _ h => h) rfl dX3_copyFrom_74 ?_
  refine lv_iconst (v := iZ 0) hx hb dX3_copyFrom_77 rfl ?_
  refine lv_bipush (v := iZ (72)) hx hb dX3_copyFrom_78 (by decide) ?_
  refine g_copy (k := 72) hx hb (hml.trans hl.1.symm) hown (hts (.methodLink RX3 62 arraycopyName) (by decide +kernel)) (hts (.native arraycopyName) (by decide +kernel)) (hts (.static arraycopyName) (by decide +kernel)) (hts (.initialized "java/lang/System") (by decide +kernel)) hG (o1 := (u + 6)) (o2 := (t + 6)) (hd_u 6 (by decide)) (hd_t 6 (by decide)) (gE_t6 hU G _) (fun f => gE_t6 hT G f) (by decide) (by decide) (by decide) (Nat.le_of_ble_eq_true rfl) (Nat.le_of_ble_eq_true rfl) dX3_copyFrom_80 (fun H locs hG => ?_)
  obtain ⟨M6, hM6⟩ : ∃ X, X = (q_cpa M5 (t + 6) (u + 6) 72) := ⟨_, rfl⟩
  rw [← hM6] at hG
  refine lv_aload_n hx hb dX3_copyFrom_83 rfl (lv_at hl 1 rfl) ?_
  refine g_get hx hb hts hinX3 hown hG (o := u) (hd_u 0 (by decide)) (gE_T hU G _) rfl 7 (by decide) f31 (fun _ h => h) rfl dX3_copyFrom_84 ?_
  refine lv_iconst (v := iZ 0) hx hb dX3_copyFrom_87 rfl ?_
  refine lv_aload_n hx hb dX3_copyFrom_88 rfl (lv_at hl 0 rfl) ?_
  refine g_get hx hb hts hinX3 hown hG (o := t) (hd_t 0 (by decide)) (gE_T hT G _) rfl 7 (by decide) f31 (fun _ h => h) rfl dX3_copyFrom_89 ?_
  refine lv_iconst (v := iZ 0) hx hb dX3_copyFrom_92 rfl ?_
  refine lv_bipush (v := iZ (6)) hx hb dX3_copyFrom_93 (by decide) ?_
  refine g_copy (k := 6) hx hb (hml.trans hl.1.symm) hown (hts (.methodLink RX3 62 arraycopyName) (by decide +kernel)) (hts (.native arraycopyName) (by decide +kernel)) (hts (.static arraycopyName) (by decide +kernel)) (hts (.initialized "java/lang/System") (by decide +kernel)) hG (o1 := (u + 7)) (o2 := (t + 7)) (hd_u 7 (by decide)) (hd_t 7 (by decide)) (gE_t7 hU G _) (fun f => gE_t7 hT G f) (by decide) (by decide) (by decide) (Nat.le_of_ble_eq_true rfl) (Nat.le_of_ble_eq_true rfl) dX3_copyFrom_95 (fun H locs hG => ?_)
  obtain ⟨M7, hM7⟩ : ∃ X, X = (q_cpa M6 (t + 7) (u + 7) 6) := ⟨_, rfl⟩
  rw [← hM7] at hG
  have f1_ : ∀ b, b < 12 → M7 (t + 1) b = M (u + 1) b := fun b hb9 => by rw [hM7, cpa_off _ _ _ (by omega), hM6, cpa_off _ _ _ (by omega), hM5, cpa_off _ _ _ (by omega), hM4, cpa_off _ _ _ (by omega), hM3, cpa_off _ _ _ (by omega), hM2, cpa_in _ _ _ hb9, hM1, wr_off _ _ _ (by omega)]
  have f2_ : ∀ b, b < 12 → M7 (t + 2) b = M (u + 2) b := fun b hb9 => by rw [hM7, cpa_off _ _ _ (by omega), hM6, cpa_off _ _ _ (by omega), hM5, cpa_off _ _ _ (by omega), hM4, cpa_off _ _ _ (by omega), hM3, cpa_in _ _ _ hb9, hM2, cpa_off _ _ _ (by omega), hM1, wr_off _ _ _ (by omega)]
  have f3_ : ∀ b, b < 12 → M7 (t + 3) b = M (u + 3) b := fun b hb9 => by rw [hM7, cpa_off _ _ _ (by omega), hM6, cpa_off _ _ _ (by omega), hM5, cpa_off _ _ _ (by omega), hM4, cpa_in _ _ _ hb9, hM3, cpa_off _ _ _ (by omega), hM2, cpa_off _ _ _ (by omega), hM1, wr_off _ _ _ (by omega)]
  have f5_ : ∀ b, b < 12 → M7 (t + 5) b = M (u + 5) b := fun b hb9 => by rw [hM7, cpa_off _ _ _ (by omega), hM6, cpa_off _ _ _ (by omega), hM5, cpa_in _ _ _ hb9, hM4, cpa_off _ _ _ (by omega), hM3, cpa_off _ _ _ (by omega), hM2, cpa_off _ _ _ (by omega), hM1, wr_off _ _ _ (by omega)]
  have f6_ : ∀ b, b < 72 → M7 (t + 6) b = M (u + 6) b := fun b hb9 => by rw [hM7, cpa_off _ _ _ (by omega), hM6, cpa_in _ _ _ hb9, hM5, cpa_off _ _ _ (by omega), hM4, cpa_off _ _ _ (by omega), hM3, cpa_off _ _ _ (by omega), hM2, cpa_off _ _ _ (by omega), hM1, wr_off _ _ _ (by omega)]
  have f7_ : ∀ b, b < 6 → M7 (t + 7) b = M (u + 7) b := fun b hb9 => by rw [hM7, cpa_in _ _ _ hb9, hM6, cpa_off _ _ _ (by omega), hM5, cpa_off _ _ _ (by omega), hM4, cpa_off _ _ _ (by omega), hM3, cpa_off _ _ _ (by omega), hM2, cpa_off _ _ _ (by omega), hM1, wr_off _ _ _ (by omega)]
  have f0_ : M7 t 0 = q_nd R := by rw [hM7, cpa_off _ _ _ (by omega), hM6, cpa_off _ _ _ (by omega), hM5, cpa_off _ _ _ (by omega), hM4, cpa_off _ _ _ (by omega), hM3, cpa_off _ _ _ (by omega), hM2, cpa_off _ _ _ (by omega), hM1, wr_eq]
  have fu_ : ∀ a, (a < t ∨ t + 8 ≤ a) → M7 a = M a := fun a ha9 => by rw [hM7, cpa_off _ _ _ (by omega), hM6, cpa_off _ _ _ (by omega), hM5, cpa_off _ _ _ (by omega), hM4, cpa_off _ _ _ (by omega), hM3, cpa_off _ _ _ (by omega), hM2, cpa_off _ _ _ (by omega), hM1, wr_off _ _ _ (by omega)]
  refine lv_iconst (v := iZ 0) hx hb dX3_copyFrom_98 rfl ?_
  refine lv_istore_n (lv' := [(2, .int (iZ 0)), (0, .ref (gad G t)), (1, .ref (gad G u))]) hx hb dX3_copyFrom_99 rfl hl (by decide) rfl (fun ls hl => ?_)
  have L_100 : ∀ (n_100 : Nat) (k : Nat) (x_i : Int) (Mk : Nat → Nat → Int), (x_i = (k : Int)) → (k ≤ 12) → ((∀ j : Nat, j < k → Mk (t + 4) j = M (u + 4) j)) → ((∀ a, a ≠ t + 4 → Mk a = M7 a)) → 12 - k < n_100 → ∀ (H : Heap) (locs : List Loc) (ls : Array Slot), gH G Mk s H locs → lv_has ls 3 [(2, .int (iZ x_i)), (0, .ref (gad G t)), (1, .ref (gad G u))] → W p l e ({ frames := 1, cells := 0, slots := 0, locals := 48 } : Room) s m [.ref (gad G t), .ref (gad G u)].toArray below meth c H locs 0 0 (MQ below (va_Qv (fun (u : Nat → Nat → Int) => (fun M1 => q_tr M1 t R ∧ q_off M M1 t (t + 8)) u) (fun u U => gB G u U) (gA G)) [.ref (gad G t), .ref (gad G u)].toArray s 0 0 (gA G)) (F0 m 100 ls []) := by
    intro n_100
    induction n_100 with
    | zero => intro k x_i Mk he_x_i hk hrw ho hm_100; exact absurd hm_100 (Nat.not_lt_zero _)
    | succ n_100 ih_100 =>
      intro k x_i Mk he_x_i hk hrw ho hm_100 H locs ls hG hl
      subst he_x_i
      refine lv_iload_n hx hb dX3_copyFrom_100 rfl (lv_at hl 0 rfl) ?_
      refine lv_bipush (v := iZ (12)) hx hb dX3_copyFrom_101 (by decide) ?_
      refine z_icmp_ge (tgt := 124) hx hb (by omega) (by decide) dX3_copyFrom_103 (by decide) (fun c_103 => ?_) (fun c_103 => ?_)
      · skip
        have e1 : ∀ b, b < 12 → Mk (t + 1) b = M (u + 1) b := fun b hb9 => by rw [ho _ (by omega)]; exact f1_ b hb9
        have e2 : ∀ b, b < 12 → Mk (t + 2) b = M (u + 2) b := fun b hb9 => by rw [ho _ (by omega)]; exact f2_ b hb9
        have e3 : ∀ b, b < 12 → Mk (t + 3) b = M (u + 3) b := fun b hb9 => by rw [ho _ (by omega)]; exact f3_ b hb9
        have e5 : ∀ b, b < 12 → Mk (t + 5) b = M (u + 5) b := fun b hb9 => by rw [ho _ (by omega)]; exact f5_ b hb9
        have e6 : ∀ b, b < 72 → Mk (t + 6) b = M (u + 6) b := fun b hb9 => by rw [ho _ (by omega)]; exact f6_ b hb9
        have e7 : ∀ b, b < 6 → Mk (t + 7) b = M (u + 7) b := fun b hb9 => by rw [ho _ (by omega)]; exact f7_ b hb9
        have e0 : Mk t 0 = q_nd R := by rw [ho _ (by omega)]; exact f0_
        have eu : Mk u = M u := by rw [ho _ (by omega), fu_ _ (by omega)]
        have hbo : q_off M Mk t (t + 8) := fun a ha => by rw [ho _ (by omega)]; exact fu_ _ ha
        refine lv_aload_n hx hb dX3_copyFrom_124 rfl (lv_at hl 1 rfl) ?_
        refine lv_aload_n hx hb dX3_copyFrom_125 rfl (lv_at hl 2 rfl) ?_
        refine g_geti (z := (Mk u 8)) hx hb hts hinX3 hown hG (o := u) (hd_u 0 (by decide)) (gE_T hU G _) rfl 8 (by decide) f41 (fun _ h => h) rfl rfl dX3_copyFrom_126 ?_
        refine g_put (F := (fun f => oT G f t)) hx hb hts hinX3 tyX3 tyX3_ok nmX3 hown hG (o := t) (hd_t 0 (by decide)) (fun f => gE_T hT G f) rfl 8 (by decide) f41 (fun _ h => h) rfl rfl (fun _ => Nat.lt_of_lt_of_le (by decide) (Nat.le_refl 15)) (fun _ => rfl) dX3_copyFrom_129 (fun H locs hG => ?_)
        obtain ⟨M8, hM8⟩ : ∃ X, X = (q_wr Mk t 8 (Mk u 8)) := ⟨_, rfl⟩
        rw [← hM8] at hG
        refine lv_aload_n hx hb dX3_copyFrom_132 rfl (lv_at hl 1 rfl) ?_
        refine lv_aload_n hx hb dX3_copyFrom_133 rfl (lv_at hl 2 rfl) ?_
        refine g_geti (z := (M8 u 9)) hx hb hts hinX3 hown hG (o := u) (hd_u 0 (by decide)) (gE_T hU G _) rfl 9 (by decide) f44 (fun _ h => h) rfl rfl dX3_copyFrom_134 ?_
        refine g_put (F := (fun f => oT G f t)) hx hb hts hinX3 tyX3 tyX3_ok nmX3 hown hG (o := t) (hd_t 0 (by decide)) (fun f => gE_T hT G f) rfl 9 (by decide) f44 (fun _ h => h) rfl rfl (fun _ => Nat.lt_of_lt_of_le (by decide) (Nat.le_refl 15)) (fun _ => rfl) dX3_copyFrom_137 (fun H locs hG => ?_)
        obtain ⟨M9, hM9⟩ : ∃ X, X = (q_wr M8 t 9 (M8 u 9)) := ⟨_, rfl⟩
        rw [← hM9] at hG
        refine lv_aload_n hx hb dX3_copyFrom_140 rfl (lv_at hl 1 rfl) ?_
        refine lv_aload_n hx hb dX3_copyFrom_141 rfl (lv_at hl 2 rfl) ?_
        refine g_geti (z := (M9 u 10)) hx hb hts hinX3 hown hG (o := u) (hd_u 0 (by decide)) (gE_T hU G _) rfl 10 (by decide) f47 (fun _ h => h) rfl rfl dX3_copyFrom_142 ?_
        refine g_put (F := (fun f => oT G f t)) hx hb hts hinX3 tyX3 tyX3_ok nmX3 hown hG (o := t) (hd_t 0 (by decide)) (fun f => gE_T hT G f) rfl 10 (by decide) f47 (fun _ h => h) rfl rfl (fun _ => Nat.lt_of_lt_of_le (by decide) (Nat.le_refl 15)) (fun _ => rfl) dX3_copyFrom_145 (fun H locs hG => ?_)
        obtain ⟨M10, hM10⟩ : ∃ X, X = (q_wr M9 t 10 (M9 u 10)) := ⟨_, rfl⟩
        rw [← hM10] at hG
        refine lv_aload_n hx hb dX3_copyFrom_148 rfl (lv_at hl 1 rfl) ?_
        refine lv_aload_n hx hb dX3_copyFrom_149 rfl (lv_at hl 2 rfl) ?_
        refine g_geti (z := (M10 u 11)) hx hb hts hinX3 hown hG (o := u) (hd_u 0 (by decide)) (gE_T hU G _) rfl 11 (by decide) f50 (fun _ h => h) rfl rfl dX3_copyFrom_150 ?_
        refine g_put (F := (fun f => oT G f t)) hx hb hts hinX3 tyX3 tyX3_ok nmX3 hown hG (o := t) (hd_t 0 (by decide)) (fun f => gE_T hT G f) rfl 11 (by decide) f50 (fun _ h => h) rfl rfl (fun _ => Nat.lt_of_lt_of_le (by decide) (Nat.le_refl 15)) (fun _ => rfl) dX3_copyFrom_153 (fun H locs hG => ?_)
        obtain ⟨M11, hM11⟩ : ∃ X, X = (q_wr M10 t 11 (M10 u 11)) := ⟨_, rfl⟩
        rw [← hM11] at hG
        refine lv_aload_n hx hb dX3_copyFrom_156 rfl (lv_at hl 1 rfl) ?_
        refine lv_aload_n hx hb dX3_copyFrom_157 rfl (lv_at hl 2 rfl) ?_
        refine g_geti (z := (M11 u 12)) hx hb hts hinX3 hown hG (o := u) (hd_u 0 (by decide)) (gE_T hU G _) rfl 12 (by decide) f53 (fun _ h => h) rfl rfl dX3_copyFrom_158 ?_
        refine g_put (F := (fun f => oT G f t)) hx hb hts hinX3 tyX3 tyX3_ok nmX3 hown hG (o := t) (hd_t 0 (by decide)) (fun f => gE_T hT G f) rfl 12 (by decide) f53 (fun _ h => h) rfl rfl (fun _ => Nat.lt_of_lt_of_le (by decide) (Nat.le_refl 15)) (fun _ => rfl) dX3_copyFrom_161 (fun H locs hG => ?_)
        obtain ⟨M12, hM12⟩ : ∃ X, X = (q_wr M11 t 12 (M11 u 12)) := ⟨_, rfl⟩
        rw [← hM12] at hG
        refine lv_aload_n hx hb dX3_copyFrom_164 rfl (lv_at hl 1 rfl) ?_
        refine lv_aload_n hx hb dX3_copyFrom_165 rfl (lv_at hl 2 rfl) ?_
        refine g_geti (z := (M12 u 13)) hx hb hts hinX3 hown hG (o := u) (hd_u 0 (by decide)) (gE_T hU G _) rfl 13 (by decide) f56 (fun _ h => h) rfl rfl dX3_copyFrom_166 ?_
        refine g_put (F := (fun f => oT G f t)) hx hb hts hinX3 tyX3 tyX3_ok nmX3 hown hG (o := t) (hd_t 0 (by decide)) (fun f => gE_T hT G f) rfl 13 (by decide) f56 (fun _ h => h) rfl rfl (fun _ => Nat.lt_of_lt_of_le (by decide) (Nat.le_refl 15)) (fun _ => rfl) dX3_copyFrom_169 (fun H locs hG => ?_)
        obtain ⟨M13, hM13⟩ : ∃ X, X = (q_wr M12 t 13 (M12 u 13)) := ⟨_, rfl⟩
        rw [← hM13] at hG
        refine lv_aload_n hx hb dX3_copyFrom_172 rfl (lv_at hl 1 rfl) ?_
        refine lv_aload_n hx hb dX3_copyFrom_173 rfl (lv_at hl 2 rfl) ?_
        refine g_geti (z := (M13 u 14)) hx hb hts hinX3 hown hG (o := u) (hd_u 0 (by decide)) (gE_T hU G _) rfl 14 (by decide) f59 (fun _ h => h) rfl rfl dX3_copyFrom_174 ?_
        refine g_put (F := (fun f => oT G f t)) hx hb hts hinX3 tyX3 tyX3_ok nmX3 hown hG (o := t) (hd_t 0 (by decide)) (fun f => gE_T hT G f) rfl 14 (by decide) f59 (fun _ h => h) rfl rfl (fun _ => Nat.lt_of_lt_of_le (by decide) (Nat.le_refl 15)) (fun _ => rfl) dX3_copyFrom_177 (fun H locs hG => ?_)
        obtain ⟨M14, hM14⟩ : ∃ X, X = (q_wr M13 t 14 (M13 u 14)) := ⟨_, rfl⟩
        rw [← hM14] at hG
        have ea : ∀ a, a ≠ t → M14 a = Mk a := fun a ha9 => by rw [hM14, wr_off _ _ _ ha9, hM13, wr_off _ _ _ ha9, hM12, wr_off _ _ _ ha9, hM11, wr_off _ _ _ ha9, hM10, wr_off _ _ _ ha9, hM9, wr_off _ _ _ ha9, hM8, wr_off _ _ _ ha9]
        have ec0 : M14 t 0 = q_nd R := by rw [hM14, wr_ne _ _ _ (by decide), hM13, wr_ne _ _ _ (by decide), hM12, wr_ne _ _ _ (by decide), hM11, wr_ne _ _ _ (by decide), hM10, wr_ne _ _ _ (by decide), hM9, wr_ne _ _ _ (by decide), hM8, wr_ne _ _ _ (by decide), e0]
        have ec8 : M14 t 8 = M u 8 := by rw [hM14, wr_ne _ _ _ (by decide), hM13, wr_ne _ _ _ (by decide), hM12, wr_ne _ _ _ (by decide), hM11, wr_ne _ _ _ (by decide), hM10, wr_ne _ _ _ (by decide), hM9, wr_ne _ _ _ (by decide), hM8, wr_eq, eu]
        have ec9 : M14 t 9 = M u 9 := by rw [hM14, wr_ne _ _ _ (by decide), hM13, wr_ne _ _ _ (by decide), hM12, wr_ne _ _ _ (by decide), hM11, wr_ne _ _ _ (by decide), hM10, wr_ne _ _ _ (by decide), hM9, wr_eq, hM8, wr_off _ _ _ (by omega), eu]
        have ec10 : M14 t 10 = M u 10 := by rw [hM14, wr_ne _ _ _ (by decide), hM13, wr_ne _ _ _ (by decide), hM12, wr_ne _ _ _ (by decide), hM11, wr_ne _ _ _ (by decide), hM10, wr_eq, hM9, wr_off _ _ _ (by omega), hM8, wr_off _ _ _ (by omega), eu]
        have ec11 : M14 t 11 = M u 11 := by rw [hM14, wr_ne _ _ _ (by decide), hM13, wr_ne _ _ _ (by decide), hM12, wr_ne _ _ _ (by decide), hM11, wr_eq, hM10, wr_off _ _ _ (by omega), hM9, wr_off _ _ _ (by omega), hM8, wr_off _ _ _ (by omega), eu]
        have ec12 : M14 t 12 = M u 12 := by rw [hM14, wr_ne _ _ _ (by decide), hM13, wr_ne _ _ _ (by decide), hM12, wr_eq, hM11, wr_off _ _ _ (by omega), hM10, wr_off _ _ _ (by omega), hM9, wr_off _ _ _ (by omega), hM8, wr_off _ _ _ (by omega), eu]
        have ec13 : M14 t 13 = M u 13 := by rw [hM14, wr_ne _ _ _ (by decide), hM13, wr_eq, hM12, wr_off _ _ _ (by omega), hM11, wr_off _ _ _ (by omega), hM10, wr_off _ _ _ (by omega), hM9, wr_off _ _ _ (by omega), hM8, wr_off _ _ _ (by omega), eu]
        have ec14 : M14 t 14 = M u 14 := by rw [hM14, wr_eq, hM13, wr_off _ _ _ (by omega), hM12, wr_off _ _ _ (by omega), hM11, wr_off _ _ _ (by omega), hM10, wr_off _ _ _ (by omega), hM9, wr_off _ _ _ (by omega), hM8, wr_off _ _ _ (by omega), eu]
        have hpost : q_tr M14 t R := by
          obtain ⟨r0, rd, rk9, r8, r9, r10, r11, r12, r13, r14, rb⟩ := hR
          refine ⟨ec0, fun j hj => ?_, fun k2 hk2 => ?_, ec8.trans r8, ec9.trans r9, ec10.trans r10, ec11.trans r11, ec12.trans r12, ec13.trans r13, ec14.trans r14, fun j hj => ?_⟩
          · obtain ⟨d1, d2, d3, d4, d5, d6⟩ := rd j hj
            rw [ea _ (by omega), ea _ (by omega), ea _ (by omega), ea _ (by omega), ea _ (by omega), e1 j (by omega), e2 j (by omega), e3 j (by omega), hrw j (by omega), e5 j (by omega)]
            refine ⟨d1, d2, d3, d4, d5, fun hh p hp => ?_⟩
            rw [ea _ (by omega), e6 _ (by omega)]; exact d6 hh p hp
          · rw [ea _ (by omega), e7 k2 hk2]; exact rk9 k2 hk2
          · rw [ea _ (by omega), hrw j (by omega)]; exact rb j hj
        have hoff : q_off M M14 t (t + 8) := by
          subst hM14
          subst hM13
          subst hM12
          subst hM11
          subst hM10
          subst hM9
          subst hM8
          exact (q_off.wr (q_off.wr (q_off.wr (q_off.wr (q_off.wr (q_off.wr (q_off.wr hbo (by omega) (by omega)) (by omega) (by omega)) (by omega) (by omega)) (by omega) (by omega)) (by omega) (by omega)) (by omega) (by omega)) (by omega) (by omega))
        exact g_vret hx hb hr hG hlocks (⟨hpost, hoff⟩) dX3_copyFrom_180
      · skip
        refine lv_aload_n hx hb dX3_copyFrom_106 rfl (lv_at hl 1 rfl) ?_
        refine g_get hx hb hts hinX3 hown hG (o := t) (hd_t 0 (by decide)) (gE_T hT G _) rfl 4 (by decide) f21 (fun _ h => h) rfl dX3_copyFrom_107 ?_
        refine lv_iload_n hx hb dX3_copyFrom_110 rfl (lv_at hl 0 rfl) ?_
        refine lv_aload_n hx hb dX3_copyFrom_111 rfl (lv_at hl 2 rfl) ?_
        refine g_get hx hb hts hinX3 hown hG (o := u) (hd_u 0 (by decide)) (gE_T hU G _) rfl 4 (by decide) f21 (fun _ h => h) rfl dX3_copyFrom_112 ?_
        refine lv_iload_n hx hb dX3_copyFrom_115 rfl (lv_at hl 0 rfl) ?_
        refine g_zald (z := (M (u + 4) k)) (j := k) hx hb hG (o := (u + 4)) (hd_u 4 (by decide)) (gE_tZ hU G _) (by omega) (by omega) (by omega) (by rw [ho _ (by omega), fu_ _ (by omega)]) dX3_copyFrom_116 ?_
        refine g_zast (j := k) hx hb hG (o := (t + 4)) (hd_t 4 (by decide)) (fun f => gE_tZ hT G f) (by omega) (by omega) (by omega) (by have := tr_bo hR (j := k) (by omega); omega) dX3_copyFrom_117 (fun H locs hG => ?_)
        obtain ⟨M15, hM15⟩ : ∃ X, X = (q_wr Mk (t + 4) k (M (u + 4) k)) := ⟨_, rfl⟩
        rw [← hM15] at hG
        refine z_iinc (z := ((k : Int) + 1)) (lv' := [(2, .int (iZ ((k : Int) + 1))), (0, .ref (gad G t)), (1, .ref (gad G u))]) hx hb dX3_copyFrom_118 hl (k := 0) rfl (by omega) (by decide) rfl (fun ls hl => ?_)
        refine lv_goto (tgt := 100) hx hb dX3_copyFrom_121 (by decide) ?_
        exact ih_100 (k + 1) ((k : Int) + 1) M15 (by omega) (by omega) (fun j hj => by rw [hM15, wr_ap]; split; (rename_i e8; rw [e8.2]); (exact hrw j (by omega))) (fun a ha => by rw [hM15, wr_off _ _ _ ha]; exact ho a ha) (by omega) _ _ _ hG (lv_sub hl [0, 1, 2] rfl)
  exact L_100 _ 0 0 M7 rfl (by omega) (fun j h => absurd h (Nat.not_lt_zero _)) (fun _ _ => rfl) (Nat.lt_succ_self _) _ _ _ hG (lv_sub hl [0, 1, 2] rfl)
set_option maxHeartbeats 4000000 in
set_option maxRecDepth 100000 in
theorem c_X0_setLosses (l : Launch) (G : gG) (M : Nat → Nat → Int) (hdm : ∀ k, k < 169 → gdm G k) (q : Nat) (hC : isC q) (v : Int) (hv : -9223372036854775808 ≤ v ∧ v < 9223372036854775808) : gMi l yX0_setLosses wsX0_setLosses ({ frames := 0, cells := 0, slots := 0, locals := 0 } : Room) G M [.ref (gad G q), .long (lZ v)] (fun z M1 => ((z = 1 ∧ q_pts v ∧ ∀ p : Nat, p < 6 → M1 (q + 3) p = q_dig v p) ∨ (z = 0 ∧ ¬ q_pts v)) ∧ q_off M M1 (q + 3) (q + 4)) := by
  refine gMi_of (cc := cX0_setLosses) (maxL := 6) (ret := some .boolean) (by decide) rfl (Nat.le_of_ble_eq_true rfl) ?_
  intro p e s m below meth c ls hx hb hr hml hown hts hlocks hl hG
  have hown : s.vm.findClass RX0 = some m.cls := hown
  have hl : lv_has ls 6 [(0, .ref (gad G q)), (1, .long (lZ v))] := hl
  have hdc_q : ∀ r, r < 4 → gdm G (q + r) := fun r hr => hdm _ (by rcases hC with h | h <;> omega)
  have hinX0 : ∀ w ∈ u_ws RX0 TX0 4, w ∈ wsX0_setLosses := by decide +kernel
  have f19 := hts (.fieldLink RX0 19 "DogTrials$Course" "losses" "[I") (by decide +kernel)
  refine lv_lload_n hx hb dX0_setLosses_0 rfl (lv_at hl 1 rfl) ?_
  refine lv_lconst (v := lZ 0) hx hb dX0_setLosses_1 rfl ?_
  refine W.lcmp hx hb dX0_setLosses_2 ?_
  refine z_ifL_lt (tgt := 14) hx hb (by omega) (by omega) dX0_setLosses_3 (by decide) (fun c_3 => ?_) (fun c_3 => ?_)
  · skip
    refine lv_iconst (v := iZ 0) hx hb dX0_setLosses_14 rfl ?_
    exact g_zret (post := fun z M1 => ((z = 1 ∧ q_pts v ∧ ∀ p : Nat, p < 6 → M1 (q + 3) p = q_dig v p) ∨ (z = 0 ∧ ¬ q_pts v)) ∧ q_off M M1 (q + 3) (q + 4)) (z := 0) hx hb hr hG hlocks (Or.inl rfl) (⟨Or.inr ⟨rfl, fun h => by have h9 := h.1; omega⟩, q_off.rf _ _ _⟩) dX0_setLosses_15
  · skip
    refine lv_lload_n hx hb dX0_setLosses_6 rfl (lv_at hl 1 rfl) ?_
    refine lv_ldc2 (v := lZ 999999999999) hx hb hown (by rw [show lZ 999999999999 = (999999999999 : Int64) from by decide]; exact hts (.constantLong RX0 52 999999999999) (by decide +kernel)) dX0_setLosses_7 ?_
    refine W.lcmp hx hb dX0_setLosses_10 ?_
    refine z_ifL_le (tgt := 16) hx hb (by omega) (by omega) dX0_setLosses_11 (by decide) (fun c_11 => ?_) (fun c_11 => ?_)
    · skip
      refine lv_lload_n hx hb dX0_setLosses_16 rfl (lv_at hl 1 rfl) ?_
      refine lv_lstore_n (lv' := [(3, .long (lZ v)), (0, .ref (gad G q)), (1, .long (lZ v))]) hx hb dX0_setLosses_17 rfl hl (by decide) rfl (fun ls hl => ?_)
      refine lv_iconst (v := iZ 5) hx hb dX0_setLosses_18 rfl ?_
      refine lv_istore (lv' := [(5, .int (iZ 5)), (3, .long (lZ v)), (0, .ref (gad G q)), (1, .long (lZ v))]) hx hb dX0_setLosses_19 hl (by decide) rfl (fun ls hl => ?_)
      have L_21 : ∀ (n_21 : Nat) (k : Nat) (x_i : Int) (x_r : Int) (Mk : Nat → Nat → Int), (x_i = ((k : Int) - 1)) → (x_r = (q_rst v (6 - k))) → (k ≤ 6) → ((∀ p : Nat, k ≤ p → p < 6 → q_dig v p ≤ q_wth p ∧ Mk (q + 3) p = q_dig v p)) → (q_off M Mk (q + 3) (q + 4)) → k < n_21 → ∀ (H : Heap) (locs : List Loc) (ls : Array Slot), gH G Mk s H locs → lv_has ls 6 [(5, .int (iZ x_i)), (3, .long (lZ x_r)), (0, .ref (gad G q)), (1, .long (lZ v))] → W p l e ({ frames := 0, cells := 0, slots := 0, locals := 0 } : Room) s m [.ref (gad G q), .long (lZ v)].toArray below meth c H locs 0 0 (MQ below (va_Qi (fun r (u : Int × (Nat → Nat → Int)) => r = iZ u.1 ∧ (fun z M1 => ((z = 1 ∧ q_pts v ∧ ∀ p : Nat, p < 6 → M1 (q + 3) p = q_dig v p) ∨ (z = 0 ∧ ¬ q_pts v)) ∧ q_off M M1 (q + 3) (q + 4)) u.1 u.2) (fun u U => gB G u.2 U) (gA G)) [.ref (gad G q), .long (lZ v)].toArray s 0 0 (gA G)) (F0 m 21 ls []) := by
        intro n_21
        induction n_21 with
        | zero => intro k x_i x_r Mk he_x_i he_x_r hk hdg ho hm_21; exact absurd hm_21 (Nat.not_lt_zero _)
        | succ n_21 ih_21 =>
          intro k x_i x_r Mk he_x_i he_x_r hk hdg ho hm_21 H locs ls hG hl
          subst he_x_i
          subst he_x_r
          have hrs := q_rst_in (v := v) (by omega) (6 - k)
          have hdk : 0 < k → q_dig v (k - 1) = q_rst v (6 - k) % 100 := fun h => by unfold q_dig; rw [show 5 - (k - 1) = 6 - k by omega]
          refine lv_iload hx hb dX0_setLosses_21 (lv_at hl 0 rfl) ?_
          refine z_if_lt (tgt := 69) hx hb (by omega) dX0_setLosses_23 (by decide) (fun c_23 => ?_) (fun c_23 => ?_)
          · skip
            refine lv_iconst (v := iZ 1) hx hb dX0_setLosses_69 rfl ?_
            exact g_zret (post := fun z M1 => ((z = 1 ∧ q_pts v ∧ ∀ p : Nat, p < 6 → M1 (q + 3) p = q_dig v p) ∨ (z = 0 ∧ ¬ q_pts v)) ∧ q_off M M1 (q + 3) (q + 4)) (z := 1) hx hb hr hG hlocks (Or.inr rfl) (⟨Or.inl ⟨rfl, ⟨by omega, fun p hp => (hdg p (by omega) hp).1⟩, fun p hp => (hdg p (by omega) hp).2⟩, ho⟩) dX0_setLosses_70
          · skip
            have hdk1 := hdk (by omega)
            have hwk := wth_in (k - 1)
            refine lv_aload_n hx hb dX0_setLosses_26 rfl (lv_at hl 2 rfl) ?_
            refine g_get hx hb hts hinX0 hown hG (o := q) (hdc_q 0 (by decide)) (gE_C hC G _) rfl 3 (by decide) f19 (fun _ h => h) rfl dX0_setLosses_27 ?_
            refine lv_iload hx hb dX0_setLosses_30 (lv_at hl 0 rfl) ?_
            refine lv_lload_n hx hb dX0_setLosses_32 rfl (lv_at hl 1 rfl) ?_
            refine lv_ldc2 (v := lZ 100) hx hb hown (by rw [show lZ 100 = (100 : Int64) from by decide]; exact hts (.constantLong RX0 54 100) (by decide +kernel)) dX0_setLosses_33 ?_
            refine z_lrem (z := (q_rst v (6 - k) % 100)) hx hb (by omega) (by omega) (Int.tmod_eq_emod_of_nonneg (by omega)) dX0_setLosses_36 ?_
            refine z_l2i hx hb dX0_setLosses_37 ?_
            refine g_iast (j := ((k - 1))) hx hb hG (o := (q + 3)) (hdc_q 3 (by decide)) (fun f => gE_c3 hC G f) (by omega) (by omega) (by omega) dX0_setLosses_38 (fun H locs hG => ?_)
            obtain ⟨M1, hM1⟩ : ∃ X, X = (q_wr Mk (q + 3) ((k - 1)) (q_rst v (6 - k) % 100)) := ⟨_, rfl⟩
            rw [← hM1] at hG
            refine lv_aload_n hx hb dX0_setLosses_39 rfl (lv_at hl 2 rfl) ?_
            refine g_get hx hb hts hinX0 hown hG (o := q) (hdc_q 0 (by decide)) (gE_C hC G _) rfl 3 (by decide) f19 (fun _ h => h) rfl dX0_setLosses_40 ?_
            refine lv_iload hx hb dX0_setLosses_43 (lv_at hl 0 rfl) ?_
            refine g_iald (z := (q_rst v (6 - k) % 100)) (j := ((k - 1))) hx hb hG (o := (q + 3)) (hdc_q 3 (by decide)) (gE_c3 hC G _) (by omega) (by omega) (by omega) (by rw [hM1, wr_eq]) dX0_setLosses_45 ?_
            refine g_worth hx hb hG hown hG.2.1.2.2.2.2.2.2.2.1 dX0_setLosses_46 ?_
            refine lv_iload hx hb dX0_setLosses_49 (lv_at hl 0 rfl) ?_
            refine g_wald (j := ((k - 1))) hx hb hG (by omega) (by omega) dX0_setLosses_51 ?_
            refine z_icmp_le (tgt := 57) hx hb (by omega) (by omega) dX0_setLosses_52 (by decide) (fun c_52 => ?_) (fun c_52 => ?_)
            · skip
              refine lv_lload_n hx hb dX0_setLosses_57 rfl (lv_at hl 1 rfl) ?_
              refine lv_ldc2 (v := lZ 100) hx hb hown (by rw [show lZ 100 = (100 : Int64) from by decide]; exact hts (.constantLong RX0 54 100) (by decide +kernel)) dX0_setLosses_58 ?_
              refine z_ldiv (z := (q_rst v (6 - k) / 100)) hx hb (by omega) (by omega) (Int.tdiv_eq_ediv_of_nonneg (by omega)) dX0_setLosses_61 ?_
              refine lv_lstore_n (lv' := [(3, .long (lZ (q_rst v (6 - k) / 100))), (5, .int (iZ ((k : Int) - 1))), (0, .ref (gad G q)), (1, .long (lZ v))]) hx hb dX0_setLosses_62 rfl hl (by decide) rfl (fun ls hl => ?_)
              refine z_iinc (z := ((k : Int) - 2)) (lv' := [(5, .int (iZ ((k : Int) - 2))), (3, .long (lZ (q_rst v (6 - k) / 100))), (0, .ref (gad G q)), (1, .long (lZ v))]) hx hb dX0_setLosses_63 hl (k := 1) rfl (by omega) (by decide) rfl (fun ls hl => ?_)
              refine lv_goto (tgt := 21) hx hb dX0_setLosses_66 (by decide) ?_
              exact ih_21 (k - 1) ((k : Int) - 2) (q_rst v (6 - k) / 100) M1 (by omega) (by rw [show 6 - (k - 1) = (6 - k) + 1 by omega, q_rst]) (by omega) (fun p h1 h2 => by by_cases e9 : p = k - 1; (subst e9; rw [hM1, wr_eq]; exact ⟨by omega, by omega⟩); (rw [hM1, wr_ne _ _ _ e9]; exact hdg p (by omega) h2)) (by rw [hM1]; exact q_off.wr ho (by omega) (by omega)) (by omega) _ _ _ hG (lv_sub hl [0, 1, 2, 3] rfl)
            · skip
              refine lv_iconst (v := iZ 0) hx hb dX0_setLosses_55 rfl ?_
              exact g_zret (post := fun z M1 => ((z = 1 ∧ q_pts v ∧ ∀ p : Nat, p < 6 → M1 (q + 3) p = q_dig v p) ∨ (z = 0 ∧ ¬ q_pts v)) ∧ q_off M M1 (q + 3) (q + 4)) (z := 0) hx hb hr hG hlocks (Or.inl rfl) (⟨Or.inr ⟨rfl, fun h => by have h9 := h.2 (k - 1) (by omega); have h8 := hdk (by omega); omega⟩, by rw [hM1]; exact q_off.wr ho (by omega) (by omega)⟩) dX0_setLosses_56
      exact L_21 _ 6 5 v M rfl rfl (by omega) (fun p h1 h2 => absurd h1 (by omega)) (q_off.rf _ _ _) (Nat.lt_succ_self _) _ _ _ hG (lv_sub hl [0, 1, 2, 3] rfl)
    · skip
      refine lv_iconst (v := iZ 0) hx hb dX0_setLosses_14 rfl ?_
      exact g_zret (post := fun z M1 => ((z = 1 ∧ q_pts v ∧ ∀ p : Nat, p < 6 → M1 (q + 3) p = q_dig v p) ∨ (z = 0 ∧ ¬ q_pts v)) ∧ q_off M M1 (q + 3) (q + 4)) (z := 0) hx hb hr hG hlocks (Or.inl rfl) (⟨Or.inr ⟨rfl, fun h => by have h9 := h.1; omega⟩, q_off.rf _ _ _⟩) dX0_setLosses_15
