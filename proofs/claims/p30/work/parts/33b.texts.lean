/-! THE TEXT, before it is loaded -/
def q_T (M : Nat → Nat → Int) (X : Nat → Int) (n : Nat) : Prop := M 168 = X ∧ n ≤ 70 ∧ M 167 1 = (n : Int) ∧ (∀ j : Nat, j < n → 0 ≤ X j ∧ X j ≤ 255) ∧ (∀ j : Nat, j < 12 → 0 ≤ M 12 j ∧ M 12 j ≤ 1) ∧ ∃ o : Nat, o < 14 ∧ M 165 1 = (o : Int)
def kT (X : Nat → Int) (n : Nat) : gP := fun M => q_T M X n
theorem q_T.cs {M M1 : Nat → Nat → Int} {X : Nat → Int} {n : Nat} (h : q_T M X n) (h1 : q_cs M M1) : q_T M1 X n := by
  obtain ⟨a, b, c, d, e, o, f, g⟩ := h
  exact ⟨by rw [h1.1 168 (by omega) (by omega) (by omega)]; exact a, b, by rw [h1.2.1 1 (by decide)]; exact c, d, h1.2.2 e, o, f, by rw [h1.mem]; exact g⟩
theorem q_T.add {M : Nat → Nat → Int} {X : Nat → Int} {n : Nat} {a : Int} (h : q_T M X n) (hn : n < 70) (ha : 0 ≤ a ∧ a ≤ 255) : q_T (q_wr (q_wr M 168 n a) 167 1 ((n : Int) + 1)) (q_up X n a) (n + 1) := by
  obtain ⟨h1, h2, h3, h4, h5, o, h6, h7⟩ := h
  refine ⟨?_, by omega, ?_, fun j hj => ?_, ?_, o, h6, ?_⟩
  · rw [wr_off _ _ _ (by decide), wr_at, h1]
  · rw [wr_eq]; omega
  · by_cases e : j = n
    · rw [e, up_eq]; exact ha
    · rw [up_ne _ _ e]; exact h4 j (by omega)
  · rw [wr_off _ _ _ (by decide), wr_off _ _ _ (by decide)]; exact h5
  · rw [wr_off _ _ _ (by decide), wr_off _ _ _ (by decide)]; exact h7
set_option maxHeartbeats 4000000 in
set_option maxRecDepth 100000 in
theorem c_L_tryAppendT (l : Launch) (hl0 : l.stackTraces = false) (G : gG) (hdm : ∀ k, k < 169 → gdm G k) (M0 : Nat → Nat → Int) (X : Nat → Int) (n : Nat) (hn9 : n < 70) (a : Int) (ha9 : -2147483648 ≤ a ∧ a < 2147483648) (ha : 0 ≤ a ∧ a ≤ 255) : gML l yL_tryAppend wsL_tryAppend ({ frames := 7, cells := 1, slots := 6, locals := 111 } : Room) 1 G M0 (kT X n) [.ref (gad G 152), .int (iZ a)] (fun z K1 => z = (n : Int) + 1 ∧ K1 = kT (q_up X n a) (n + 1)) := by
  refine gML_ofW (cc := cL_tryAppend) (maxL := 3) (ret := some .int) (by decide) rfl (Nat.le_of_ble_eq_true rfl) ?_
  intro p e s m below meth c ls hx hb hr hml hown hts hlocks htb hl hG
  have hown : s.vm.findClass RL = some m.cls := hown
  have hl : lv_has ls 3 [(0, .ref (gad G 152)), (1, .int (iZ a))] := hl
  obtain ⟨M, hG, hX, hK, hF⟩ := hG
  have hK : q_T M X n := hK
  refine lv_aload_n hx hb dL_tryAppend_0 rfl (lv_at hl 0 rfl) ?_
  refine lv_iload_n hx hb dL_tryAppend_1 rfl (lv_at hl 1 rfl) ?_
  refine g_callX (b := 152) (As := [.int (iZ a)]) (rest := []) ⟨hx, hb, hml, hown, hts⟩ (c_X5_append l G M hl0 hdm n hK.2.1 hK.2.2.1 a ha9) (cwV 1 hts gL_tryAppend_X5_append rfl rfl rfl (by decide +kernel) ⟨Nat.le_of_ble_eq_true rfl, Nat.le_of_ble_eq_true rfl⟩) hX hG (g_recv hG (b := 152) (hdm 152 (by decide)) rfl rfl) rfl hl.1 rfl (Nat.le_of_ble_eq_true rfl) dL_tryAppend_2 ⟨Nat.le_of_ble_eq_true rfl, Nat.le_of_ble_eq_true rfl⟩ (fun E9 M2 H locs ce9 q9 hpx hG hce hcv hcl => ?_) (fun z1 M2 H locs hp hG => ?_)
  · obtain ⟨hE9, hfr9⟩ := hpx
    rcases hE9 with ⟨hc9, -⟩ | ⟨hc9, -⟩
    · rw [if_neg (fun h9 => h9 ha), if_neg (by omega)] at hc9; exact absurd hc9 (by decide)
    · rw [if_neg (fun h9 => h9 ha), if_neg (by omega)] at hc9; exact absurd hc9 (by decide)
  · obtain ⟨hc9, hz9, hM9⟩ := hp
    have hK9 : q_T M2 (q_up X n a) (n + 1) := by rw [hM9]; exact hK.add hn9 ha
    have hF9 : q_bd M M2 := fun a9 h9 => by rw [hM9, wr_off _ _ _ (by omega), wr_off _ _ _ (by omega)]
    exact g_iretL (K := kT (q_up X n a) (n + 1)) (post := fun z K1 => z = (n : Int) + 1 ∧ K1 = kT (q_up X n a) (n + 1)) (z := z1) hx hb hr ⟨M2, hG, hX, hK9, hF.tr hF9⟩ hlocks ⟨hz9, rfl⟩ ⟨Nat.le_of_ble_eq_true rfl, Nat.le_of_ble_eq_true rfl⟩ dL_tryAppend_5
set_option maxHeartbeats 4000000 in
set_option maxRecDepth 100000 in
theorem c_L_tryAppendS (l : Launch) (hl0 : l.stackTraces = false) (G : gG) (hdm : ∀ k, k < 169 → gdm G k) (M0 : Nat → Nat → Int) (σ : gS) (a : Int) (ha9 : -2147483648 ≤ a ∧ a < 2147483648) (ha : a < 0) : gML l yL_tryAppend wsL_tryAppend ({ frames := 7, cells := 1, slots := 6, locals := 111 } : Room) 1 G M0 (kS σ) [.ref (gad G 152), .int (iZ a)] (fun z K1 => z = -9999002 ∧ K1 = kS σ) := by
  refine gML_ofW (cc := cL_tryAppend) (maxL := 3) (ret := some .int) (by decide) rfl (Nat.le_of_ble_eq_true rfl) ?_
  intro p e s m below meth c ls hx hb hr hml hown hts hlocks htb hl hG
  have hown : s.vm.findClass RL = some m.cls := hown
  have hl : lv_has ls 3 [(0, .ref (gad G 152)), (1, .int (iZ a))] := hl
  obtain ⟨M, hG, hX, hK, hF⟩ := hG
  have hK : q_K M σ := hK
  obtain ⟨tn, ht70, ht1⟩ := hK.2.2.2.2.1
  refine lv_aload_n hx hb dL_tryAppend_0 rfl (lv_at hl 0 rfl) ?_
  refine lv_iload_n hx hb dL_tryAppend_1 rfl (lv_at hl 1 rfl) ?_
  refine g_callX (b := 152) (As := [.int (iZ a)]) (rest := []) ⟨hx, hb, hml, hown, hts⟩ (c_X5_append l G M hl0 hdm tn ht70 ht1 a ha9) (cwV 1 hts gL_tryAppend_X5_append rfl rfl rfl (by decide +kernel) ⟨Nat.le_of_ble_eq_true rfl, Nat.le_of_ble_eq_true rfl⟩) hX hG (g_recv hG (b := 152) (hdm 152 (by decide)) rfl rfl) rfl hl.1 rfl (Nat.le_of_ble_eq_true rfl) dL_tryAppend_2 ⟨Nat.le_of_ble_eq_true rfl, Nat.le_of_ble_eq_true rfl⟩ (fun E9 M2 H locs ce9 q9 hpx hG hce hcv hcl => ?_) (fun z1 M2 H locs hp hG => ?_)
  · obtain ⟨hE9, hfr9⟩ := hpx
    have hG9 : gKH G M0 (kS σ) s H locs := ⟨M2, hG, hX, hK.cs hfr9, hF.tr (q_bd.cs hfr9)⟩
    rcases hE9 with ⟨hc9, rfl⟩ | ⟨hc9, rfl⟩
    · refine vx_catch (name := "java/lang/IllegalArgumentException") hown [] ⟨0, 5, 6, 13⟩ [⟨0, 5, 10, 16⟩] (by rw [htb]; rfl) (fun z9 hz9 => nomatch hz9) (by decide) (by decide) (hts (.classLink RL 13 "java/lang/IllegalArgumentException") (by decide +kernel)) (va_Nw.use rfl hX.2.1) hce hcv hcl ?_
      refine lv_astore_n (lv' := [(2, .ref q9), (0, .ref (gad G 152)), (1, .int (iZ a))]) hx hb dL_tryAppend_6 rfl hl (by decide) rfl (fun ls hl => ?_)
      refine lv_ldc (v := iZ (-9999002)) hx hb hown (by rw [show iZ (-9999002) = (-9999002 : Int32) from by decide]; exact hts (.constant RL 15 (-9999002)) (by decide +kernel)) dL_tryAppend_7 ?_
      exact g_iretL (K := kS σ) (post := fun z K1 => z = -9999002 ∧ K1 = kS σ) (z := -9999002) hx hb hr hG9 hlocks ⟨rfl, rfl⟩ ⟨Nat.le_of_ble_eq_true rfl, Nat.le_of_ble_eq_true rfl⟩ dL_tryAppend_9
    · rw [if_pos (by omega)] at hc9; exact absurd hc9 (by decide)
  · rw [if_pos (by omega)] at hp; exact absurd hp.1 (by decide)
set_option maxHeartbeats 4000000 in
set_option maxRecDepth 100000 in
theorem c_L_tryLoad (l : Launch) (hl0 : l.stackTraces = false) (G : gG) (hdm : ∀ k, k < 169 → gdm G k) (M0 : Nat → Nat → Int) (X : Nat → Int) (n : Nat) (he : q_err X n = -9) : gML l yL_tryLoad wsL_tryLoad ({ frames := 7, cells := 1, slots := 6, locals := 153 } : Room) 1 G M0 (kT X n) [.ref (gad G 152)] (fun z K1 => z = q_nd (q_rdt X n).2.2 ∧ K1 = kS (s_new (q_rdt X n).2.2)) := by
  refine gML_ofW (cc := cL_tryLoad) (maxL := 2) (ret := some .int) (by decide) rfl (Nat.le_of_ble_eq_true rfl) ?_
  intro p e s m below meth c ls hx hb hr hml hown hts hlocks htb hl hG
  have hown : s.vm.findClass RL = some m.cls := hown
  have hl : lv_has ls 2 [(0, .ref (gad G 152))] := hl
  obtain ⟨M, hG, hX, hK, hF⟩ := hG
  have hK : q_T M X n := hK
  refine lv_aload_n hx hb dL_tryLoad_0 rfl (lv_at hl 0 rfl) ?_
  refine g_callX (b := 152) (As := []) (rest := []) ⟨hx, hb, hml, hown, hts⟩ (c_X5_load l G M hl0 hdm X n hK.2.1 hK.1 hK.2.2.1 hK.2.2.2.1 hK.2.2.2.2.1) (cwV 0 hts gL_tryLoad_X5_load rfl rfl rfl (by decide +kernel) ⟨Nat.le_of_ble_eq_true rfl, Nat.le_of_ble_eq_true rfl⟩) hX hG (g_recv hG (b := 152) (hdm 152 (by decide)) rfl rfl) rfl hl.1 rfl (Nat.le_of_ble_eq_true rfl) dL_tryLoad_1 ⟨Nat.le_of_ble_eq_true rfl, Nat.le_of_ble_eq_true rfl⟩ (fun E9 M2 H locs ce9 q9 hpx hG hce hcv hcl => ?_) (fun z1 M2 H locs hp hG => ?_)
  · obtain ⟨hE9, hfr9⟩ := hpx
    exact absurd hE9.1 (by rw [if_pos he]; decide)
  · obtain ⟨hc9, hz9, hM9⟩ := hp
    obtain ⟨o, ho, hm⟩ := hK.2.2.2.2.2
    have hK9 : q_K M2 (s_new (q_rdt X n).2.2) := q_K.lod ho hm hK.2.1 hK.2.2.1 hK.2.2.2.2.1 hM9
    have hF9 : q_bd M M2 := fun a9 h9 => hM9.2.2.2.2.2.1 a9 (by omega) (by omega) (by omega) (by omega)
    exact g_iretL (K := kS (s_new (q_rdt X n).2.2)) (post := fun z K1 => z = q_nd (q_rdt X n).2.2 ∧ K1 = kS (s_new (q_rdt X n).2.2)) (z := z1) hx hb hr ⟨M2, hG, hX, hK9, hF.tr hF9⟩ hlocks ⟨hz9, rfl⟩ ⟨Nat.le_of_ble_eq_true rfl, Nat.le_of_ble_eq_true rfl⟩ dL_tryLoad_4
