set_option maxHeartbeats 4000000 in
set_option maxRecDepth 100000 in
theorem c_L_append (l : Launch) (G : gG) (M : Nat → Nat → Int) (hl0 : l.stackTraces = false) (hdm : ∀ k, k < 179 → gdm G k) (n : Nat) (hn : n ≤ 70) (h1 : M 167 1 = (n : Int)) (a : Int) (ha9 : -2147483648 ≤ a ∧ a < 2147483648) : gMw l yL_append wsL_append ({ frames := 7, cells := 1, slots := 6, locals := 111 } : Room) G M [.ref (gad G 152), .int (iZ a), .ref (gad G 178)] (fun z M1 => z = (if ¬ (0 ≤ a ∧ a ≤ 255) then (1 : Int) else if 70 ≤ n then 2 else 0) ∧ ((if ¬ (0 ≤ a ∧ a ≤ 255) then (1 : Int) else if 70 ≤ n then 2 else 0) = 0 → ∃ (z9 : Int) (Mx : Nat → Nat → Int), (fun z M1 => (if ¬ (0 ≤ a ∧ a ≤ 255) then (1 : Int) else if 70 ≤ n then 2 else 0) = 0 ∧ z = (n : Int) + 1 ∧ M1 = q_wr (q_wr M 168 n a) 167 1 ((n : Int) + 1)) z9 Mx ∧ M1 = q_wr Mx 178 0 (iZ z9).toInt) ∧ ((if ¬ (0 ≤ a ∧ a ≤ 255) then (1 : Int) else if 70 ≤ n then 2 else 0) ≠ 0 → q_cs M M1)) := by
  refine gMw_of (cc := cL_append) (maxL := 4) (ret := some .int) (by decide) rfl (Nat.le_of_ble_eq_true rfl) ?_
  intro p e s m below meth c ls hx hb hr hml hown hts hlocks htb hl hX hG
  have hown : s.vm.findClass RL = some m.cls := hown
  have hl : lv_has ls 4 [(0, .ref (gad G 152)), (1, .int (iZ a)), (2, .ref (gad G 178))] := hl
  refine lv_aload_n hx hb dL_append_0 rfl (lv_at hl 2 rfl) ?_
  refine lv_iconst (v := iZ 0) hx hb dL_append_1 rfl ?_
  refine lv_aload_n hx hb dL_append_2 rfl (lv_at hl 0 rfl) ?_
  refine lv_iload_n hx hb dL_append_3 rfl (lv_at hl 1 rfl) ?_
  refine g_callX (b := 152) (As := [.int (iZ a)]) (rest := [.int (iZ 0), .ref (gad G 178)]) ⟨hx, hb, hml, hown, hts⟩ (c_X5_append l G M hl0 hdm n hn h1 a ha9) (cwV 1 hts gL_append_X5_append rfl rfl rfl (by decide +kernel) ⟨Nat.le_of_ble_eq_true rfl, Nat.le_of_ble_eq_true rfl⟩) hX hG (g_recv hG (b := 152) (hdm 152 (by decide)) rfl rfl) rfl hl.1 rfl (Nat.le_of_ble_eq_true rfl) dL_append_4 ⟨Nat.le_of_ble_eq_true rfl, Nat.le_of_ble_eq_true rfl⟩ (fun E9 M2 H locs ce9 q9 hpx hG hce hcv hcl => ?_) (fun z1 M2 H locs hp_4 hG => ?_)
  · skip
    obtain ⟨hE9, hfr9⟩ := hpx
    rcases hE9 with ⟨hc9, rfl⟩ | ⟨hc9, rfl⟩
    · refine vx_catch (name := "java/lang/IllegalArgumentException") hown [] ⟨0, 9, 12, 13⟩ [⟨0, 9, 15, 15⟩] (by rw [htb]; rfl) (fun z9 hz9 => nomatch hz9) (by decide) (by decide) (hts (.classLink RL 13 "java/lang/IllegalArgumentException") (by decide +kernel)) (va_Nw.use rfl hX.2.1) hce hcv hcl ?_
      refine lv_astore_n (lv' := [(3, .ref q9), (0, .ref (gad G 152)), (1, .int (iZ a)), (2, .ref (gad G 178))]) hx hb dL_append_12 rfl hl (by decide) rfl (fun ls hl => ?_)
      refine lv_iconst (v := iZ 1) hx hb dL_append_13 rfl ?_
      exact g_iretW (post := fun z M1 => z = (if ¬ (0 ≤ a ∧ a ≤ 255) then (1 : Int) else if 70 ≤ n then 2 else 0) ∧ ((if ¬ (0 ≤ a ∧ a ≤ 255) then (1 : Int) else if 70 ≤ n then 2 else 0) = 0 → ∃ (z9 : Int) (Mx : Nat → Nat → Int), (fun z M1 => (if ¬ (0 ≤ a ∧ a ≤ 255) then (1 : Int) else if 70 ≤ n then 2 else 0) = 0 ∧ z = (n : Int) + 1 ∧ M1 = q_wr (q_wr M 168 n a) 167 1 ((n : Int) + 1)) z9 Mx ∧ M1 = q_wr Mx 178 0 (iZ z9).toInt) ∧ ((if ¬ (0 ≤ a ∧ a ≤ 255) then (1 : Int) else if 70 ≤ n then 2 else 0) ≠ 0 → q_cs M M1)) (z := 1) hx hb hr hG hlocks (⟨hc9.symm, fun h9 => absurd h9 (by rw [hc9]; decide), fun _ => hfr9⟩) dL_append_14
    · refine vx_catch (name := "java/lang/IllegalStateException") hown [⟨0, 9, 12, 13⟩] ⟨0, 9, 15, 15⟩ [] (by rw [htb]; rfl) (fun z9 hz9 => by simp only [List.mem_cons, List.not_mem_nil, or_false] at hz9; subst hz9; exact Or.inr ⟨by decide, "java/lang/IllegalArgumentException", hts (.classLink RL 13 "java/lang/IllegalArgumentException") (by decide +kernel), hX.2.2.2.2.1⟩) (by decide) (by decide) (hts (.classLink RL 15 "java/lang/IllegalStateException") (by decide +kernel)) (va_Nw.use rfl hX.2.2.1) hce hcv hcl ?_
      refine lv_astore_n (lv' := [(3, .ref q9), (0, .ref (gad G 152)), (1, .int (iZ a)), (2, .ref (gad G 178))]) hx hb dL_append_15 rfl hl (by decide) rfl (fun ls hl => ?_)
      refine lv_iconst (v := iZ 2) hx hb dL_append_16 rfl ?_
      exact g_iretW (post := fun z M1 => z = (if ¬ (0 ≤ a ∧ a ≤ 255) then (1 : Int) else if 70 ≤ n then 2 else 0) ∧ ((if ¬ (0 ≤ a ∧ a ≤ 255) then (1 : Int) else if 70 ≤ n then 2 else 0) = 0 → ∃ (z9 : Int) (Mx : Nat → Nat → Int), (fun z M1 => (if ¬ (0 ≤ a ∧ a ≤ 255) then (1 : Int) else if 70 ≤ n then 2 else 0) = 0 ∧ z = (n : Int) + 1 ∧ M1 = q_wr (q_wr M 168 n a) 167 1 ((n : Int) + 1)) z9 Mx ∧ M1 = q_wr Mx 178 0 (iZ z9).toInt) ∧ ((if ¬ (0 ≤ a ∧ a ≤ 255) then (1 : Int) else if 70 ≤ n then 2 else 0) ≠ 0 → q_cs M M1)) (z := 2) hx hb hr hG hlocks (⟨hc9.symm, fun h9 => absurd h9 (by rw [hc9]; decide), fun _ => hfr9⟩) dL_append_17
  · skip
    refine z_i2lw hx hb dL_append_7 ?_
    refine g_last (j := 0) hx hb hG (o := 178) (hdm 178 (by decide)) (fun f => rfl) (by omega) (by decide) (by decide) dL_append_8 (fun H locs hG => ?_)
    obtain ⟨M3, hM3⟩ : ∃ X, X = (q_wr M2 178 0 ((iZ z1).toInt)) := ⟨_, rfl⟩
    rw [← hM3] at hG
    refine lv_goto (tgt := 18) hx hb dL_append_9 (by decide) ?_
    refine lv_iconst (v := iZ 0) hx hb dL_append_18 rfl ?_
    exact g_iretW (post := fun z M1 => z = (if ¬ (0 ≤ a ∧ a ≤ 255) then (1 : Int) else if 70 ≤ n then 2 else 0) ∧ ((if ¬ (0 ≤ a ∧ a ≤ 255) then (1 : Int) else if 70 ≤ n then 2 else 0) = 0 → ∃ (z9 : Int) (Mx : Nat → Nat → Int), (fun z M1 => (if ¬ (0 ≤ a ∧ a ≤ 255) then (1 : Int) else if 70 ≤ n then 2 else 0) = 0 ∧ z = (n : Int) + 1 ∧ M1 = q_wr (q_wr M 168 n a) 167 1 ((n : Int) + 1)) z9 Mx ∧ M1 = q_wr Mx 178 0 (iZ z9).toInt) ∧ ((if ¬ (0 ≤ a ∧ a ≤ 255) then (1 : Int) else if 70 ≤ n then 2 else 0) ≠ 0 → q_cs M M1)) (z := 0) hx hb hr hG hlocks (⟨hp_4.1.symm, fun _ => ⟨z1, M2, hp_4, hM3⟩, fun h9 => absurd hp_4.1 h9⟩) dL_append_19
set_option maxHeartbeats 4000000 in
set_option maxRecDepth 100000 in
theorem c_L_load (l : Launch) (G : gG) (M : Nat → Nat → Int) (hl0 : l.stackTraces = false) (hdm : ∀ k, k < 179 → gdm G k) (T : Nat → Int) (n : Nat) (hn : n ≤ 70) (hTx : M 168 = T) (h1 : M 167 1 = (n : Int)) (hch : ∀ j, j < n → 0 ≤ T j ∧ T j ≤ 255) (hbo : ∀ j : Nat, j < 12 → 0 ≤ M 12 j ∧ M 12 j ≤ 1) : gMw l yL_load wsL_load ({ frames := 7, cells := 1, slots := 6, locals := 153 } : Room) G M [.ref (gad G 152), .ref (gad G 178)] (fun z M1 => z = (if q_err T n = -9 then (0 : Int) else 1) ∧ ((if q_err T n = -9 then (0 : Int) else 1) = 0 → ∃ (z9 : Int) (Mx : Nat → Nat → Int), (fun z M1 => (if q_err T n = -9 then (0 : Int) else 1) = 0 ∧ z = q_nd (q_rdt T n).2.2 ∧ q_lod M M1 (q_rdt T n).2.2) z9 Mx ∧ M1 = q_wr Mx 178 0 (iZ z9).toInt) ∧ ((if q_err T n = -9 then (0 : Int) else 1) ≠ 0 → q_cs M M1)) := by
  refine gMw_of (cc := cL_load) (maxL := 3) (ret := some .int) (by decide) rfl (Nat.le_of_ble_eq_true rfl) ?_
  intro p e s m below meth c ls hx hb hr hml hown hts hlocks htb hl hX hG
  have hown : s.vm.findClass RL = some m.cls := hown
  have hl : lv_has ls 3 [(0, .ref (gad G 152)), (1, .ref (gad G 178))] := hl
  refine lv_aload_n hx hb dL_load_0 rfl (lv_at hl 1 rfl) ?_
  refine lv_iconst (v := iZ 0) hx hb dL_load_1 rfl ?_
  refine lv_aload_n hx hb dL_load_2 rfl (lv_at hl 0 rfl) ?_
  refine g_callX (b := 152) (As := []) (rest := [.int (iZ 0), .ref (gad G 178)]) ⟨hx, hb, hml, hown, hts⟩ (c_X5_load l G M hl0 hdm T n hn hTx h1 hch hbo) (cwV 0 hts gL_load_X5_load rfl rfl rfl (by decide +kernel) ⟨Nat.le_of_ble_eq_true rfl, Nat.le_of_ble_eq_true rfl⟩) hX hG (g_recv hG (b := 152) (hdm 152 (by decide)) rfl rfl) rfl hl.1 rfl (Nat.le_of_ble_eq_true rfl) dL_load_3 ⟨Nat.le_of_ble_eq_true rfl, Nat.le_of_ble_eq_true rfl⟩ (fun E9 M2 H locs ce9 q9 hpx hG hce hcv hcl => ?_) (fun z1 M2 H locs hp_3 hG => ?_)
  · skip
    obtain ⟨hE9, hfr9⟩ := hpx
    obtain ⟨hc9, rfl⟩ := hE9
    · refine vx_catch (name := "java/lang/IllegalStateException") hown [] ⟨0, 8, 11, 15⟩ [] (by rw [htb]; rfl) (fun z9 hz9 => nomatch hz9) (by decide) (by decide) (hts (.classLink RL 15 "java/lang/IllegalStateException") (by decide +kernel)) (va_Nw.use rfl hX.2.2.1) hce hcv hcl ?_
      refine lv_astore_n (lv' := [(2, .ref q9), (0, .ref (gad G 152)), (1, .ref (gad G 178))]) hx hb dL_load_11 rfl hl (by decide) rfl (fun ls hl => ?_)
      refine lv_iconst (v := iZ 1) hx hb dL_load_12 rfl ?_
      exact g_iretW (post := fun z M1 => z = (if q_err T n = -9 then (0 : Int) else 1) ∧ ((if q_err T n = -9 then (0 : Int) else 1) = 0 → ∃ (z9 : Int) (Mx : Nat → Nat → Int), (fun z M1 => (if q_err T n = -9 then (0 : Int) else 1) = 0 ∧ z = q_nd (q_rdt T n).2.2 ∧ q_lod M M1 (q_rdt T n).2.2) z9 Mx ∧ M1 = q_wr Mx 178 0 (iZ z9).toInt) ∧ ((if q_err T n = -9 then (0 : Int) else 1) ≠ 0 → q_cs M M1)) (z := 1) hx hb hr hG hlocks (⟨hc9.symm, fun h9 => absurd h9 (by rw [hc9]; decide), fun _ => hfr9⟩) dL_load_13
  · skip
    refine z_i2lw hx hb dL_load_6 ?_
    refine g_last (j := 0) hx hb hG (o := 178) (hdm 178 (by decide)) (fun f => rfl) (by omega) (by decide) (by decide) dL_load_7 (fun H locs hG => ?_)
    obtain ⟨M3, hM3⟩ : ∃ X, X = (q_wr M2 178 0 ((iZ z1).toInt)) := ⟨_, rfl⟩
    rw [← hM3] at hG
    refine lv_goto (tgt := 14) hx hb dL_load_8 (by decide) ?_
    refine lv_iconst (v := iZ 0) hx hb dL_load_14 rfl ?_
    exact g_iretW (post := fun z M1 => z = (if q_err T n = -9 then (0 : Int) else 1) ∧ ((if q_err T n = -9 then (0 : Int) else 1) = 0 → ∃ (z9 : Int) (Mx : Nat → Nat → Int), (fun z M1 => (if q_err T n = -9 then (0 : Int) else 1) = 0 ∧ z = q_nd (q_rdt T n).2.2 ∧ q_lod M M1 (q_rdt T n).2.2) z9 Mx ∧ M1 = q_wr Mx 178 0 (iZ z9).toInt) ∧ ((if q_err T n = -9 then (0 : Int) else 1) ≠ 0 → q_cs M M1)) (z := 0) hx hb hr hG hlocks (⟨hp_3.1.symm, fun _ => ⟨z1, M2, hp_3, hM3⟩, fun h9 => absurd hp_3.1 h9⟩) dL_load_15
set_option maxHeartbeats 4000000 in
set_option maxRecDepth 100000 in
theorem c_L_about (l : Launch) (G : gG) (M : Nat → Nat → Int) (hl0 : l.stackTraces = false) (hdm : ∀ k, k < 179 → gdm G k) (R : Nat → Int) (hR : q_tr M 0 R) (hI : q_inv R) (a : Int) (ha9 : -2147483648 ≤ a ∧ a < 2147483648) : gMw l yL_about wsL_about ({ frames := 7, cells := 1, slots := 6, locals := 111 } : Room) G M [.ref (gad G 152), .int (iZ a), .ref (gad G 178)] (fun z M1 => z = (if 0 ≤ a ∧ a ≤ 16 then (0 : Int) else 1) ∧ ((if 0 ≤ a ∧ a ≤ 16 then (0 : Int) else 1) = 0 → ∃ (z9 : Int) (Mx : Nat → Nat → Int), (fun z M1 => (if 0 ≤ a ∧ a ≤ 16 then (0 : Int) else 1) = 0 ∧ z = q_abt R a ∧ q_cs M M1) z9 Mx ∧ M1 = q_wr Mx 178 0 (iZ z9).toInt) ∧ ((if 0 ≤ a ∧ a ≤ 16 then (0 : Int) else 1) ≠ 0 → q_cs M M1)) := by
  refine gMw_of (cc := cL_about) (maxL := 4) (ret := some .int) (by decide) rfl (Nat.le_of_ble_eq_true rfl) ?_
  intro p e s m below meth c ls hx hb hr hml hown hts hlocks htb hl hX hG
  have hown : s.vm.findClass RL = some m.cls := hown
  have hl : lv_has ls 4 [(0, .ref (gad G 152)), (1, .int (iZ a)), (2, .ref (gad G 178))] := hl
  refine lv_aload_n hx hb dL_about_0 rfl (lv_at hl 2 rfl) ?_
  refine lv_iconst (v := iZ 0) hx hb dL_about_1 rfl ?_
  refine lv_aload_n hx hb dL_about_2 rfl (lv_at hl 0 rfl) ?_
  refine lv_iload_n hx hb dL_about_3 rfl (lv_at hl 1 rfl) ?_
  refine g_callX (b := 152) (As := [.int (iZ a)]) (rest := [.int (iZ 0), .ref (gad G 178)]) ⟨hx, hb, hml, hown, hts⟩ (c_X5_about l G M hl0 hdm R hR hI a ha9) (cwV 1 hts gL_about_X5_about rfl rfl rfl (by decide +kernel) ⟨Nat.le_of_ble_eq_true rfl, Nat.le_of_ble_eq_true rfl⟩) hX hG (g_recv hG (b := 152) (hdm 152 (by decide)) rfl rfl) rfl hl.1 rfl (Nat.le_of_ble_eq_true rfl) dL_about_4 ⟨Nat.le_of_ble_eq_true rfl, Nat.le_of_ble_eq_true rfl⟩ (fun E9 M2 H locs ce9 q9 hpx hG hce hcv hcl => ?_) (fun z1 M2 H locs hp_4 hG => ?_)
  · skip
    obtain ⟨hE9, hfr9⟩ := hpx
    obtain ⟨hc9, rfl⟩ := hE9
    · refine vx_catch (name := "java/lang/IllegalArgumentException") hown [] ⟨0, 9, 12, 13⟩ [] (by rw [htb]; rfl) (fun z9 hz9 => nomatch hz9) (by decide) (by decide) (hts (.classLink RL 13 "java/lang/IllegalArgumentException") (by decide +kernel)) (va_Nw.use rfl hX.2.1) hce hcv hcl ?_
      refine lv_astore_n (lv' := [(3, .ref q9), (0, .ref (gad G 152)), (1, .int (iZ a)), (2, .ref (gad G 178))]) hx hb dL_about_12 rfl hl (by decide) rfl (fun ls hl => ?_)
      refine lv_iconst (v := iZ 1) hx hb dL_about_13 rfl ?_
      exact g_iretW (post := fun z M1 => z = (if 0 ≤ a ∧ a ≤ 16 then (0 : Int) else 1) ∧ ((if 0 ≤ a ∧ a ≤ 16 then (0 : Int) else 1) = 0 → ∃ (z9 : Int) (Mx : Nat → Nat → Int), (fun z M1 => (if 0 ≤ a ∧ a ≤ 16 then (0 : Int) else 1) = 0 ∧ z = q_abt R a ∧ q_cs M M1) z9 Mx ∧ M1 = q_wr Mx 178 0 (iZ z9).toInt) ∧ ((if 0 ≤ a ∧ a ≤ 16 then (0 : Int) else 1) ≠ 0 → q_cs M M1)) (z := 1) hx hb hr hG hlocks (⟨hc9.symm, fun h9 => absurd h9 (by rw [hc9]; decide), fun _ => hfr9⟩) dL_about_14
  · skip
    refine z_i2lw hx hb dL_about_7 ?_
    refine g_last (j := 0) hx hb hG (o := 178) (hdm 178 (by decide)) (fun f => rfl) (by omega) (by decide) (by decide) dL_about_8 (fun H locs hG => ?_)
    obtain ⟨M3, hM3⟩ : ∃ X, X = (q_wr M2 178 0 ((iZ z1).toInt)) := ⟨_, rfl⟩
    rw [← hM3] at hG
    refine lv_goto (tgt := 15) hx hb dL_about_9 (by decide) ?_
    refine lv_iconst (v := iZ 0) hx hb dL_about_15 rfl ?_
    exact g_iretW (post := fun z M1 => z = (if 0 ≤ a ∧ a ≤ 16 then (0 : Int) else 1) ∧ ((if 0 ≤ a ∧ a ≤ 16 then (0 : Int) else 1) = 0 → ∃ (z9 : Int) (Mx : Nat → Nat → Int), (fun z M1 => (if 0 ≤ a ∧ a ≤ 16 then (0 : Int) else 1) = 0 ∧ z = q_abt R a ∧ q_cs M M1) z9 Mx ∧ M1 = q_wr Mx 178 0 (iZ z9).toInt) ∧ ((if 0 ≤ a ∧ a ≤ 16 then (0 : Int) else 1) ≠ 0 → q_cs M M1)) (z := 0) hx hb hr hG hlocks (⟨hp_4.1.symm, fun _ => ⟨z1, M2, hp_4, hM3⟩, fun h9 => absurd hp_4.1 h9⟩) dL_about_16
set_option maxHeartbeats 4000000 in
set_option maxRecDepth 100000 in
theorem c_L_dog (l : Launch) (G : gG) (M : Nat → Nat → Int) (hl0 : l.stackTraces = false) (hdm : ∀ k, k < 179 → gdm G k) (R : Nat → Int) (hR : q_tr M 0 R) (hI : q_inv R) (a : Int) (ha9 : -2147483648 ≤ a ∧ a < 2147483648) (b : Int) (hb9 : -2147483648 ≤ b ∧ b < 2147483648) : gMw l yL_dog wsL_dog ({ frames := 7, cells := 1, slots := 6, locals := 118 } : Room) G M [.ref (gad G 152), .int (iZ a), .int (iZ b), .ref (gad G 178)] (fun z M1 => z = (if ¬ (0 ≤ a ∧ a < q_nd R) then (1 : Int) else if ¬ (0 ≤ b ∧ b ≤ 7) then 2 else 0) ∧ ((if ¬ (0 ≤ a ∧ a < q_nd R) then (1 : Int) else if ¬ (0 ≤ b ∧ b ≤ 7) then 2 else 0) = 0 → ∃ (z9 : Int) (Mx : Nat → Nat → Int), (fun z M1 => (if ¬ (0 ≤ a ∧ a < q_nd R) then (1 : Int) else if ¬ (0 ≤ b ∧ b ≤ 7) then 2 else 0) = 0 ∧ z = q_dga R a.toNat b ∧ q_cs M M1) z9 Mx ∧ M1 = q_wr Mx 178 0 (iZ z9).toInt) ∧ ((if ¬ (0 ≤ a ∧ a < q_nd R) then (1 : Int) else if ¬ (0 ≤ b ∧ b ≤ 7) then 2 else 0) ≠ 0 → q_cs M M1)) := by
  refine gMw_of (cc := cL_dog) (maxL := 5) (ret := some .int) (by decide) rfl (Nat.le_of_ble_eq_true rfl) ?_
  intro p e s m below meth c ls hx hb hr hml hown hts hlocks htb hl hX hG
  have hown : s.vm.findClass RL = some m.cls := hown
  have hl : lv_has ls 5 [(0, .ref (gad G 152)), (1, .int (iZ a)), (2, .int (iZ b)), (3, .ref (gad G 178))] := hl
  refine lv_aload_n hx hb dL_dog_0 rfl (lv_at hl 3 rfl) ?_
  refine lv_iconst (v := iZ 0) hx hb dL_dog_1 rfl ?_
  refine lv_aload_n hx hb dL_dog_2 rfl (lv_at hl 0 rfl) ?_
  refine lv_iload_n hx hb dL_dog_3 rfl (lv_at hl 1 rfl) ?_
  refine lv_iload_n hx hb dL_dog_4 rfl (lv_at hl 2 rfl) ?_
  refine g_callX (b := 152) (As := [.int (iZ a), .int (iZ b)]) (rest := [.int (iZ 0), .ref (gad G 178)]) ⟨hx, hb, hml, hown, hts⟩ (c_X5_dog l G M hl0 hdm R hR hI a ha9 b hb9) (cwV 2 hts gL_dog_X5_dog rfl rfl rfl (by decide +kernel) ⟨Nat.le_of_ble_eq_true rfl, Nat.le_of_ble_eq_true rfl⟩) hX hG (g_recv hG (b := 152) (hdm 152 (by decide)) rfl rfl) rfl hl.1 rfl (Nat.le_of_ble_eq_true rfl) dL_dog_5 ⟨Nat.le_of_ble_eq_true rfl, Nat.le_of_ble_eq_true rfl⟩ (fun E9 M2 H locs ce9 q9 hpx hG hce hcv hcl => ?_) (fun z1 M2 H locs hp_5 hG => ?_)
  · skip
    obtain ⟨hE9, hfr9⟩ := hpx
    rcases hE9 with ⟨hc9, rfl⟩ | ⟨hc9, rfl⟩
    · refine vx_catch (name := "java/lang/IndexOutOfBoundsException") hown [] ⟨0, 10, 13, 28⟩ [⟨0, 10, 17, 13⟩] (by rw [htb]; rfl) (fun z9 hz9 => nomatch hz9) (by decide) (by decide) (hts (.classLink RL 28 "java/lang/IndexOutOfBoundsException") (by decide +kernel)) (va_Nw.use rfl hX.2.2.2.1) hce hcv hcl ?_
      refine lv_astore (lv' := [(4, .ref q9), (0, .ref (gad G 152)), (1, .int (iZ a)), (2, .int (iZ b)), (3, .ref (gad G 178))]) hx hb dL_dog_13 hl (by decide) rfl (fun ls hl => ?_)
      refine lv_iconst (v := iZ 1) hx hb dL_dog_15 rfl ?_
      exact g_iretW (post := fun z M1 => z = (if ¬ (0 ≤ a ∧ a < q_nd R) then (1 : Int) else if ¬ (0 ≤ b ∧ b ≤ 7) then 2 else 0) ∧ ((if ¬ (0 ≤ a ∧ a < q_nd R) then (1 : Int) else if ¬ (0 ≤ b ∧ b ≤ 7) then 2 else 0) = 0 → ∃ (z9 : Int) (Mx : Nat → Nat → Int), (fun z M1 => (if ¬ (0 ≤ a ∧ a < q_nd R) then (1 : Int) else if ¬ (0 ≤ b ∧ b ≤ 7) then 2 else 0) = 0 ∧ z = q_dga R a.toNat b ∧ q_cs M M1) z9 Mx ∧ M1 = q_wr Mx 178 0 (iZ z9).toInt) ∧ ((if ¬ (0 ≤ a ∧ a < q_nd R) then (1 : Int) else if ¬ (0 ≤ b ∧ b ≤ 7) then 2 else 0) ≠ 0 → q_cs M M1)) (z := 1) hx hb hr hG hlocks (⟨hc9.symm, fun h9 => absurd h9 (by rw [hc9]; decide), fun _ => hfr9⟩) dL_dog_16
    · refine vx_catch (name := "java/lang/IllegalArgumentException") hown [⟨0, 10, 13, 28⟩] ⟨0, 10, 17, 13⟩ [] (by rw [htb]; rfl) (fun z9 hz9 => by simp only [List.mem_cons, List.not_mem_nil, or_false] at hz9; subst hz9; exact Or.inr ⟨by decide, "java/lang/IndexOutOfBoundsException", hts (.classLink RL 28 "java/lang/IndexOutOfBoundsException") (by decide +kernel), hX.2.2.2.2.2.1⟩) (by decide) (by decide) (hts (.classLink RL 13 "java/lang/IllegalArgumentException") (by decide +kernel)) (va_Nw.use rfl hX.2.1) hce hcv hcl ?_
      refine lv_astore (lv' := [(4, .ref q9), (0, .ref (gad G 152)), (1, .int (iZ a)), (2, .int (iZ b)), (3, .ref (gad G 178))]) hx hb dL_dog_17 hl (by decide) rfl (fun ls hl => ?_)
      refine lv_iconst (v := iZ 2) hx hb dL_dog_19 rfl ?_
      exact g_iretW (post := fun z M1 => z = (if ¬ (0 ≤ a ∧ a < q_nd R) then (1 : Int) else if ¬ (0 ≤ b ∧ b ≤ 7) then 2 else 0) ∧ ((if ¬ (0 ≤ a ∧ a < q_nd R) then (1 : Int) else if ¬ (0 ≤ b ∧ b ≤ 7) then 2 else 0) = 0 → ∃ (z9 : Int) (Mx : Nat → Nat → Int), (fun z M1 => (if ¬ (0 ≤ a ∧ a < q_nd R) then (1 : Int) else if ¬ (0 ≤ b ∧ b ≤ 7) then 2 else 0) = 0 ∧ z = q_dga R a.toNat b ∧ q_cs M M1) z9 Mx ∧ M1 = q_wr Mx 178 0 (iZ z9).toInt) ∧ ((if ¬ (0 ≤ a ∧ a < q_nd R) then (1 : Int) else if ¬ (0 ≤ b ∧ b ≤ 7) then 2 else 0) ≠ 0 → q_cs M M1)) (z := 2) hx hb hr hG hlocks (⟨hc9.symm, fun h9 => absurd h9 (by rw [hc9]; decide), fun _ => hfr9⟩) dL_dog_20
  · skip
    refine z_i2lw hx hb dL_dog_8 ?_
    refine g_last (j := 0) hx hb hG (o := 178) (hdm 178 (by decide)) (fun f => rfl) (by omega) (by decide) (by decide) dL_dog_9 (fun H locs hG => ?_)
    obtain ⟨M3, hM3⟩ : ∃ X, X = (q_wr M2 178 0 ((iZ z1).toInt)) := ⟨_, rfl⟩
    rw [← hM3] at hG
    refine lv_goto (tgt := 21) hx hb dL_dog_10 (by decide) ?_
    refine lv_iconst (v := iZ 0) hx hb dL_dog_21 rfl ?_
    exact g_iretW (post := fun z M1 => z = (if ¬ (0 ≤ a ∧ a < q_nd R) then (1 : Int) else if ¬ (0 ≤ b ∧ b ≤ 7) then 2 else 0) ∧ ((if ¬ (0 ≤ a ∧ a < q_nd R) then (1 : Int) else if ¬ (0 ≤ b ∧ b ≤ 7) then 2 else 0) = 0 → ∃ (z9 : Int) (Mx : Nat → Nat → Int), (fun z M1 => (if ¬ (0 ≤ a ∧ a < q_nd R) then (1 : Int) else if ¬ (0 ≤ b ∧ b ≤ 7) then 2 else 0) = 0 ∧ z = q_dga R a.toNat b ∧ q_cs M M1) z9 Mx ∧ M1 = q_wr Mx 178 0 (iZ z9).toInt) ∧ ((if ¬ (0 ≤ a ∧ a < q_nd R) then (1 : Int) else if ¬ (0 ≤ b ∧ b ≤ 7) then 2 else 0) ≠ 0 → q_cs M M1)) (z := 0) hx hb hr hG hlocks (⟨hp_5.1.symm, fun _ => ⟨z1, M2, hp_5, hM3⟩, fun h9 => absurd hp_5.1 h9⟩) dL_dog_22
set_option maxHeartbeats 4000000 in
set_option maxRecDepth 100000 in
theorem c_L_lost (l : Launch) (G : gG) (M : Nat → Nat → Int) (hl0 : l.stackTraces = false) (hdm : ∀ k, k < 179 → gdm G k) (R : Nat → Int) (hR : q_tr M 0 R) (hI : q_inv R) (a : Int) (ha9 : -2147483648 ≤ a ∧ a < 2147483648) (b : Int) (hb9 : -2147483648 ≤ b ∧ b < 2147483648) : gMw l yL_lost wsL_lost ({ frames := 7, cells := 1, slots := 6, locals := 112 } : Room) G M [.ref (gad G 152), .int (iZ a), .int (iZ b), .ref (gad G 178)] (fun z M1 => z = (if 0 ≤ a ∧ a < q_nd R ∧ 0 ≤ b ∧ b ≤ 5 then (0 : Int) else 1) ∧ ((if 0 ≤ a ∧ a < q_nd R ∧ 0 ≤ b ∧ b ≤ 5 then (0 : Int) else 1) = 0 → ∃ (z9 : Int) (Mx : Nat → Nat → Int), (fun z M1 => (if 0 ≤ a ∧ a < q_nd R ∧ 0 ≤ b ∧ b ≤ 5 then (0 : Int) else 1) = 0 ∧ z = (if q_hs R a.toNat = 1 then q_lo R a.toNat b.toNat else -9) ∧ q_cs M M1) z9 Mx ∧ M1 = q_wr Mx 178 0 (iZ z9).toInt) ∧ ((if 0 ≤ a ∧ a < q_nd R ∧ 0 ≤ b ∧ b ≤ 5 then (0 : Int) else 1) ≠ 0 → q_cs M M1)) := by
  refine gMw_of (cc := cL_lost) (maxL := 5) (ret := some .int) (by decide) rfl (Nat.le_of_ble_eq_true rfl) ?_
  intro p e s m below meth c ls hx hb hr hml hown hts hlocks htb hl hX hG
  have hown : s.vm.findClass RL = some m.cls := hown
  have hl : lv_has ls 5 [(0, .ref (gad G 152)), (1, .int (iZ a)), (2, .int (iZ b)), (3, .ref (gad G 178))] := hl
  refine lv_aload_n hx hb dL_lost_0 rfl (lv_at hl 3 rfl) ?_
  refine lv_iconst (v := iZ 0) hx hb dL_lost_1 rfl ?_
  refine lv_aload_n hx hb dL_lost_2 rfl (lv_at hl 0 rfl) ?_
  refine lv_iload_n hx hb dL_lost_3 rfl (lv_at hl 1 rfl) ?_
  refine lv_iload_n hx hb dL_lost_4 rfl (lv_at hl 2 rfl) ?_
  refine g_callX (b := 152) (As := [.int (iZ a), .int (iZ b)]) (rest := [.int (iZ 0), .ref (gad G 178)]) ⟨hx, hb, hml, hown, hts⟩ (c_X5_lost l G M hl0 hdm R hR hI a ha9 b hb9) (cwV 2 hts gL_lost_X5_lost rfl rfl rfl (by decide +kernel) ⟨Nat.le_of_ble_eq_true rfl, Nat.le_of_ble_eq_true rfl⟩) hX hG (g_recv hG (b := 152) (hdm 152 (by decide)) rfl rfl) rfl hl.1 rfl (Nat.le_of_ble_eq_true rfl) dL_lost_5 ⟨Nat.le_of_ble_eq_true rfl, Nat.le_of_ble_eq_true rfl⟩ (fun E9 M2 H locs ce9 q9 hpx hG hce hcv hcl => ?_) (fun z1 M2 H locs hp_5 hG => ?_)
  · skip
    obtain ⟨hE9, hfr9⟩ := hpx
    obtain ⟨hc9, rfl⟩ := hE9
    · refine vx_catch (name := "java/lang/IndexOutOfBoundsException") hown [] ⟨0, 10, 13, 28⟩ [] (by rw [htb]; rfl) (fun z9 hz9 => nomatch hz9) (by decide) (by decide) (hts (.classLink RL 28 "java/lang/IndexOutOfBoundsException") (by decide +kernel)) (va_Nw.use rfl hX.2.2.2.1) hce hcv hcl ?_
      refine lv_astore (lv' := [(4, .ref q9), (0, .ref (gad G 152)), (1, .int (iZ a)), (2, .int (iZ b)), (3, .ref (gad G 178))]) hx hb dL_lost_13 hl (by decide) rfl (fun ls hl => ?_)
      refine lv_iconst (v := iZ 1) hx hb dL_lost_15 rfl ?_
      exact g_iretW (post := fun z M1 => z = (if 0 ≤ a ∧ a < q_nd R ∧ 0 ≤ b ∧ b ≤ 5 then (0 : Int) else 1) ∧ ((if 0 ≤ a ∧ a < q_nd R ∧ 0 ≤ b ∧ b ≤ 5 then (0 : Int) else 1) = 0 → ∃ (z9 : Int) (Mx : Nat → Nat → Int), (fun z M1 => (if 0 ≤ a ∧ a < q_nd R ∧ 0 ≤ b ∧ b ≤ 5 then (0 : Int) else 1) = 0 ∧ z = (if q_hs R a.toNat = 1 then q_lo R a.toNat b.toNat else -9) ∧ q_cs M M1) z9 Mx ∧ M1 = q_wr Mx 178 0 (iZ z9).toInt) ∧ ((if 0 ≤ a ∧ a < q_nd R ∧ 0 ≤ b ∧ b ≤ 5 then (0 : Int) else 1) ≠ 0 → q_cs M M1)) (z := 1) hx hb hr hG hlocks (⟨hc9.symm, fun h9 => absurd h9 (by rw [hc9]; decide), fun _ => hfr9⟩) dL_lost_16
  · skip
    refine z_i2lw hx hb dL_lost_8 ?_
    refine g_last (j := 0) hx hb hG (o := 178) (hdm 178 (by decide)) (fun f => rfl) (by omega) (by decide) (by decide) dL_lost_9 (fun H locs hG => ?_)
    obtain ⟨M3, hM3⟩ : ∃ X, X = (q_wr M2 178 0 ((iZ z1).toInt)) := ⟨_, rfl⟩
    rw [← hM3] at hG
    refine lv_goto (tgt := 17) hx hb dL_lost_10 (by decide) ?_
    refine lv_iconst (v := iZ 0) hx hb dL_lost_17 rfl ?_
    exact g_iretW (post := fun z M1 => z = (if 0 ≤ a ∧ a < q_nd R ∧ 0 ≤ b ∧ b ≤ 5 then (0 : Int) else 1) ∧ ((if 0 ≤ a ∧ a < q_nd R ∧ 0 ≤ b ∧ b ≤ 5 then (0 : Int) else 1) = 0 → ∃ (z9 : Int) (Mx : Nat → Nat → Int), (fun z M1 => (if 0 ≤ a ∧ a < q_nd R ∧ 0 ≤ b ∧ b ≤ 5 then (0 : Int) else 1) = 0 ∧ z = (if q_hs R a.toNat = 1 then q_lo R a.toNat b.toNat else -9) ∧ q_cs M M1) z9 Mx ∧ M1 = q_wr Mx 178 0 (iZ z9).toInt) ∧ ((if 0 ≤ a ∧ a < q_nd R ∧ 0 ≤ b ∧ b ≤ 5 then (0 : Int) else 1) ≠ 0 → q_cs M M1)) (z := 0) hx hb hr hG hlocks (⟨hp_5.1.symm, fun _ => ⟨z1, M2, hp_5, hM3⟩, fun h9 => absurd hp_5.1 h9⟩) dL_lost_18
set_option maxHeartbeats 4000000 in
set_option maxRecDepth 100000 in
theorem c_L_order (l : Launch) (G : gG) (M : Nat → Nat → Int) (hl0 : l.stackTraces = false) (hdm : ∀ k, k < 179 → gdm G k) (R : Nat → Int) (hR : q_tr M 0 R) (hI : q_inv R) (a : Int) (ha9 : -2147483648 ≤ a ∧ a < 2147483648) : gMw l yL_order wsL_order ({ frames := 7, cells := 1, slots := 6, locals := 111 } : Room) G M [.ref (gad G 152), .int (iZ a), .ref (gad G 178)] (fun z M1 => z = (if a < 0 then (1 : Int) else 0) ∧ ((if a < 0 then (1 : Int) else 0) = 0 → ∃ (z9 : Int) (Mx : Nat → Nat → Int), (fun z M1 => (if a < 0 then (1 : Int) else 0) = 0 ∧ z = q_atk R a ∧ q_cs M M1) z9 Mx ∧ M1 = q_wr Mx 178 0 (iZ z9).toInt) ∧ ((if a < 0 then (1 : Int) else 0) ≠ 0 → q_cs M M1)) := by
  refine gMw_of (cc := cL_order) (maxL := 4) (ret := some .int) (by decide) rfl (Nat.le_of_ble_eq_true rfl) ?_
  intro p e s m below meth c ls hx hb hr hml hown hts hlocks htb hl hX hG
  have hown : s.vm.findClass RL = some m.cls := hown
  have hl : lv_has ls 4 [(0, .ref (gad G 152)), (1, .int (iZ a)), (2, .ref (gad G 178))] := hl
  refine lv_aload_n hx hb dL_order_0 rfl (lv_at hl 2 rfl) ?_
  refine lv_iconst (v := iZ 0) hx hb dL_order_1 rfl ?_
  refine lv_aload_n hx hb dL_order_2 rfl (lv_at hl 0 rfl) ?_
  refine lv_iload_n hx hb dL_order_3 rfl (lv_at hl 1 rfl) ?_
  refine g_callX (b := 152) (As := [.int (iZ a)]) (rest := [.int (iZ 0), .ref (gad G 178)]) ⟨hx, hb, hml, hown, hts⟩ (c_X5_order l G M hl0 hdm R hR hI a ha9) (cwV 1 hts gL_order_X5_order rfl rfl rfl (by decide +kernel) ⟨Nat.le_of_ble_eq_true rfl, Nat.le_of_ble_eq_true rfl⟩) hX hG (g_recv hG (b := 152) (hdm 152 (by decide)) rfl rfl) rfl hl.1 rfl (Nat.le_of_ble_eq_true rfl) dL_order_4 ⟨Nat.le_of_ble_eq_true rfl, Nat.le_of_ble_eq_true rfl⟩ (fun E9 M2 H locs ce9 q9 hpx hG hce hcv hcl => ?_) (fun z1 M2 H locs hp_4 hG => ?_)
  · skip
    obtain ⟨hE9, hfr9⟩ := hpx
    obtain ⟨hc9, rfl⟩ := hE9
    · refine vx_catch (name := "java/lang/IllegalArgumentException") hown [] ⟨0, 9, 12, 13⟩ [] (by rw [htb]; rfl) (fun z9 hz9 => nomatch hz9) (by decide) (by decide) (hts (.classLink RL 13 "java/lang/IllegalArgumentException") (by decide +kernel)) (va_Nw.use rfl hX.2.1) hce hcv hcl ?_
      refine lv_astore_n (lv' := [(3, .ref q9), (0, .ref (gad G 152)), (1, .int (iZ a)), (2, .ref (gad G 178))]) hx hb dL_order_12 rfl hl (by decide) rfl (fun ls hl => ?_)
      refine lv_iconst (v := iZ 1) hx hb dL_order_13 rfl ?_
      exact g_iretW (post := fun z M1 => z = (if a < 0 then (1 : Int) else 0) ∧ ((if a < 0 then (1 : Int) else 0) = 0 → ∃ (z9 : Int) (Mx : Nat → Nat → Int), (fun z M1 => (if a < 0 then (1 : Int) else 0) = 0 ∧ z = q_atk R a ∧ q_cs M M1) z9 Mx ∧ M1 = q_wr Mx 178 0 (iZ z9).toInt) ∧ ((if a < 0 then (1 : Int) else 0) ≠ 0 → q_cs M M1)) (z := 1) hx hb hr hG hlocks (⟨hc9.symm, fun h9 => absurd h9 (by rw [hc9]; decide), fun _ => hfr9⟩) dL_order_14
  · skip
    refine z_i2lw hx hb dL_order_7 ?_
    refine g_last (j := 0) hx hb hG (o := 178) (hdm 178 (by decide)) (fun f => rfl) (by omega) (by decide) (by decide) dL_order_8 (fun H locs hG => ?_)
    obtain ⟨M3, hM3⟩ : ∃ X, X = (q_wr M2 178 0 ((iZ z1).toInt)) := ⟨_, rfl⟩
    rw [← hM3] at hG
    refine lv_goto (tgt := 15) hx hb dL_order_9 (by decide) ?_
    refine lv_iconst (v := iZ 0) hx hb dL_order_15 rfl ?_
    exact g_iretW (post := fun z M1 => z = (if a < 0 then (1 : Int) else 0) ∧ ((if a < 0 then (1 : Int) else 0) = 0 → ∃ (z9 : Int) (Mx : Nat → Nat → Int), (fun z M1 => (if a < 0 then (1 : Int) else 0) = 0 ∧ z = q_atk R a ∧ q_cs M M1) z9 Mx ∧ M1 = q_wr Mx 178 0 (iZ z9).toInt) ∧ ((if a < 0 then (1 : Int) else 0) ≠ 0 → q_cs M M1)) (z := 0) hx hb hr hG hlocks (⟨hp_4.1.symm, fun _ => ⟨z1, M2, hp_4, hM3⟩, fun h9 => absurd hp_4.1 h9⟩) dL_order_16
set_option maxHeartbeats 4000000 in
set_option maxRecDepth 100000 in
theorem c_L_standing (l : Launch) (G : gG) (M : Nat → Nat → Int) (hl0 : l.stackTraces = false) (hdm : ∀ k, k < 179 → gdm G k) (R : Nat → Int) (hR : q_tr M 0 R) (hI : q_inv R) (a : Int) (ha9 : -2147483648 ≤ a ∧ a < 2147483648) : gMw l yL_standing wsL_standing ({ frames := 7, cells := 1, slots := 6, locals := 140 } : Room) G M [.ref (gad G 152), .int (iZ a), .ref (gad G 178)] (fun z M1 => z = (if a < 0 then (1 : Int) else 0) ∧ ((if a < 0 then (1 : Int) else 0) = 0 → ∃ (z9 : Int) (Mx : Nat → Nat → Int), (fun z M1 => (if a < 0 then (1 : Int) else 0) = 0 ∧ z = q_std R a ∧ q_cs M M1) z9 Mx ∧ M1 = q_wr Mx 178 0 (iZ z9).toInt) ∧ ((if a < 0 then (1 : Int) else 0) ≠ 0 → q_cs M M1)) := by
  refine gMw_of (cc := cL_standing) (maxL := 4) (ret := some .int) (by decide) rfl (Nat.le_of_ble_eq_true rfl) ?_
  intro p e s m below meth c ls hx hb hr hml hown hts hlocks htb hl hX hG
  have hown : s.vm.findClass RL = some m.cls := hown
  have hl : lv_has ls 4 [(0, .ref (gad G 152)), (1, .int (iZ a)), (2, .ref (gad G 178))] := hl
  refine lv_aload_n hx hb dL_standing_0 rfl (lv_at hl 2 rfl) ?_
  refine lv_iconst (v := iZ 0) hx hb dL_standing_1 rfl ?_
  refine lv_aload_n hx hb dL_standing_2 rfl (lv_at hl 0 rfl) ?_
  refine lv_iload_n hx hb dL_standing_3 rfl (lv_at hl 1 rfl) ?_
  refine g_callX (b := 152) (As := [.int (iZ a)]) (rest := [.int (iZ 0), .ref (gad G 178)]) ⟨hx, hb, hml, hown, hts⟩ (c_X5_standing l G M hl0 hdm R hR hI a ha9) (cwV 1 hts gL_standing_X5_standing rfl rfl rfl (by decide +kernel) ⟨Nat.le_of_ble_eq_true rfl, Nat.le_of_ble_eq_true rfl⟩) hX hG (g_recv hG (b := 152) (hdm 152 (by decide)) rfl rfl) rfl hl.1 rfl (Nat.le_of_ble_eq_true rfl) dL_standing_4 ⟨Nat.le_of_ble_eq_true rfl, Nat.le_of_ble_eq_true rfl⟩ (fun E9 M2 H locs ce9 q9 hpx hG hce hcv hcl => ?_) (fun z1 M2 H locs hp_4 hG => ?_)
  · skip
    obtain ⟨hE9, hfr9⟩ := hpx
    obtain ⟨hc9, rfl⟩ := hE9
    · refine vx_catch (name := "java/lang/IllegalArgumentException") hown [] ⟨0, 9, 12, 13⟩ [] (by rw [htb]; rfl) (fun z9 hz9 => nomatch hz9) (by decide) (by decide) (hts (.classLink RL 13 "java/lang/IllegalArgumentException") (by decide +kernel)) (va_Nw.use rfl hX.2.1) hce hcv hcl ?_
      refine lv_astore_n (lv' := [(3, .ref q9), (0, .ref (gad G 152)), (1, .int (iZ a)), (2, .ref (gad G 178))]) hx hb dL_standing_12 rfl hl (by decide) rfl (fun ls hl => ?_)
      refine lv_iconst (v := iZ 1) hx hb dL_standing_13 rfl ?_
      exact g_iretW (post := fun z M1 => z = (if a < 0 then (1 : Int) else 0) ∧ ((if a < 0 then (1 : Int) else 0) = 0 → ∃ (z9 : Int) (Mx : Nat → Nat → Int), (fun z M1 => (if a < 0 then (1 : Int) else 0) = 0 ∧ z = q_std R a ∧ q_cs M M1) z9 Mx ∧ M1 = q_wr Mx 178 0 (iZ z9).toInt) ∧ ((if a < 0 then (1 : Int) else 0) ≠ 0 → q_cs M M1)) (z := 1) hx hb hr hG hlocks (⟨hc9.symm, fun h9 => absurd h9 (by rw [hc9]; decide), fun _ => hfr9⟩) dL_standing_14
  · skip
    refine z_i2lw hx hb dL_standing_7 ?_
    refine g_last (j := 0) hx hb hG (o := 178) (hdm 178 (by decide)) (fun f => rfl) (by omega) (by decide) (by decide) dL_standing_8 (fun H locs hG => ?_)
    obtain ⟨M3, hM3⟩ : ∃ X, X = (q_wr M2 178 0 ((iZ z1).toInt)) := ⟨_, rfl⟩
    rw [← hM3] at hG
    refine lv_goto (tgt := 15) hx hb dL_standing_9 (by decide) ?_
    refine lv_iconst (v := iZ 0) hx hb dL_standing_15 rfl ?_
    exact g_iretW (post := fun z M1 => z = (if a < 0 then (1 : Int) else 0) ∧ ((if a < 0 then (1 : Int) else 0) = 0 → ∃ (z9 : Int) (Mx : Nat → Nat → Int), (fun z M1 => (if a < 0 then (1 : Int) else 0) = 0 ∧ z = q_std R a ∧ q_cs M M1) z9 Mx ∧ M1 = q_wr Mx 178 0 (iZ z9).toInt) ∧ ((if a < 0 then (1 : Int) else 0) ≠ 0 → q_cs M M1)) (z := 0) hx hb hr hG hlocks (⟨hp_4.1.symm, fun _ => ⟨z1, M2, hp_4, hM3⟩, fun h9 => absurd hp_4.1 h9⟩) dL_standing_16
set_option maxHeartbeats 4000000 in
set_option maxRecDepth 100000 in
theorem c_L_owner (l : Launch) (G : gG) (M : Nat → Nat → Int) (hl0 : l.stackTraces = false) (hdm : ∀ k, k < 179 → gdm G k) (R : Nat → Int) (hR : q_tr M 0 R) (hI : q_inv R) (a : Int) (ha9 : -2147483648 ≤ a ∧ a < 2147483648) : gMw l yL_owner wsL_owner ({ frames := 7, cells := 1, slots := 6, locals := 111 } : Room) G M [.ref (gad G 152), .int (iZ a), .ref (gad G 178)] (fun z M1 => z = (if 0 ≤ a ∧ a ≤ 5 then (0 : Int) else 1) ∧ ((if 0 ≤ a ∧ a ≤ 5 then (0 : Int) else 1) = 0 → ∃ (z9 : Int) (Mx : Nat → Nat → Int), (fun z M1 => (if 0 ≤ a ∧ a ≤ 5 then (0 : Int) else 1) = 0 ∧ z = q_os R a ∧ q_cs M M1) z9 Mx ∧ M1 = q_wr Mx 178 0 (iZ z9).toInt) ∧ ((if 0 ≤ a ∧ a ≤ 5 then (0 : Int) else 1) ≠ 0 → q_cs M M1)) := by
  refine gMw_of (cc := cL_owner) (maxL := 4) (ret := some .int) (by decide) rfl (Nat.le_of_ble_eq_true rfl) ?_
  intro p e s m below meth c ls hx hb hr hml hown hts hlocks htb hl hX hG
  have hown : s.vm.findClass RL = some m.cls := hown
  have hl : lv_has ls 4 [(0, .ref (gad G 152)), (1, .int (iZ a)), (2, .ref (gad G 178))] := hl
  refine lv_aload_n hx hb dL_owner_0 rfl (lv_at hl 2 rfl) ?_
  refine lv_iconst (v := iZ 0) hx hb dL_owner_1 rfl ?_
  refine lv_aload_n hx hb dL_owner_2 rfl (lv_at hl 0 rfl) ?_
  refine lv_iload_n hx hb dL_owner_3 rfl (lv_at hl 1 rfl) ?_
  refine g_callX (b := 152) (As := [.int (iZ a)]) (rest := [.int (iZ 0), .ref (gad G 178)]) ⟨hx, hb, hml, hown, hts⟩ (c_X5_owner l G M hl0 hdm R hR hI a ha9) (cwV 1 hts gL_owner_X5_owner rfl rfl rfl (by decide +kernel) ⟨Nat.le_of_ble_eq_true rfl, Nat.le_of_ble_eq_true rfl⟩) hX hG (g_recv hG (b := 152) (hdm 152 (by decide)) rfl rfl) rfl hl.1 rfl (Nat.le_of_ble_eq_true rfl) dL_owner_4 ⟨Nat.le_of_ble_eq_true rfl, Nat.le_of_ble_eq_true rfl⟩ (fun E9 M2 H locs ce9 q9 hpx hG hce hcv hcl => ?_) (fun z1 M2 H locs hp_4 hG => ?_)
  · skip
    obtain ⟨hE9, hfr9⟩ := hpx
    obtain ⟨hc9, rfl⟩ := hE9
    · refine vx_catch (name := "java/lang/IllegalArgumentException") hown [] ⟨0, 9, 12, 13⟩ [] (by rw [htb]; rfl) (fun z9 hz9 => nomatch hz9) (by decide) (by decide) (hts (.classLink RL 13 "java/lang/IllegalArgumentException") (by decide +kernel)) (va_Nw.use rfl hX.2.1) hce hcv hcl ?_
      refine lv_astore_n (lv' := [(3, .ref q9), (0, .ref (gad G 152)), (1, .int (iZ a)), (2, .ref (gad G 178))]) hx hb dL_owner_12 rfl hl (by decide) rfl (fun ls hl => ?_)
      refine lv_iconst (v := iZ 1) hx hb dL_owner_13 rfl ?_
      exact g_iretW (post := fun z M1 => z = (if 0 ≤ a ∧ a ≤ 5 then (0 : Int) else 1) ∧ ((if 0 ≤ a ∧ a ≤ 5 then (0 : Int) else 1) = 0 → ∃ (z9 : Int) (Mx : Nat → Nat → Int), (fun z M1 => (if 0 ≤ a ∧ a ≤ 5 then (0 : Int) else 1) = 0 ∧ z = q_os R a ∧ q_cs M M1) z9 Mx ∧ M1 = q_wr Mx 178 0 (iZ z9).toInt) ∧ ((if 0 ≤ a ∧ a ≤ 5 then (0 : Int) else 1) ≠ 0 → q_cs M M1)) (z := 1) hx hb hr hG hlocks (⟨hc9.symm, fun h9 => absurd h9 (by rw [hc9]; decide), fun _ => hfr9⟩) dL_owner_14
  · skip
    refine z_i2lw hx hb dL_owner_7 ?_
    refine g_last (j := 0) hx hb hG (o := 178) (hdm 178 (by decide)) (fun f => rfl) (by omega) (by decide) (by decide) dL_owner_8 (fun H locs hG => ?_)
    obtain ⟨M3, hM3⟩ : ∃ X, X = (q_wr M2 178 0 ((iZ z1).toInt)) := ⟨_, rfl⟩
    rw [← hM3] at hG
    refine lv_goto (tgt := 15) hx hb dL_owner_9 (by decide) ?_
    refine lv_iconst (v := iZ 0) hx hb dL_owner_15 rfl ?_
    exact g_iretW (post := fun z M1 => z = (if 0 ≤ a ∧ a ≤ 5 then (0 : Int) else 1) ∧ ((if 0 ≤ a ∧ a ≤ 5 then (0 : Int) else 1) = 0 → ∃ (z9 : Int) (Mx : Nat → Nat → Int), (fun z M1 => (if 0 ≤ a ∧ a ≤ 5 then (0 : Int) else 1) = 0 ∧ z = q_os R a ∧ q_cs M M1) z9 Mx ∧ M1 = q_wr Mx 178 0 (iZ z9).toInt) ∧ ((if 0 ≤ a ∧ a ≤ 5 then (0 : Int) else 1) ≠ 0 → q_cs M M1)) (z := 0) hx hb hr hG hlocks (⟨hp_4.1.symm, fun _ => ⟨z1, M2, hp_4, hM3⟩, fun h9 => absurd hp_4.1 h9⟩) dL_owner_16
set_option maxHeartbeats 4000000 in
set_option maxRecDepth 100000 in
theorem c_L_runsLeft (l : Launch) (G : gG) (M : Nat → Nat → Int) (hl0 : l.stackTraces = false) (hdm : ∀ k, k < 179 → gdm G k) (R : Nat → Int) (hR : q_tr M 0 R) (hI : q_inv R) (a : Int) (ha9 : -2147483648 ≤ a ∧ a < 2147483648) : gMw l yL_runsLeft wsL_runsLeft ({ frames := 7, cells := 1, slots := 6, locals := 111 } : Room) G M [.ref (gad G 152), .int (iZ a), .ref (gad G 178)] (fun z M1 => z = (if 1 ≤ a ∧ a ≤ 30 then (0 : Int) else 1) ∧ ((if 1 ≤ a ∧ a ≤ 30 then (0 : Int) else 1) = 0 → ∃ (z9 : Int) (Mx : Nat → Nat → Int), (fun z M1 => (if 1 ≤ a ∧ a ≤ 30 then (0 : Int) else 1) = 0 ∧ z = min (q_nwait R) ((R 2 - R 1) / a) ∧ q_cs M M1) z9 Mx ∧ M1 = q_wr Mx 178 0 (iZ z9).toInt) ∧ ((if 1 ≤ a ∧ a ≤ 30 then (0 : Int) else 1) ≠ 0 → q_cs M M1)) := by
  refine gMw_of (cc := cL_runsLeft) (maxL := 4) (ret := some .int) (by decide) rfl (Nat.le_of_ble_eq_true rfl) ?_
  intro p e s m below meth c ls hx hb hr hml hown hts hlocks htb hl hX hG
  have hown : s.vm.findClass RL = some m.cls := hown
  have hl : lv_has ls 4 [(0, .ref (gad G 152)), (1, .int (iZ a)), (2, .ref (gad G 178))] := hl
  refine lv_aload_n hx hb dL_runsLeft_0 rfl (lv_at hl 2 rfl) ?_
  refine lv_iconst (v := iZ 0) hx hb dL_runsLeft_1 rfl ?_
  refine lv_aload_n hx hb dL_runsLeft_2 rfl (lv_at hl 0 rfl) ?_
  refine lv_iload_n hx hb dL_runsLeft_3 rfl (lv_at hl 1 rfl) ?_
  refine g_callX (b := 152) (As := [.int (iZ a)]) (rest := [.int (iZ 0), .ref (gad G 178)]) ⟨hx, hb, hml, hown, hts⟩ (c_X5_runsLeft l G M hl0 hdm R hR hI a ha9) (cwV 1 hts gL_runsLeft_X5_runsLeft rfl rfl rfl (by decide +kernel) ⟨Nat.le_of_ble_eq_true rfl, Nat.le_of_ble_eq_true rfl⟩) hX hG (g_recv hG (b := 152) (hdm 152 (by decide)) rfl rfl) rfl hl.1 rfl (Nat.le_of_ble_eq_true rfl) dL_runsLeft_4 ⟨Nat.le_of_ble_eq_true rfl, Nat.le_of_ble_eq_true rfl⟩ (fun E9 M2 H locs ce9 q9 hpx hG hce hcv hcl => ?_) (fun z1 M2 H locs hp_4 hG => ?_)
  · skip
    obtain ⟨hE9, hfr9⟩ := hpx
    obtain ⟨hc9, rfl⟩ := hE9
    · refine vx_catch (name := "java/lang/IllegalArgumentException") hown [] ⟨0, 9, 12, 13⟩ [] (by rw [htb]; rfl) (fun z9 hz9 => nomatch hz9) (by decide) (by decide) (hts (.classLink RL 13 "java/lang/IllegalArgumentException") (by decide +kernel)) (va_Nw.use rfl hX.2.1) hce hcv hcl ?_
      refine lv_astore_n (lv' := [(3, .ref q9), (0, .ref (gad G 152)), (1, .int (iZ a)), (2, .ref (gad G 178))]) hx hb dL_runsLeft_12 rfl hl (by decide) rfl (fun ls hl => ?_)
      refine lv_iconst (v := iZ 1) hx hb dL_runsLeft_13 rfl ?_
      exact g_iretW (post := fun z M1 => z = (if 1 ≤ a ∧ a ≤ 30 then (0 : Int) else 1) ∧ ((if 1 ≤ a ∧ a ≤ 30 then (0 : Int) else 1) = 0 → ∃ (z9 : Int) (Mx : Nat → Nat → Int), (fun z M1 => (if 1 ≤ a ∧ a ≤ 30 then (0 : Int) else 1) = 0 ∧ z = min (q_nwait R) ((R 2 - R 1) / a) ∧ q_cs M M1) z9 Mx ∧ M1 = q_wr Mx 178 0 (iZ z9).toInt) ∧ ((if 1 ≤ a ∧ a ≤ 30 then (0 : Int) else 1) ≠ 0 → q_cs M M1)) (z := 1) hx hb hr hG hlocks (⟨hc9.symm, fun h9 => absurd h9 (by rw [hc9]; decide), fun _ => hfr9⟩) dL_runsLeft_14
  · skip
    refine z_i2lw hx hb dL_runsLeft_7 ?_
    refine g_last (j := 0) hx hb hG (o := 178) (hdm 178 (by decide)) (fun f => rfl) (by omega) (by decide) (by decide) dL_runsLeft_8 (fun H locs hG => ?_)
    obtain ⟨M3, hM3⟩ : ∃ X, X = (q_wr M2 178 0 ((iZ z1).toInt)) := ⟨_, rfl⟩
    rw [← hM3] at hG
    refine lv_goto (tgt := 15) hx hb dL_runsLeft_9 (by decide) ?_
    refine lv_iconst (v := iZ 0) hx hb dL_runsLeft_15 rfl ?_
    exact g_iretW (post := fun z M1 => z = (if 1 ≤ a ∧ a ≤ 30 then (0 : Int) else 1) ∧ ((if 1 ≤ a ∧ a ≤ 30 then (0 : Int) else 1) = 0 → ∃ (z9 : Int) (Mx : Nat → Nat → Int), (fun z M1 => (if 1 ≤ a ∧ a ≤ 30 then (0 : Int) else 1) = 0 ∧ z = min (q_nwait R) ((R 2 - R 1) / a) ∧ q_cs M M1) z9 Mx ∧ M1 = q_wr Mx 178 0 (iZ z9).toInt) ∧ ((if 1 ≤ a ∧ a ≤ 30 then (0 : Int) else 1) ≠ 0 → q_cs M M1)) (z := 0) hx hb hr hG hlocks (⟨hp_4.1.symm, fun _ => ⟨z1, M2, hp_4, hM3⟩, fun h9 => absurd hp_4.1 h9⟩) dL_runsLeft_16
set_option maxHeartbeats 4000000 in
set_option maxRecDepth 100000 in
theorem c_L_bestPlace (l : Launch) (G : gG) (M : Nat → Nat → Int) (hl0 : l.stackTraces = false) (hdm : ∀ k, k < 179 → gdm G k) (R : Nat → Int) (hR : q_tr M 0 R) (hI : q_inv R) (a : Int) (ha9 : -2147483648 ≤ a ∧ a < 2147483648) : gMw l yL_bestPlace wsL_bestPlace ({ frames := 7, cells := 1, slots := 6, locals := 138 } : Room) G M [.ref (gad G 152), .int (iZ a), .ref (gad G 178)] (fun z M1 => z = (if 0 ≤ a ∧ a < q_nd R then (0 : Int) else 1) ∧ ((if 0 ≤ a ∧ a < q_nd R then (0 : Int) else 1) = 0 → ∃ (z9 : Int) (Mx : Nat → Nat → Int), (fun z M1 => (if 0 ≤ a ∧ a < q_nd R then (0 : Int) else 1) = 0 ∧ z = q_bp R a.toNat ∧ q_cs M M1) z9 Mx ∧ M1 = q_wr Mx 178 0 (iZ z9).toInt) ∧ ((if 0 ≤ a ∧ a < q_nd R then (0 : Int) else 1) ≠ 0 → q_cs M M1)) := by
  refine gMw_of (cc := cL_bestPlace) (maxL := 4) (ret := some .int) (by decide) rfl (Nat.le_of_ble_eq_true rfl) ?_
  intro p e s m below meth c ls hx hb hr hml hown hts hlocks htb hl hX hG
  have hown : s.vm.findClass RL = some m.cls := hown
  have hl : lv_has ls 4 [(0, .ref (gad G 152)), (1, .int (iZ a)), (2, .ref (gad G 178))] := hl
  refine lv_aload_n hx hb dL_bestPlace_0 rfl (lv_at hl 2 rfl) ?_
  refine lv_iconst (v := iZ 0) hx hb dL_bestPlace_1 rfl ?_
  refine lv_aload_n hx hb dL_bestPlace_2 rfl (lv_at hl 0 rfl) ?_
  refine lv_iload_n hx hb dL_bestPlace_3 rfl (lv_at hl 1 rfl) ?_
  refine g_callX (b := 152) (As := [.int (iZ a)]) (rest := [.int (iZ 0), .ref (gad G 178)]) ⟨hx, hb, hml, hown, hts⟩ (c_X5_bestPlace l G M hl0 hdm R hR hI a ha9) (cwV 1 hts gL_bestPlace_X5_bestPlace rfl rfl rfl (by decide +kernel) ⟨Nat.le_of_ble_eq_true rfl, Nat.le_of_ble_eq_true rfl⟩) hX hG (g_recv hG (b := 152) (hdm 152 (by decide)) rfl rfl) rfl hl.1 rfl (Nat.le_of_ble_eq_true rfl) dL_bestPlace_4 ⟨Nat.le_of_ble_eq_true rfl, Nat.le_of_ble_eq_true rfl⟩ (fun E9 M2 H locs ce9 q9 hpx hG hce hcv hcl => ?_) (fun z1 M2 H locs hp_4 hG => ?_)
  · skip
    obtain ⟨hE9, hfr9⟩ := hpx
    obtain ⟨hc9, rfl⟩ := hE9
    · refine vx_catch (name := "java/lang/IndexOutOfBoundsException") hown [] ⟨0, 9, 12, 28⟩ [] (by rw [htb]; rfl) (fun z9 hz9 => nomatch hz9) (by decide) (by decide) (hts (.classLink RL 28 "java/lang/IndexOutOfBoundsException") (by decide +kernel)) (va_Nw.use rfl hX.2.2.2.1) hce hcv hcl ?_
      refine lv_astore_n (lv' := [(3, .ref q9), (0, .ref (gad G 152)), (1, .int (iZ a)), (2, .ref (gad G 178))]) hx hb dL_bestPlace_12 rfl hl (by decide) rfl (fun ls hl => ?_)
      refine lv_iconst (v := iZ 1) hx hb dL_bestPlace_13 rfl ?_
      exact g_iretW (post := fun z M1 => z = (if 0 ≤ a ∧ a < q_nd R then (0 : Int) else 1) ∧ ((if 0 ≤ a ∧ a < q_nd R then (0 : Int) else 1) = 0 → ∃ (z9 : Int) (Mx : Nat → Nat → Int), (fun z M1 => (if 0 ≤ a ∧ a < q_nd R then (0 : Int) else 1) = 0 ∧ z = q_bp R a.toNat ∧ q_cs M M1) z9 Mx ∧ M1 = q_wr Mx 178 0 (iZ z9).toInt) ∧ ((if 0 ≤ a ∧ a < q_nd R then (0 : Int) else 1) ≠ 0 → q_cs M M1)) (z := 1) hx hb hr hG hlocks (⟨hc9.symm, fun h9 => absurd h9 (by rw [hc9]; decide), fun _ => hfr9⟩) dL_bestPlace_14
  · skip
    refine z_i2lw hx hb dL_bestPlace_7 ?_
    refine g_last (j := 0) hx hb hG (o := 178) (hdm 178 (by decide)) (fun f => rfl) (by omega) (by decide) (by decide) dL_bestPlace_8 (fun H locs hG => ?_)
    obtain ⟨M3, hM3⟩ : ∃ X, X = (q_wr M2 178 0 ((iZ z1).toInt)) := ⟨_, rfl⟩
    rw [← hM3] at hG
    refine lv_goto (tgt := 15) hx hb dL_bestPlace_9 (by decide) ?_
    refine lv_iconst (v := iZ 0) hx hb dL_bestPlace_15 rfl ?_
    exact g_iretW (post := fun z M1 => z = (if 0 ≤ a ∧ a < q_nd R then (0 : Int) else 1) ∧ ((if 0 ≤ a ∧ a < q_nd R then (0 : Int) else 1) = 0 → ∃ (z9 : Int) (Mx : Nat → Nat → Int), (fun z M1 => (if 0 ≤ a ∧ a < q_nd R then (0 : Int) else 1) = 0 ∧ z = q_bp R a.toNat ∧ q_cs M M1) z9 Mx ∧ M1 = q_wr Mx 178 0 (iZ z9).toInt) ∧ ((if 0 ≤ a ∧ a < q_nd R then (0 : Int) else 1) ≠ 0 → q_cs M M1)) (z := 0) hx hb hr hG hlocks (⟨hp_4.1.symm, fun _ => ⟨z1, M2, hp_4, hM3⟩, fun h9 => absurd hp_4.1 h9⟩) dL_bestPlace_16
set_option maxHeartbeats 4000000 in
set_option maxRecDepth 100000 in
theorem c_L_mayLose (l : Launch) (G : gG) (M : Nat → Nat → Int) (hl0 : l.stackTraces = false) (hdm : ∀ k, k < 179 → gdm G k) (R : Nat → Int) (hR : q_tr M 0 R) (hI : q_inv R) (a : Int) (ha9 : -2147483648 ≤ a ∧ a < 2147483648) (b : Int) (hb9 : -2147483648 ≤ b ∧ b < 2147483648) : gMw l yL_mayLose wsL_mayLose ({ frames := 7, cells := 1, slots := 6, locals := 115 } : Room) G M [.ref (gad G 152), .int (iZ a), .int (iZ b), .ref (gad G 178)] (fun z M1 => z = (if ¬ (0 ≤ a ∧ a < q_nd R) then (1 : Int) else if ¬ (1 ≤ b ∧ b ≤ 12) then 2 else 0) ∧ ((if ¬ (0 ≤ a ∧ a < q_nd R) then (1 : Int) else if ¬ (1 ≤ b ∧ b ≤ 12) then 2 else 0) = 0 → ∃ (z9 : Int) (Mx : Nat → Nat → Int), (fun z M1 => (if ¬ (0 ≤ a ∧ a < q_nd R) then (1 : Int) else if ¬ (1 ≤ b ∧ b ≤ 12) then 2 else 0) = 0 ∧ z = q_ml R a.toNat b ∧ q_cs M M1) z9 Mx ∧ M1 = q_wr Mx 178 0 (iZ z9).toInt) ∧ ((if ¬ (0 ≤ a ∧ a < q_nd R) then (1 : Int) else if ¬ (1 ≤ b ∧ b ≤ 12) then 2 else 0) ≠ 0 → q_cs M M1)) := by
  refine gMw_of (cc := cL_mayLose) (maxL := 5) (ret := some .int) (by decide) rfl (Nat.le_of_ble_eq_true rfl) ?_
  intro p e s m below meth c ls hx hb hr hml hown hts hlocks htb hl hX hG
  have hown : s.vm.findClass RL = some m.cls := hown
  have hl : lv_has ls 5 [(0, .ref (gad G 152)), (1, .int (iZ a)), (2, .int (iZ b)), (3, .ref (gad G 178))] := hl
  refine lv_aload_n hx hb dL_mayLose_0 rfl (lv_at hl 3 rfl) ?_
  refine lv_iconst (v := iZ 0) hx hb dL_mayLose_1 rfl ?_
  refine lv_aload_n hx hb dL_mayLose_2 rfl (lv_at hl 0 rfl) ?_
  refine lv_iload_n hx hb dL_mayLose_3 rfl (lv_at hl 1 rfl) ?_
  refine lv_iload_n hx hb dL_mayLose_4 rfl (lv_at hl 2 rfl) ?_
  refine g_callX (b := 152) (As := [.int (iZ a), .int (iZ b)]) (rest := [.int (iZ 0), .ref (gad G 178)]) ⟨hx, hb, hml, hown, hts⟩ (c_X5_mayLose l G M hl0 hdm R hR hI a ha9 b hb9) (cwV 2 hts gL_mayLose_X5_mayLose rfl rfl rfl (by decide +kernel) ⟨Nat.le_of_ble_eq_true rfl, Nat.le_of_ble_eq_true rfl⟩) hX hG (g_recv hG (b := 152) (hdm 152 (by decide)) rfl rfl) rfl hl.1 rfl (Nat.le_of_ble_eq_true rfl) dL_mayLose_5 ⟨Nat.le_of_ble_eq_true rfl, Nat.le_of_ble_eq_true rfl⟩ (fun E9 M2 H locs ce9 q9 hpx hG hce hcv hcl => ?_) (fun z1 M2 H locs hp_5 hG => ?_)
  · skip
    obtain ⟨hE9, hfr9⟩ := hpx
    rcases hE9 with ⟨hc9, rfl⟩ | ⟨hc9, rfl⟩
    · refine vx_catch (name := "java/lang/IndexOutOfBoundsException") hown [] ⟨0, 10, 13, 28⟩ [⟨0, 10, 17, 13⟩] (by rw [htb]; rfl) (fun z9 hz9 => nomatch hz9) (by decide) (by decide) (hts (.classLink RL 28 "java/lang/IndexOutOfBoundsException") (by decide +kernel)) (va_Nw.use rfl hX.2.2.2.1) hce hcv hcl ?_
      refine lv_astore (lv' := [(4, .ref q9), (0, .ref (gad G 152)), (1, .int (iZ a)), (2, .int (iZ b)), (3, .ref (gad G 178))]) hx hb dL_mayLose_13 hl (by decide) rfl (fun ls hl => ?_)
      refine lv_iconst (v := iZ 1) hx hb dL_mayLose_15 rfl ?_
      exact g_iretW (post := fun z M1 => z = (if ¬ (0 ≤ a ∧ a < q_nd R) then (1 : Int) else if ¬ (1 ≤ b ∧ b ≤ 12) then 2 else 0) ∧ ((if ¬ (0 ≤ a ∧ a < q_nd R) then (1 : Int) else if ¬ (1 ≤ b ∧ b ≤ 12) then 2 else 0) = 0 → ∃ (z9 : Int) (Mx : Nat → Nat → Int), (fun z M1 => (if ¬ (0 ≤ a ∧ a < q_nd R) then (1 : Int) else if ¬ (1 ≤ b ∧ b ≤ 12) then 2 else 0) = 0 ∧ z = q_ml R a.toNat b ∧ q_cs M M1) z9 Mx ∧ M1 = q_wr Mx 178 0 (iZ z9).toInt) ∧ ((if ¬ (0 ≤ a ∧ a < q_nd R) then (1 : Int) else if ¬ (1 ≤ b ∧ b ≤ 12) then 2 else 0) ≠ 0 → q_cs M M1)) (z := 1) hx hb hr hG hlocks (⟨hc9.symm, fun h9 => absurd h9 (by rw [hc9]; decide), fun _ => hfr9⟩) dL_mayLose_16
    · refine vx_catch (name := "java/lang/IllegalArgumentException") hown [⟨0, 10, 13, 28⟩] ⟨0, 10, 17, 13⟩ [] (by rw [htb]; rfl) (fun z9 hz9 => by simp only [List.mem_cons, List.not_mem_nil, or_false] at hz9; subst hz9; exact Or.inr ⟨by decide, "java/lang/IndexOutOfBoundsException", hts (.classLink RL 28 "java/lang/IndexOutOfBoundsException") (by decide +kernel), hX.2.2.2.2.2.1⟩) (by decide) (by decide) (hts (.classLink RL 13 "java/lang/IllegalArgumentException") (by decide +kernel)) (va_Nw.use rfl hX.2.1) hce hcv hcl ?_
      refine lv_astore (lv' := [(4, .ref q9), (0, .ref (gad G 152)), (1, .int (iZ a)), (2, .int (iZ b)), (3, .ref (gad G 178))]) hx hb dL_mayLose_17 hl (by decide) rfl (fun ls hl => ?_)
      refine lv_iconst (v := iZ 2) hx hb dL_mayLose_19 rfl ?_
      exact g_iretW (post := fun z M1 => z = (if ¬ (0 ≤ a ∧ a < q_nd R) then (1 : Int) else if ¬ (1 ≤ b ∧ b ≤ 12) then 2 else 0) ∧ ((if ¬ (0 ≤ a ∧ a < q_nd R) then (1 : Int) else if ¬ (1 ≤ b ∧ b ≤ 12) then 2 else 0) = 0 → ∃ (z9 : Int) (Mx : Nat → Nat → Int), (fun z M1 => (if ¬ (0 ≤ a ∧ a < q_nd R) then (1 : Int) else if ¬ (1 ≤ b ∧ b ≤ 12) then 2 else 0) = 0 ∧ z = q_ml R a.toNat b ∧ q_cs M M1) z9 Mx ∧ M1 = q_wr Mx 178 0 (iZ z9).toInt) ∧ ((if ¬ (0 ≤ a ∧ a < q_nd R) then (1 : Int) else if ¬ (1 ≤ b ∧ b ≤ 12) then 2 else 0) ≠ 0 → q_cs M M1)) (z := 2) hx hb hr hG hlocks (⟨hc9.symm, fun h9 => absurd h9 (by rw [hc9]; decide), fun _ => hfr9⟩) dL_mayLose_20
  · skip
    refine z_i2lw hx hb dL_mayLose_8 ?_
    refine g_last (j := 0) hx hb hG (o := 178) (hdm 178 (by decide)) (fun f => rfl) (by omega) (by decide) (by decide) dL_mayLose_9 (fun H locs hG => ?_)
    obtain ⟨M3, hM3⟩ : ∃ X, X = (q_wr M2 178 0 ((iZ z1).toInt)) := ⟨_, rfl⟩
    rw [← hM3] at hG
    refine lv_goto (tgt := 21) hx hb dL_mayLose_10 (by decide) ?_
    refine lv_iconst (v := iZ 0) hx hb dL_mayLose_21 rfl ?_
    exact g_iretW (post := fun z M1 => z = (if ¬ (0 ≤ a ∧ a < q_nd R) then (1 : Int) else if ¬ (1 ≤ b ∧ b ≤ 12) then 2 else 0) ∧ ((if ¬ (0 ≤ a ∧ a < q_nd R) then (1 : Int) else if ¬ (1 ≤ b ∧ b ≤ 12) then 2 else 0) = 0 → ∃ (z9 : Int) (Mx : Nat → Nat → Int), (fun z M1 => (if ¬ (0 ≤ a ∧ a < q_nd R) then (1 : Int) else if ¬ (1 ≤ b ∧ b ≤ 12) then 2 else 0) = 0 ∧ z = q_ml R a.toNat b ∧ q_cs M M1) z9 Mx ∧ M1 = q_wr Mx 178 0 (iZ z9).toInt) ∧ ((if ¬ (0 ≤ a ∧ a < q_nd R) then (1 : Int) else if ¬ (1 ≤ b ∧ b ≤ 12) then 2 else 0) ≠ 0 → q_cs M M1)) (z := 0) hx hb hr hG hlocks (⟨hp_5.1.symm, fun _ => ⟨z1, M2, hp_5, hM3⟩, fun h9 => absurd hp_5.1 h9⟩) dL_mayLose_22
set_option maxHeartbeats 4000000 in
set_option maxRecDepth 100000 in
theorem c_L_runScript (l : Launch) (G : gG) (M : Nat → Nat → Int) (hl0 : l.stackTraces = false) (hdm : ∀ k, k < 179 → gdm G k) (R : Nat → Int) (hR : q_tr M 0 R) (hI : q_inv R) (a : Int) (ha9 : -2147483648 ≤ a ∧ a < 2147483648) (v : Int) (hv9 : -9223372036854775808 ≤ v ∧ v < 9223372036854775808) : gMw l yL_runScript wsL_runScript ({ frames := 7, cells := 1, slots := 6, locals := 166 } : Room) G M [.ref (gad G 152), .int (iZ a), .long (lZ v), .ref (gad G 178)] (fun z M1 => z = (if (1 ≤ a ∧ a ≤ 4) ∧ 0 ≤ v ∧ v < q_p4 a.toNat then (0 : Int) else 1) ∧ ((if (1 ≤ a ∧ a ≤ 4) ∧ 0 ≤ v ∧ v < q_p4 a.toNat then (0 : Int) else 1) = 0 → ∃ (z9 : Int) (Mx : Nat → Nat → Int), (fun z M1 => (if (1 ≤ a ∧ a ≤ 4) ∧ 0 ≤ v ∧ v < q_p4 a.toNat then (0 : Int) else 1) = 0 ∧ z = q_ff (q_cmd v a.toNat) R a.toNat ∧ q_cs M M1) z9 Mx ∧ M1 = q_wr Mx 178 0 (iZ z9).toInt) ∧ ((if (1 ≤ a ∧ a ≤ 4) ∧ 0 ≤ v ∧ v < q_p4 a.toNat then (0 : Int) else 1) ≠ 0 → q_cs M M1)) := by
  refine gMw_of (cc := cL_runScript) (maxL := 6) (ret := some .int) (by decide) rfl (Nat.le_of_ble_eq_true rfl) ?_
  intro p e s m below meth c ls hx hb hr hml hown hts hlocks htb hl hX hG
  have hown : s.vm.findClass RL = some m.cls := hown
  have hl : lv_has ls 6 [(0, .ref (gad G 152)), (1, .int (iZ a)), (2, .long (lZ v)), (4, .ref (gad G 178))] := hl
  refine lv_aload hx hb dL_runScript_0 (lv_at hl 3 rfl) ?_
  refine lv_iconst (v := iZ 0) hx hb dL_runScript_2 rfl ?_
  refine lv_aload_n hx hb dL_runScript_3 rfl (lv_at hl 0 rfl) ?_
  refine lv_iload_n hx hb dL_runScript_4 rfl (lv_at hl 1 rfl) ?_
  refine lv_lload_n hx hb dL_runScript_5 rfl (lv_at hl 2 rfl) ?_
  refine g_callX (b := 152) (As := [.int (iZ a), .long (lZ v)]) (rest := [.int (iZ 0), .ref (gad G 178)]) ⟨hx, hb, hml, hown, hts⟩ (c_X5_runScript l G M hl0 hdm R hR hI a ha9 v hv9) (cwV 2 hts gL_runScript_X5_runScript rfl rfl rfl (by decide +kernel) ⟨Nat.le_of_ble_eq_true rfl, Nat.le_of_ble_eq_true rfl⟩) hX hG (g_recv hG (b := 152) (hdm 152 (by decide)) rfl rfl) rfl hl.1 rfl (Nat.le_of_ble_eq_true rfl) dL_runScript_6 ⟨Nat.le_of_ble_eq_true rfl, Nat.le_of_ble_eq_true rfl⟩ (fun E9 M2 H locs ce9 q9 hpx hG hce hcv hcl => ?_) (fun z1 M2 H locs hp_6 hG => ?_)
  · skip
    obtain ⟨hE9, hfr9⟩ := hpx
    obtain ⟨hc9, rfl⟩ := hE9
    · refine vx_catch (name := "java/lang/IllegalArgumentException") hown [] ⟨0, 11, 14, 13⟩ [] (by rw [htb]; rfl) (fun z9 hz9 => nomatch hz9) (by decide) (by decide) (hts (.classLink RL 13 "java/lang/IllegalArgumentException") (by decide +kernel)) (va_Nw.use rfl hX.2.1) hce hcv hcl ?_
      refine lv_astore (lv' := [(5, .ref q9), (0, .ref (gad G 152)), (1, .int (iZ a)), (2, .long (lZ v)), (4, .ref (gad G 178))]) hx hb dL_runScript_14 hl (by decide) rfl (fun ls hl => ?_)
      refine lv_iconst (v := iZ 1) hx hb dL_runScript_16 rfl ?_
      exact g_iretW (post := fun z M1 => z = (if (1 ≤ a ∧ a ≤ 4) ∧ 0 ≤ v ∧ v < q_p4 a.toNat then (0 : Int) else 1) ∧ ((if (1 ≤ a ∧ a ≤ 4) ∧ 0 ≤ v ∧ v < q_p4 a.toNat then (0 : Int) else 1) = 0 → ∃ (z9 : Int) (Mx : Nat → Nat → Int), (fun z M1 => (if (1 ≤ a ∧ a ≤ 4) ∧ 0 ≤ v ∧ v < q_p4 a.toNat then (0 : Int) else 1) = 0 ∧ z = q_ff (q_cmd v a.toNat) R a.toNat ∧ q_cs M M1) z9 Mx ∧ M1 = q_wr Mx 178 0 (iZ z9).toInt) ∧ ((if (1 ≤ a ∧ a ≤ 4) ∧ 0 ≤ v ∧ v < q_p4 a.toNat then (0 : Int) else 1) ≠ 0 → q_cs M M1)) (z := 1) hx hb hr hG hlocks (⟨hc9.symm, fun h9 => absurd h9 (by rw [hc9]; decide), fun _ => hfr9⟩) dL_runScript_17
  · skip
    refine z_i2lw hx hb dL_runScript_9 ?_
    refine g_last (j := 0) hx hb hG (o := 178) (hdm 178 (by decide)) (fun f => rfl) (by omega) (by decide) (by decide) dL_runScript_10 (fun H locs hG => ?_)
    obtain ⟨M3, hM3⟩ : ∃ X, X = (q_wr M2 178 0 ((iZ z1).toInt)) := ⟨_, rfl⟩
    rw [← hM3] at hG
    refine lv_goto (tgt := 18) hx hb dL_runScript_11 (by decide) ?_
    refine lv_iconst (v := iZ 0) hx hb dL_runScript_18 rfl ?_
    exact g_iretW (post := fun z M1 => z = (if (1 ≤ a ∧ a ≤ 4) ∧ 0 ≤ v ∧ v < q_p4 a.toNat then (0 : Int) else 1) ∧ ((if (1 ≤ a ∧ a ≤ 4) ∧ 0 ≤ v ∧ v < q_p4 a.toNat then (0 : Int) else 1) = 0 → ∃ (z9 : Int) (Mx : Nat → Nat → Int), (fun z M1 => (if (1 ≤ a ∧ a ≤ 4) ∧ 0 ≤ v ∧ v < q_p4 a.toNat then (0 : Int) else 1) = 0 ∧ z = q_ff (q_cmd v a.toNat) R a.toNat ∧ q_cs M M1) z9 Mx ∧ M1 = q_wr Mx 178 0 (iZ z9).toInt) ∧ ((if (1 ≤ a ∧ a ≤ 4) ∧ 0 ≤ v ∧ v < q_p4 a.toNat then (0 : Int) else 1) ≠ 0 → q_cs M M1)) (z := 0) hx hb hr hG hlocks (⟨hp_6.1.symm, fun _ => ⟨z1, M2, hp_6, hM3⟩, fun h9 => absurd hp_6.1 h9⟩) dL_runScript_19
set_option maxHeartbeats 4000000 in
set_option maxRecDepth 100000 in
theorem c_L_simulate (l : Launch) (G : gG) (M : Nat → Nat → Int) (hl0 : l.stackTraces = false) (hdm : ∀ k, k < 179 → gdm G k) (R : Nat → Int) (hR : q_tr M 0 R) (hI : q_inv R) (v : Int) (hv9 : -9223372036854775808 ≤ v ∧ v < 9223372036854775808) (a : Int) (ha9 : -2147483648 ≤ a ∧ a < 2147483648) : gMw l yL_simulate wsL_simulate ({ frames := 7, cells := 1, slots := 6, locals := 167 } : Room) G M [.ref (gad G 152), .long (lZ v), .int (iZ a), .ref (gad G 178)] (fun z M1 => z = (if 1 ≤ a ∧ a ≤ 99 then (0 : Int) else 1) ∧ ((if 1 ≤ a ∧ a ≤ 99 then (0 : Int) else 1) = 0 → ∃ (z9 : Int) (Mx : Nat → Nat → Int), (fun z M1 => (if 1 ≤ a ∧ a ≤ 99 then (0 : Int) else 1) = 0 ∧ z = 1000 * (q_sim R v a.toNat) 0 + q_sum (q_sim R v a.toNat) ∧ q_cs M M1) z9 Mx ∧ M1 = q_wr Mx 178 0 (iZ z9).toInt) ∧ ((if 1 ≤ a ∧ a ≤ 99 then (0 : Int) else 1) ≠ 0 → q_cs M M1)) := by
  refine gMw_of (cc := cL_simulate) (maxL := 6) (ret := some .int) (by decide) rfl (Nat.le_of_ble_eq_true rfl) ?_
  intro p e s m below meth c ls hx hb hr hml hown hts hlocks htb hl hX hG
  have hown : s.vm.findClass RL = some m.cls := hown
  have hl : lv_has ls 6 [(0, .ref (gad G 152)), (1, .long (lZ v)), (3, .int (iZ a)), (4, .ref (gad G 178))] := hl
  refine lv_aload hx hb dL_simulate_0 (lv_at hl 3 rfl) ?_
  refine lv_iconst (v := iZ 0) hx hb dL_simulate_2 rfl ?_
  refine lv_aload_n hx hb dL_simulate_3 rfl (lv_at hl 0 rfl) ?_
  refine lv_lload_n hx hb dL_simulate_4 rfl (lv_at hl 1 rfl) ?_
  refine lv_iload_n hx hb dL_simulate_5 rfl (lv_at hl 2 rfl) ?_
  refine g_callX (b := 152) (As := [.long (lZ v), .int (iZ a)]) (rest := [.int (iZ 0), .ref (gad G 178)]) ⟨hx, hb, hml, hown, hts⟩ (c_X5_simulate l G M hl0 hdm R hR hI v hv9 a ha9) (cwV 2 hts gL_simulate_X5_simulate rfl rfl rfl (by decide +kernel) ⟨Nat.le_of_ble_eq_true rfl, Nat.le_of_ble_eq_true rfl⟩) hX hG (g_recv hG (b := 152) (hdm 152 (by decide)) rfl rfl) rfl hl.1 rfl (Nat.le_of_ble_eq_true rfl) dL_simulate_6 ⟨Nat.le_of_ble_eq_true rfl, Nat.le_of_ble_eq_true rfl⟩ (fun E9 M2 H locs ce9 q9 hpx hG hce hcv hcl => ?_) (fun z1 M2 H locs hp_6 hG => ?_)
  · skip
    obtain ⟨hE9, hfr9⟩ := hpx
    obtain ⟨hc9, rfl⟩ := hE9
    · refine vx_catch (name := "java/lang/IllegalArgumentException") hown [] ⟨0, 11, 14, 13⟩ [] (by rw [htb]; rfl) (fun z9 hz9 => nomatch hz9) (by decide) (by decide) (hts (.classLink RL 13 "java/lang/IllegalArgumentException") (by decide +kernel)) (va_Nw.use rfl hX.2.1) hce hcv hcl ?_
      refine lv_astore (lv' := [(5, .ref q9), (0, .ref (gad G 152)), (1, .long (lZ v)), (3, .int (iZ a)), (4, .ref (gad G 178))]) hx hb dL_simulate_14 hl (by decide) rfl (fun ls hl => ?_)
      refine lv_iconst (v := iZ 1) hx hb dL_simulate_16 rfl ?_
      exact g_iretW (post := fun z M1 => z = (if 1 ≤ a ∧ a ≤ 99 then (0 : Int) else 1) ∧ ((if 1 ≤ a ∧ a ≤ 99 then (0 : Int) else 1) = 0 → ∃ (z9 : Int) (Mx : Nat → Nat → Int), (fun z M1 => (if 1 ≤ a ∧ a ≤ 99 then (0 : Int) else 1) = 0 ∧ z = 1000 * (q_sim R v a.toNat) 0 + q_sum (q_sim R v a.toNat) ∧ q_cs M M1) z9 Mx ∧ M1 = q_wr Mx 178 0 (iZ z9).toInt) ∧ ((if 1 ≤ a ∧ a ≤ 99 then (0 : Int) else 1) ≠ 0 → q_cs M M1)) (z := 1) hx hb hr hG hlocks (⟨hc9.symm, fun h9 => absurd h9 (by rw [hc9]; decide), fun _ => hfr9⟩) dL_simulate_17
  · skip
    refine z_i2lw hx hb dL_simulate_9 ?_
    refine g_last (j := 0) hx hb hG (o := 178) (hdm 178 (by decide)) (fun f => rfl) (by omega) (by decide) (by decide) dL_simulate_10 (fun H locs hG => ?_)
    obtain ⟨M3, hM3⟩ : ∃ X, X = (q_wr M2 178 0 ((iZ z1).toInt)) := ⟨_, rfl⟩
    rw [← hM3] at hG
    refine lv_goto (tgt := 18) hx hb dL_simulate_11 (by decide) ?_
    refine lv_iconst (v := iZ 0) hx hb dL_simulate_18 rfl ?_
    exact g_iretW (post := fun z M1 => z = (if 1 ≤ a ∧ a ≤ 99 then (0 : Int) else 1) ∧ ((if 1 ≤ a ∧ a ≤ 99 then (0 : Int) else 1) = 0 → ∃ (z9 : Int) (Mx : Nat → Nat → Int), (fun z M1 => (if 1 ≤ a ∧ a ≤ 99 then (0 : Int) else 1) = 0 ∧ z = 1000 * (q_sim R v a.toNat) 0 + q_sum (q_sim R v a.toNat) ∧ q_cs M M1) z9 Mx ∧ M1 = q_wr Mx 178 0 (iZ z9).toInt) ∧ ((if 1 ≤ a ∧ a ≤ 99 then (0 : Int) else 1) ≠ 0 → q_cs M M1)) (z := 0) hx hb hr hG hlocks (⟨hp_6.1.symm, fun _ => ⟨z1, M2, hp_6, hM3⟩, fun h9 => absurd hp_6.1 h9⟩) dL_simulate_19
set_option maxHeartbeats 4000000 in
set_option maxRecDepth 100000 in
theorem c_L_enter (l : Launch) (G : gG) (M : Nat → Nat → Int) (hl0 : l.stackTraces = false) (hdm : ∀ k, k < 179 → gdm G k) (R : Nat → Int) (hR : q_tr M 0 R) (hI : q_inv R) (o n : Nat) (ho : o < 14) (hn : n ≤ 14) (hm1 : M 165 1 = (o : Int)) (hm2 : M 165 2 = (n : Int)) (a : Int) (ha9 : -2147483648 ≤ a ∧ a < 2147483648) (b : Int) (hb9 : -2147483648 ≤ b ∧ b < 2147483648) : gMw l yL_enter wsL_enter ({ frames := 7, cells := 1, slots := 6, locals := 113 } : Room) G M [.ref (gad G 152), .int (iZ a), .int (iZ b), .ref (gad G 178)] (fun z M1 => z = (if ¬ (0 ≤ a ∧ a ≤ 5 ∧ 1 ≤ b ∧ b ≤ 99) then (1 : Int) else if 12 ≤ q_nd R ∨ q_dn R b (-9) (q_nd R).toNat = true then 2 else 0) ∧ ((if ¬ (0 ≤ a ∧ a ≤ 5 ∧ 1 ≤ b ∧ b ≤ 99) then (1 : Int) else if 12 ≤ q_nd R ∨ q_dn R b (-9) (q_nd R).toNat = true then 2 else 0) = 0 → ∃ (z9 : Int) (Mx : Nat → Nat → Int), (fun z M1 => (if ¬ (0 ≤ a ∧ a ≤ 5 ∧ 1 ≤ b ∧ b ≤ 99) then (1 : Int) else if 12 ≤ q_nd R ∨ q_dn R b (-9) (q_nd R).toNat = true then 2 else 0) = 0 ∧ z = q_nd R ∧ q_act M M1 R (q_ent R (q_nd R).toNat a b) o n) z9 Mx ∧ M1 = q_wr Mx 178 0 (iZ z9).toInt) ∧ ((if ¬ (0 ≤ a ∧ a ≤ 5 ∧ 1 ≤ b ∧ b ≤ 99) then (1 : Int) else if 12 ≤ q_nd R ∨ q_dn R b (-9) (q_nd R).toNat = true then 2 else 0) ≠ 0 → q_cs M M1)) := by
  refine gMw_of (cc := cL_enter) (maxL := 5) (ret := some .int) (by decide) rfl (Nat.le_of_ble_eq_true rfl) ?_
  intro p e s m below meth c ls hx hb hr hml hown hts hlocks htb hl hX hG
  have hown : s.vm.findClass RL = some m.cls := hown
  have hl : lv_has ls 5 [(0, .ref (gad G 152)), (1, .int (iZ a)), (2, .int (iZ b)), (3, .ref (gad G 178))] := hl
  refine lv_aload_n hx hb dL_enter_0 rfl (lv_at hl 3 rfl) ?_
  refine lv_iconst (v := iZ 0) hx hb dL_enter_1 rfl ?_
  refine lv_aload_n hx hb dL_enter_2 rfl (lv_at hl 0 rfl) ?_
  refine lv_iload_n hx hb dL_enter_3 rfl (lv_at hl 1 rfl) ?_
  refine lv_iload_n hx hb dL_enter_4 rfl (lv_at hl 2 rfl) ?_
  refine g_callX (b := 152) (As := [.int (iZ a), .int (iZ b)]) (rest := [.int (iZ 0), .ref (gad G 178)]) ⟨hx, hb, hml, hown, hts⟩ (c_X5_enter l G M hl0 hdm R hR hI o n ho hn hm1 hm2 a ha9 b hb9) (cwV 2 hts gL_enter_X5_enter rfl rfl rfl (by decide +kernel) ⟨Nat.le_of_ble_eq_true rfl, Nat.le_of_ble_eq_true rfl⟩) hX hG (g_recv hG (b := 152) (hdm 152 (by decide)) rfl rfl) rfl hl.1 rfl (Nat.le_of_ble_eq_true rfl) dL_enter_5 ⟨Nat.le_of_ble_eq_true rfl, Nat.le_of_ble_eq_true rfl⟩ (fun E9 M2 H locs ce9 q9 hpx hG hce hcv hcl => ?_) (fun z1 M2 H locs hp_5 hG => ?_)
  · skip
    obtain ⟨hE9, hfr9⟩ := hpx
    rcases hE9 with ⟨hc9, rfl⟩ | ⟨hc9, rfl⟩
    · refine vx_catch (name := "java/lang/IllegalArgumentException") hown [] ⟨0, 10, 13, 13⟩ [⟨0, 10, 17, 15⟩] (by rw [htb]; rfl) (fun z9 hz9 => nomatch hz9) (by decide) (by decide) (hts (.classLink RL 13 "java/lang/IllegalArgumentException") (by decide +kernel)) (va_Nw.use rfl hX.2.1) hce hcv hcl ?_
      refine lv_astore (lv' := [(4, .ref q9), (0, .ref (gad G 152)), (1, .int (iZ a)), (2, .int (iZ b)), (3, .ref (gad G 178))]) hx hb dL_enter_13 hl (by decide) rfl (fun ls hl => ?_)
      refine lv_iconst (v := iZ 1) hx hb dL_enter_15 rfl ?_
      exact g_iretW (post := fun z M1 => z = (if ¬ (0 ≤ a ∧ a ≤ 5 ∧ 1 ≤ b ∧ b ≤ 99) then (1 : Int) else if 12 ≤ q_nd R ∨ q_dn R b (-9) (q_nd R).toNat = true then 2 else 0) ∧ ((if ¬ (0 ≤ a ∧ a ≤ 5 ∧ 1 ≤ b ∧ b ≤ 99) then (1 : Int) else if 12 ≤ q_nd R ∨ q_dn R b (-9) (q_nd R).toNat = true then 2 else 0) = 0 → ∃ (z9 : Int) (Mx : Nat → Nat → Int), (fun z M1 => (if ¬ (0 ≤ a ∧ a ≤ 5 ∧ 1 ≤ b ∧ b ≤ 99) then (1 : Int) else if 12 ≤ q_nd R ∨ q_dn R b (-9) (q_nd R).toNat = true then 2 else 0) = 0 ∧ z = q_nd R ∧ q_act M M1 R (q_ent R (q_nd R).toNat a b) o n) z9 Mx ∧ M1 = q_wr Mx 178 0 (iZ z9).toInt) ∧ ((if ¬ (0 ≤ a ∧ a ≤ 5 ∧ 1 ≤ b ∧ b ≤ 99) then (1 : Int) else if 12 ≤ q_nd R ∨ q_dn R b (-9) (q_nd R).toNat = true then 2 else 0) ≠ 0 → q_cs M M1)) (z := 1) hx hb hr hG hlocks (⟨hc9.symm, fun h9 => absurd h9 (by rw [hc9]; decide), fun _ => hfr9⟩) dL_enter_16
    · refine vx_catch (name := "java/lang/IllegalStateException") hown [⟨0, 10, 13, 13⟩] ⟨0, 10, 17, 15⟩ [] (by rw [htb]; rfl) (fun z9 hz9 => by simp only [List.mem_cons, List.not_mem_nil, or_false] at hz9; subst hz9; exact Or.inr ⟨by decide, "java/lang/IllegalArgumentException", hts (.classLink RL 13 "java/lang/IllegalArgumentException") (by decide +kernel), hX.2.2.2.2.1⟩) (by decide) (by decide) (hts (.classLink RL 15 "java/lang/IllegalStateException") (by decide +kernel)) (va_Nw.use rfl hX.2.2.1) hce hcv hcl ?_
      refine lv_astore (lv' := [(4, .ref q9), (0, .ref (gad G 152)), (1, .int (iZ a)), (2, .int (iZ b)), (3, .ref (gad G 178))]) hx hb dL_enter_17 hl (by decide) rfl (fun ls hl => ?_)
      refine lv_iconst (v := iZ 2) hx hb dL_enter_19 rfl ?_
      exact g_iretW (post := fun z M1 => z = (if ¬ (0 ≤ a ∧ a ≤ 5 ∧ 1 ≤ b ∧ b ≤ 99) then (1 : Int) else if 12 ≤ q_nd R ∨ q_dn R b (-9) (q_nd R).toNat = true then 2 else 0) ∧ ((if ¬ (0 ≤ a ∧ a ≤ 5 ∧ 1 ≤ b ∧ b ≤ 99) then (1 : Int) else if 12 ≤ q_nd R ∨ q_dn R b (-9) (q_nd R).toNat = true then 2 else 0) = 0 → ∃ (z9 : Int) (Mx : Nat → Nat → Int), (fun z M1 => (if ¬ (0 ≤ a ∧ a ≤ 5 ∧ 1 ≤ b ∧ b ≤ 99) then (1 : Int) else if 12 ≤ q_nd R ∨ q_dn R b (-9) (q_nd R).toNat = true then 2 else 0) = 0 ∧ z = q_nd R ∧ q_act M M1 R (q_ent R (q_nd R).toNat a b) o n) z9 Mx ∧ M1 = q_wr Mx 178 0 (iZ z9).toInt) ∧ ((if ¬ (0 ≤ a ∧ a ≤ 5 ∧ 1 ≤ b ∧ b ≤ 99) then (1 : Int) else if 12 ≤ q_nd R ∨ q_dn R b (-9) (q_nd R).toNat = true then 2 else 0) ≠ 0 → q_cs M M1)) (z := 2) hx hb hr hG hlocks (⟨hc9.symm, fun h9 => absurd h9 (by rw [hc9]; decide), fun _ => hfr9⟩) dL_enter_20
  · skip
    refine z_i2lw hx hb dL_enter_8 ?_
    refine g_last (j := 0) hx hb hG (o := 178) (hdm 178 (by decide)) (fun f => rfl) (by omega) (by decide) (by decide) dL_enter_9 (fun H locs hG => ?_)
    obtain ⟨M3, hM3⟩ : ∃ X, X = (q_wr M2 178 0 ((iZ z1).toInt)) := ⟨_, rfl⟩
    rw [← hM3] at hG
    refine lv_goto (tgt := 21) hx hb dL_enter_10 (by decide) ?_
    refine lv_iconst (v := iZ 0) hx hb dL_enter_21 rfl ?_
    exact g_iretW (post := fun z M1 => z = (if ¬ (0 ≤ a ∧ a ≤ 5 ∧ 1 ≤ b ∧ b ≤ 99) then (1 : Int) else if 12 ≤ q_nd R ∨ q_dn R b (-9) (q_nd R).toNat = true then 2 else 0) ∧ ((if ¬ (0 ≤ a ∧ a ≤ 5 ∧ 1 ≤ b ∧ b ≤ 99) then (1 : Int) else if 12 ≤ q_nd R ∨ q_dn R b (-9) (q_nd R).toNat = true then 2 else 0) = 0 → ∃ (z9 : Int) (Mx : Nat → Nat → Int), (fun z M1 => (if ¬ (0 ≤ a ∧ a ≤ 5 ∧ 1 ≤ b ∧ b ≤ 99) then (1 : Int) else if 12 ≤ q_nd R ∨ q_dn R b (-9) (q_nd R).toNat = true then 2 else 0) = 0 ∧ z = q_nd R ∧ q_act M M1 R (q_ent R (q_nd R).toNat a b) o n) z9 Mx ∧ M1 = q_wr Mx 178 0 (iZ z9).toInt) ∧ ((if ¬ (0 ≤ a ∧ a ≤ 5 ∧ 1 ≤ b ∧ b ≤ 99) then (1 : Int) else if 12 ≤ q_nd R ∨ q_dn R b (-9) (q_nd R).toNat = true then 2 else 0) ≠ 0 → q_cs M M1)) (z := 0) hx hb hr hG hlocks (⟨hp_5.1.symm, fun _ => ⟨z1, M2, hp_5, hM3⟩, fun h9 => absurd hp_5.1 h9⟩) dL_enter_22
set_option maxHeartbeats 4000000 in
set_option maxRecDepth 100000 in
theorem c_L_withdraw (l : Launch) (G : gG) (M : Nat → Nat → Int) (hl0 : l.stackTraces = false) (hdm : ∀ k, k < 179 → gdm G k) (R : Nat → Int) (hR : q_tr M 0 R) (hI : q_inv R) (o n : Nat) (ho : o < 14) (hn : n ≤ 14) (hm1 : M 165 1 = (o : Int)) (hm2 : M 165 2 = (n : Int)) (a : Int) (ha9 : -2147483648 ≤ a ∧ a < 2147483648) : gMw l yL_withdraw wsL_withdraw ({ frames := 7, cells := 1, slots := 6, locals := 113 } : Room) G M [.ref (gad G 152), .int (iZ a), .ref (gad G 178)] (fun z M1 => z = (if ¬ (0 ≤ a ∧ a < q_nd R) then (1 : Int) else if q_sa R a.toNat = 3 then 2 else 0) ∧ ((if ¬ (0 ≤ a ∧ a < q_nd R) then (1 : Int) else if q_sa R a.toNat = 3 then 2 else 0) = 0 → ∃ (z9 : Int) (Mx : Nat → Nat → Int), (fun z M1 => (if ¬ (0 ≤ a ∧ a < q_nd R) then (1 : Int) else if q_sa R a.toNat = 3 then 2 else 0) = 0 ∧ z = q_sa R a.toNat ∧ q_act M M1 R (q_gon R a.toNat) o n) z9 Mx ∧ M1 = q_wr Mx 178 0 (iZ z9).toInt) ∧ ((if ¬ (0 ≤ a ∧ a < q_nd R) then (1 : Int) else if q_sa R a.toNat = 3 then 2 else 0) ≠ 0 → q_cs M M1)) := by
  refine gMw_of (cc := cL_withdraw) (maxL := 4) (ret := some .int) (by decide) rfl (Nat.le_of_ble_eq_true rfl) ?_
  intro p e s m below meth c ls hx hb hr hml hown hts hlocks htb hl hX hG
  have hown : s.vm.findClass RL = some m.cls := hown
  have hl : lv_has ls 4 [(0, .ref (gad G 152)), (1, .int (iZ a)), (2, .ref (gad G 178))] := hl
  refine lv_aload_n hx hb dL_withdraw_0 rfl (lv_at hl 2 rfl) ?_
  refine lv_iconst (v := iZ 0) hx hb dL_withdraw_1 rfl ?_
  refine lv_aload_n hx hb dL_withdraw_2 rfl (lv_at hl 0 rfl) ?_
  refine lv_iload_n hx hb dL_withdraw_3 rfl (lv_at hl 1 rfl) ?_
  refine g_callX (b := 152) (As := [.int (iZ a)]) (rest := [.int (iZ 0), .ref (gad G 178)]) ⟨hx, hb, hml, hown, hts⟩ (c_X5_withdraw l G M hl0 hdm R hR hI o n ho hn hm1 hm2 a ha9) (cwV 1 hts gL_withdraw_X5_withdraw rfl rfl rfl (by decide +kernel) ⟨Nat.le_of_ble_eq_true rfl, Nat.le_of_ble_eq_true rfl⟩) hX hG (g_recv hG (b := 152) (hdm 152 (by decide)) rfl rfl) rfl hl.1 rfl (Nat.le_of_ble_eq_true rfl) dL_withdraw_4 ⟨Nat.le_of_ble_eq_true rfl, Nat.le_of_ble_eq_true rfl⟩ (fun E9 M2 H locs ce9 q9 hpx hG hce hcv hcl => ?_) (fun z1 M2 H locs hp_4 hG => ?_)
  · skip
    obtain ⟨hE9, hfr9⟩ := hpx
    rcases hE9 with ⟨hc9, rfl⟩ | ⟨hc9, rfl⟩
    · refine vx_catch (name := "java/lang/IndexOutOfBoundsException") hown [] ⟨0, 9, 12, 28⟩ [⟨0, 9, 15, 15⟩] (by rw [htb]; rfl) (fun z9 hz9 => nomatch hz9) (by decide) (by decide) (hts (.classLink RL 28 "java/lang/IndexOutOfBoundsException") (by decide +kernel)) (va_Nw.use rfl hX.2.2.2.1) hce hcv hcl ?_
      refine lv_astore_n (lv' := [(3, .ref q9), (0, .ref (gad G 152)), (1, .int (iZ a)), (2, .ref (gad G 178))]) hx hb dL_withdraw_12 rfl hl (by decide) rfl (fun ls hl => ?_)
      refine lv_iconst (v := iZ 1) hx hb dL_withdraw_13 rfl ?_
      exact g_iretW (post := fun z M1 => z = (if ¬ (0 ≤ a ∧ a < q_nd R) then (1 : Int) else if q_sa R a.toNat = 3 then 2 else 0) ∧ ((if ¬ (0 ≤ a ∧ a < q_nd R) then (1 : Int) else if q_sa R a.toNat = 3 then 2 else 0) = 0 → ∃ (z9 : Int) (Mx : Nat → Nat → Int), (fun z M1 => (if ¬ (0 ≤ a ∧ a < q_nd R) then (1 : Int) else if q_sa R a.toNat = 3 then 2 else 0) = 0 ∧ z = q_sa R a.toNat ∧ q_act M M1 R (q_gon R a.toNat) o n) z9 Mx ∧ M1 = q_wr Mx 178 0 (iZ z9).toInt) ∧ ((if ¬ (0 ≤ a ∧ a < q_nd R) then (1 : Int) else if q_sa R a.toNat = 3 then 2 else 0) ≠ 0 → q_cs M M1)) (z := 1) hx hb hr hG hlocks (⟨hc9.symm, fun h9 => absurd h9 (by rw [hc9]; decide), fun _ => hfr9⟩) dL_withdraw_14
    · refine vx_catch (name := "java/lang/IllegalStateException") hown [⟨0, 9, 12, 28⟩] ⟨0, 9, 15, 15⟩ [] (by rw [htb]; rfl) (fun z9 hz9 => by simp only [List.mem_cons, List.not_mem_nil, or_false] at hz9; subst hz9; exact Or.inr ⟨by decide, "java/lang/IndexOutOfBoundsException", hts (.classLink RL 28 "java/lang/IndexOutOfBoundsException") (by decide +kernel), hX.2.2.2.2.2.2.1⟩) (by decide) (by decide) (hts (.classLink RL 15 "java/lang/IllegalStateException") (by decide +kernel)) (va_Nw.use rfl hX.2.2.1) hce hcv hcl ?_
      refine lv_astore_n (lv' := [(3, .ref q9), (0, .ref (gad G 152)), (1, .int (iZ a)), (2, .ref (gad G 178))]) hx hb dL_withdraw_15 rfl hl (by decide) rfl (fun ls hl => ?_)
      refine lv_iconst (v := iZ 2) hx hb dL_withdraw_16 rfl ?_
      exact g_iretW (post := fun z M1 => z = (if ¬ (0 ≤ a ∧ a < q_nd R) then (1 : Int) else if q_sa R a.toNat = 3 then 2 else 0) ∧ ((if ¬ (0 ≤ a ∧ a < q_nd R) then (1 : Int) else if q_sa R a.toNat = 3 then 2 else 0) = 0 → ∃ (z9 : Int) (Mx : Nat → Nat → Int), (fun z M1 => (if ¬ (0 ≤ a ∧ a < q_nd R) then (1 : Int) else if q_sa R a.toNat = 3 then 2 else 0) = 0 ∧ z = q_sa R a.toNat ∧ q_act M M1 R (q_gon R a.toNat) o n) z9 Mx ∧ M1 = q_wr Mx 178 0 (iZ z9).toInt) ∧ ((if ¬ (0 ≤ a ∧ a < q_nd R) then (1 : Int) else if q_sa R a.toNat = 3 then 2 else 0) ≠ 0 → q_cs M M1)) (z := 2) hx hb hr hG hlocks (⟨hc9.symm, fun h9 => absurd h9 (by rw [hc9]; decide), fun _ => hfr9⟩) dL_withdraw_17
  · skip
    refine z_i2lw hx hb dL_withdraw_7 ?_
    refine g_last (j := 0) hx hb hG (o := 178) (hdm 178 (by decide)) (fun f => rfl) (by omega) (by decide) (by decide) dL_withdraw_8 (fun H locs hG => ?_)
    obtain ⟨M3, hM3⟩ : ∃ X, X = (q_wr M2 178 0 ((iZ z1).toInt)) := ⟨_, rfl⟩
    rw [← hM3] at hG
    refine lv_goto (tgt := 18) hx hb dL_withdraw_9 (by decide) ?_
    refine lv_iconst (v := iZ 0) hx hb dL_withdraw_18 rfl ?_
    exact g_iretW (post := fun z M1 => z = (if ¬ (0 ≤ a ∧ a < q_nd R) then (1 : Int) else if q_sa R a.toNat = 3 then 2 else 0) ∧ ((if ¬ (0 ≤ a ∧ a < q_nd R) then (1 : Int) else if q_sa R a.toNat = 3 then 2 else 0) = 0 → ∃ (z9 : Int) (Mx : Nat → Nat → Int), (fun z M1 => (if ¬ (0 ≤ a ∧ a < q_nd R) then (1 : Int) else if q_sa R a.toNat = 3 then 2 else 0) = 0 ∧ z = q_sa R a.toNat ∧ q_act M M1 R (q_gon R a.toNat) o n) z9 Mx ∧ M1 = q_wr Mx 178 0 (iZ z9).toInt) ∧ ((if ¬ (0 ≤ a ∧ a < q_nd R) then (1 : Int) else if q_sa R a.toNat = 3 then 2 else 0) ≠ 0 → q_cs M M1)) (z := 0) hx hb hr hG hlocks (⟨hp_4.1.symm, fun _ => ⟨z1, M2, hp_4, hM3⟩, fun h9 => absurd hp_4.1 h9⟩) dL_withdraw_19
set_option maxHeartbeats 4000000 in
set_option maxRecDepth 100000 in
theorem c_L_interfere (l : Launch) (G : gG) (M : Nat → Nat → Int) (hl0 : l.stackTraces = false) (hdm : ∀ k, k < 179 → gdm G k) (R : Nat → Int) (hR : q_tr M 0 R) (hI : q_inv R) (o n : Nat) (ho : o < 14) (hn : n ≤ 14) (hm1 : M 165 1 = (o : Int)) (hm2 : M 165 2 = (n : Int)) (a : Int) (ha9 : -2147483648 ≤ a ∧ a < 2147483648) (b : Int) (hb9 : -2147483648 ≤ b ∧ b < 2147483648) : gMw l yL_interfere wsL_interfere ({ frames := 7, cells := 1, slots := 6, locals := 113 } : Room) G M [.ref (gad G 152), .int (iZ a), .int (iZ b), .ref (gad G 178)] (fun z M1 => z = (if ¬ (0 ≤ a ∧ a < q_nd R ∧ 0 ≤ b ∧ b ≤ 5) then (1 : Int) else if q_sa R a.toNat ≠ 1 then 2 else 0) ∧ ((if ¬ (0 ≤ a ∧ a < q_nd R ∧ 0 ≤ b ∧ b ≤ 5) then (1 : Int) else if q_sa R a.toNat ≠ 1 then 2 else 0) = 0 → ∃ (z9 : Int) (Mx : Nat → Nat → Int), (fun z M1 => (if ¬ (0 ≤ a ∧ a < q_nd R ∧ 0 ≤ b ∧ b ≤ 5) then (1 : Int) else if q_sa R a.toNat ≠ 1 then 2 else 0) = 0 ∧ z = q_sc (q_brk R a.toNat b) a.toNat ∧ q_act M M1 R (q_brk R a.toNat b) o n) z9 Mx ∧ M1 = q_wr Mx 178 0 (iZ z9).toInt) ∧ ((if ¬ (0 ≤ a ∧ a < q_nd R ∧ 0 ≤ b ∧ b ≤ 5) then (1 : Int) else if q_sa R a.toNat ≠ 1 then 2 else 0) ≠ 0 → q_cs M M1)) := by
  refine gMw_of (cc := cL_interfere) (maxL := 5) (ret := some .int) (by decide) rfl (Nat.le_of_ble_eq_true rfl) ?_
  intro p e s m below meth c ls hx hb hr hml hown hts hlocks htb hl hX hG
  have hown : s.vm.findClass RL = some m.cls := hown
  have hl : lv_has ls 5 [(0, .ref (gad G 152)), (1, .int (iZ a)), (2, .int (iZ b)), (3, .ref (gad G 178))] := hl
  refine lv_aload_n hx hb dL_interfere_0 rfl (lv_at hl 3 rfl) ?_
  refine lv_iconst (v := iZ 0) hx hb dL_interfere_1 rfl ?_
  refine lv_aload_n hx hb dL_interfere_2 rfl (lv_at hl 0 rfl) ?_
  refine lv_iload_n hx hb dL_interfere_3 rfl (lv_at hl 1 rfl) ?_
  refine lv_iload_n hx hb dL_interfere_4 rfl (lv_at hl 2 rfl) ?_
  refine g_callX (b := 152) (As := [.int (iZ a), .int (iZ b)]) (rest := [.int (iZ 0), .ref (gad G 178)]) ⟨hx, hb, hml, hown, hts⟩ (c_X5_interfere l G M hl0 hdm R hR hI o n ho hn hm1 hm2 a ha9 b hb9) (cwV 2 hts gL_interfere_X5_interfere rfl rfl rfl (by decide +kernel) ⟨Nat.le_of_ble_eq_true rfl, Nat.le_of_ble_eq_true rfl⟩) hX hG (g_recv hG (b := 152) (hdm 152 (by decide)) rfl rfl) rfl hl.1 rfl (Nat.le_of_ble_eq_true rfl) dL_interfere_5 ⟨Nat.le_of_ble_eq_true rfl, Nat.le_of_ble_eq_true rfl⟩ (fun E9 M2 H locs ce9 q9 hpx hG hce hcv hcl => ?_) (fun z1 M2 H locs hp_5 hG => ?_)
  · skip
    obtain ⟨hE9, hfr9⟩ := hpx
    rcases hE9 with ⟨hc9, rfl⟩ | ⟨hc9, rfl⟩
    · refine vx_catch (name := "java/lang/IndexOutOfBoundsException") hown [] ⟨0, 10, 13, 28⟩ [⟨0, 10, 17, 15⟩] (by rw [htb]; rfl) (fun z9 hz9 => nomatch hz9) (by decide) (by decide) (hts (.classLink RL 28 "java/lang/IndexOutOfBoundsException") (by decide +kernel)) (va_Nw.use rfl hX.2.2.2.1) hce hcv hcl ?_
      refine lv_astore (lv' := [(4, .ref q9), (0, .ref (gad G 152)), (1, .int (iZ a)), (2, .int (iZ b)), (3, .ref (gad G 178))]) hx hb dL_interfere_13 hl (by decide) rfl (fun ls hl => ?_)
      refine lv_iconst (v := iZ 1) hx hb dL_interfere_15 rfl ?_
      exact g_iretW (post := fun z M1 => z = (if ¬ (0 ≤ a ∧ a < q_nd R ∧ 0 ≤ b ∧ b ≤ 5) then (1 : Int) else if q_sa R a.toNat ≠ 1 then 2 else 0) ∧ ((if ¬ (0 ≤ a ∧ a < q_nd R ∧ 0 ≤ b ∧ b ≤ 5) then (1 : Int) else if q_sa R a.toNat ≠ 1 then 2 else 0) = 0 → ∃ (z9 : Int) (Mx : Nat → Nat → Int), (fun z M1 => (if ¬ (0 ≤ a ∧ a < q_nd R ∧ 0 ≤ b ∧ b ≤ 5) then (1 : Int) else if q_sa R a.toNat ≠ 1 then 2 else 0) = 0 ∧ z = q_sc (q_brk R a.toNat b) a.toNat ∧ q_act M M1 R (q_brk R a.toNat b) o n) z9 Mx ∧ M1 = q_wr Mx 178 0 (iZ z9).toInt) ∧ ((if ¬ (0 ≤ a ∧ a < q_nd R ∧ 0 ≤ b ∧ b ≤ 5) then (1 : Int) else if q_sa R a.toNat ≠ 1 then 2 else 0) ≠ 0 → q_cs M M1)) (z := 1) hx hb hr hG hlocks (⟨hc9.symm, fun h9 => absurd h9 (by rw [hc9]; decide), fun _ => hfr9⟩) dL_interfere_16
    · refine vx_catch (name := "java/lang/IllegalStateException") hown [⟨0, 10, 13, 28⟩] ⟨0, 10, 17, 15⟩ [] (by rw [htb]; rfl) (fun z9 hz9 => by simp only [List.mem_cons, List.not_mem_nil, or_false] at hz9; subst hz9; exact Or.inr ⟨by decide, "java/lang/IndexOutOfBoundsException", hts (.classLink RL 28 "java/lang/IndexOutOfBoundsException") (by decide +kernel), hX.2.2.2.2.2.2.1⟩) (by decide) (by decide) (hts (.classLink RL 15 "java/lang/IllegalStateException") (by decide +kernel)) (va_Nw.use rfl hX.2.2.1) hce hcv hcl ?_
      refine lv_astore (lv' := [(4, .ref q9), (0, .ref (gad G 152)), (1, .int (iZ a)), (2, .int (iZ b)), (3, .ref (gad G 178))]) hx hb dL_interfere_17 hl (by decide) rfl (fun ls hl => ?_)
      refine lv_iconst (v := iZ 2) hx hb dL_interfere_19 rfl ?_
      exact g_iretW (post := fun z M1 => z = (if ¬ (0 ≤ a ∧ a < q_nd R ∧ 0 ≤ b ∧ b ≤ 5) then (1 : Int) else if q_sa R a.toNat ≠ 1 then 2 else 0) ∧ ((if ¬ (0 ≤ a ∧ a < q_nd R ∧ 0 ≤ b ∧ b ≤ 5) then (1 : Int) else if q_sa R a.toNat ≠ 1 then 2 else 0) = 0 → ∃ (z9 : Int) (Mx : Nat → Nat → Int), (fun z M1 => (if ¬ (0 ≤ a ∧ a < q_nd R ∧ 0 ≤ b ∧ b ≤ 5) then (1 : Int) else if q_sa R a.toNat ≠ 1 then 2 else 0) = 0 ∧ z = q_sc (q_brk R a.toNat b) a.toNat ∧ q_act M M1 R (q_brk R a.toNat b) o n) z9 Mx ∧ M1 = q_wr Mx 178 0 (iZ z9).toInt) ∧ ((if ¬ (0 ≤ a ∧ a < q_nd R ∧ 0 ≤ b ∧ b ≤ 5) then (1 : Int) else if q_sa R a.toNat ≠ 1 then 2 else 0) ≠ 0 → q_cs M M1)) (z := 2) hx hb hr hG hlocks (⟨hc9.symm, fun h9 => absurd h9 (by rw [hc9]; decide), fun _ => hfr9⟩) dL_interfere_20
  · skip
    refine z_i2lw hx hb dL_interfere_8 ?_
    refine g_last (j := 0) hx hb hG (o := 178) (hdm 178 (by decide)) (fun f => rfl) (by omega) (by decide) (by decide) dL_interfere_9 (fun H locs hG => ?_)
    obtain ⟨M3, hM3⟩ : ∃ X, X = (q_wr M2 178 0 ((iZ z1).toInt)) := ⟨_, rfl⟩
    rw [← hM3] at hG
    refine lv_goto (tgt := 21) hx hb dL_interfere_10 (by decide) ?_
    refine lv_iconst (v := iZ 0) hx hb dL_interfere_21 rfl ?_
    exact g_iretW (post := fun z M1 => z = (if ¬ (0 ≤ a ∧ a < q_nd R ∧ 0 ≤ b ∧ b ≤ 5) then (1 : Int) else if q_sa R a.toNat ≠ 1 then 2 else 0) ∧ ((if ¬ (0 ≤ a ∧ a < q_nd R ∧ 0 ≤ b ∧ b ≤ 5) then (1 : Int) else if q_sa R a.toNat ≠ 1 then 2 else 0) = 0 → ∃ (z9 : Int) (Mx : Nat → Nat → Int), (fun z M1 => (if ¬ (0 ≤ a ∧ a < q_nd R ∧ 0 ≤ b ∧ b ≤ 5) then (1 : Int) else if q_sa R a.toNat ≠ 1 then 2 else 0) = 0 ∧ z = q_sc (q_brk R a.toNat b) a.toNat ∧ q_act M M1 R (q_brk R a.toNat b) o n) z9 Mx ∧ M1 = q_wr Mx 178 0 (iZ z9).toInt) ∧ ((if ¬ (0 ≤ a ∧ a < q_nd R ∧ 0 ≤ b ∧ b ≤ 5) then (1 : Int) else if q_sa R a.toNat ≠ 1 then 2 else 0) ≠ 0 → q_cs M M1)) (z := 0) hx hb hr hG hlocks (⟨hp_5.1.symm, fun _ => ⟨z1, M2, hp_5, hM3⟩, fun h9 => absurd hp_5.1 h9⟩) dL_interfere_22
set_option maxHeartbeats 4000000 in
set_option maxRecDepth 100000 in
theorem c_L_nextDay (l : Launch) (G : gG) (M : Nat → Nat → Int) (hl0 : l.stackTraces = false) (hdm : ∀ k, k < 179 → gdm G k) (R : Nat → Int) (hR : q_tr M 0 R) (hI : q_inv R) (o n : Nat) (ho : o < 14) (hn : n ≤ 14) (hm1 : M 165 1 = (o : Int)) (hm2 : M 165 2 = (n : Int)) (a : Int) (ha9 : -2147483648 ≤ a ∧ a < 2147483648) : gMw l yL_nextDay wsL_nextDay ({ frames := 7, cells := 1, slots := 6, locals := 112 } : Room) G M [.ref (gad G 152), .int (iZ a), .ref (gad G 178)] (fun z M1 => z = (if 60 ≤ a ∧ a ≤ 600 then (0 : Int) else 1) ∧ ((if 60 ≤ a ∧ a ≤ 600 then (0 : Int) else 1) = 0 → ∃ (z9 : Int) (Mx : Nat → Nat → Int), (fun z M1 => (if 60 ≤ a ∧ a ≤ 600 then (0 : Int) else 1) = 0 ∧ z = (q_nxt R a) 0 ∧ q_act M M1 R (q_nxt R a) o n) z9 Mx ∧ M1 = q_wr Mx 178 0 (iZ z9).toInt) ∧ ((if 60 ≤ a ∧ a ≤ 600 then (0 : Int) else 1) ≠ 0 → q_cs M M1)) := by
  refine gMw_of (cc := cL_nextDay) (maxL := 4) (ret := some .int) (by decide) rfl (Nat.le_of_ble_eq_true rfl) ?_
  intro p e s m below meth c ls hx hb hr hml hown hts hlocks htb hl hX hG
  have hown : s.vm.findClass RL = some m.cls := hown
  have hl : lv_has ls 4 [(0, .ref (gad G 152)), (1, .int (iZ a)), (2, .ref (gad G 178))] := hl
  refine lv_aload_n hx hb dL_nextDay_0 rfl (lv_at hl 2 rfl) ?_
  refine lv_iconst (v := iZ 0) hx hb dL_nextDay_1 rfl ?_
  refine lv_aload_n hx hb dL_nextDay_2 rfl (lv_at hl 0 rfl) ?_
  refine lv_iload_n hx hb dL_nextDay_3 rfl (lv_at hl 1 rfl) ?_
  refine g_callX (b := 152) (As := [.int (iZ a)]) (rest := [.int (iZ 0), .ref (gad G 178)]) ⟨hx, hb, hml, hown, hts⟩ (c_X5_nextDay l G M hl0 hdm R hR hI o n ho hn hm1 hm2 a ha9) (cwV 1 hts gL_nextDay_X5_nextDay rfl rfl rfl (by decide +kernel) ⟨Nat.le_of_ble_eq_true rfl, Nat.le_of_ble_eq_true rfl⟩) hX hG (g_recv hG (b := 152) (hdm 152 (by decide)) rfl rfl) rfl hl.1 rfl (Nat.le_of_ble_eq_true rfl) dL_nextDay_4 ⟨Nat.le_of_ble_eq_true rfl, Nat.le_of_ble_eq_true rfl⟩ (fun E9 M2 H locs ce9 q9 hpx hG hce hcv hcl => ?_) (fun z1 M2 H locs hp_4 hG => ?_)
  · skip
    obtain ⟨hE9, hfr9⟩ := hpx
    obtain ⟨hc9, rfl⟩ := hE9
    · refine vx_catch (name := "java/lang/IllegalArgumentException") hown [] ⟨0, 9, 12, 13⟩ [] (by rw [htb]; rfl) (fun z9 hz9 => nomatch hz9) (by decide) (by decide) (hts (.classLink RL 13 "java/lang/IllegalArgumentException") (by decide +kernel)) (va_Nw.use rfl hX.2.1) hce hcv hcl ?_
      refine lv_astore_n (lv' := [(3, .ref q9), (0, .ref (gad G 152)), (1, .int (iZ a)), (2, .ref (gad G 178))]) hx hb dL_nextDay_12 rfl hl (by decide) rfl (fun ls hl => ?_)
      refine lv_iconst (v := iZ 1) hx hb dL_nextDay_13 rfl ?_
      exact g_iretW (post := fun z M1 => z = (if 60 ≤ a ∧ a ≤ 600 then (0 : Int) else 1) ∧ ((if 60 ≤ a ∧ a ≤ 600 then (0 : Int) else 1) = 0 → ∃ (z9 : Int) (Mx : Nat → Nat → Int), (fun z M1 => (if 60 ≤ a ∧ a ≤ 600 then (0 : Int) else 1) = 0 ∧ z = (q_nxt R a) 0 ∧ q_act M M1 R (q_nxt R a) o n) z9 Mx ∧ M1 = q_wr Mx 178 0 (iZ z9).toInt) ∧ ((if 60 ≤ a ∧ a ≤ 600 then (0 : Int) else 1) ≠ 0 → q_cs M M1)) (z := 1) hx hb hr hG hlocks (⟨hc9.symm, fun h9 => absurd h9 (by rw [hc9]; decide), fun _ => hfr9⟩) dL_nextDay_14
  · skip
    refine z_i2lw hx hb dL_nextDay_7 ?_
    refine g_last (j := 0) hx hb hG (o := 178) (hdm 178 (by decide)) (fun f => rfl) (by omega) (by decide) (by decide) dL_nextDay_8 (fun H locs hG => ?_)
    obtain ⟨M3, hM3⟩ : ∃ X, X = (q_wr M2 178 0 ((iZ z1).toInt)) := ⟨_, rfl⟩
    rw [← hM3] at hG
    refine lv_goto (tgt := 15) hx hb dL_nextDay_9 (by decide) ?_
    refine lv_iconst (v := iZ 0) hx hb dL_nextDay_15 rfl ?_
    exact g_iretW (post := fun z M1 => z = (if 60 ≤ a ∧ a ≤ 600 then (0 : Int) else 1) ∧ ((if 60 ≤ a ∧ a ≤ 600 then (0 : Int) else 1) = 0 → ∃ (z9 : Int) (Mx : Nat → Nat → Int), (fun z M1 => (if 60 ≤ a ∧ a ≤ 600 then (0 : Int) else 1) = 0 ∧ z = (q_nxt R a) 0 ∧ q_act M M1 R (q_nxt R a) o n) z9 Mx ∧ M1 = q_wr Mx 178 0 (iZ z9).toInt) ∧ ((if 60 ≤ a ∧ a ≤ 600 then (0 : Int) else 1) ≠ 0 → q_cs M M1)) (z := 0) hx hb hr hG hlocks (⟨hp_4.1.symm, fun _ => ⟨z1, M2, hp_4, hM3⟩, fun h9 => absurd hp_4.1 h9⟩) dL_nextDay_16
set_option maxHeartbeats 4000000 in
set_option maxRecDepth 100000 in
theorem c_L_setRank (l : Launch) (G : gG) (M : Nat → Nat → Int) (hl0 : l.stackTraces = false) (hdm : ∀ k, k < 179 → gdm G k) (R : Nat → Int) (hR : q_tr M 0 R) (hI : q_inv R) (o n : Nat) (ho : o < 14) (hn : n ≤ 14) (hm1 : M 165 1 = (o : Int)) (hm2 : M 165 2 = (n : Int)) (a : Int) (ha9 : -2147483648 ≤ a ∧ a < 2147483648) : gMw l yL_setRank wsL_setRank ({ frames := 7, cells := 1, slots := 6, locals := 119 } : Room) G M [.ref (gad G 152), .int (iZ a), .ref (gad G 178)] (fun z M1 => z = (if q_isr a = true then (0 : Int) else 1) ∧ ((if q_isr a = true then (0 : Int) else 1) = 0 → ∃ (z9 : Int) (Mx : Nat → Nat → Int), (fun z M1 => (if q_isr a = true then (0 : Int) else 1) = 0 ∧ z = q_ct (fun i => decide (q_pl R i ≠ q_pl (q_srk R (fun k => q_kd a (5 - k))) i)) (q_nd R).toNat ∧ q_act M M1 R (q_srk R (fun k => q_kd a (5 - k))) o n) z9 Mx ∧ M1 = q_wr Mx 178 0 (iZ z9).toInt) ∧ ((if q_isr a = true then (0 : Int) else 1) ≠ 0 → q_cs M M1)) := by
  refine gMw_of (cc := cL_setRank) (maxL := 4) (ret := some .int) (by decide) rfl (Nat.le_of_ble_eq_true rfl) ?_
  intro p e s m below meth c ls hx hb hr hml hown hts hlocks htb hl hX hG
  have hown : s.vm.findClass RL = some m.cls := hown
  have hl : lv_has ls 4 [(0, .ref (gad G 152)), (1, .int (iZ a)), (2, .ref (gad G 178))] := hl
  refine lv_aload_n hx hb dL_setRank_0 rfl (lv_at hl 2 rfl) ?_
  refine lv_iconst (v := iZ 0) hx hb dL_setRank_1 rfl ?_
  refine lv_aload_n hx hb dL_setRank_2 rfl (lv_at hl 0 rfl) ?_
  refine lv_iload_n hx hb dL_setRank_3 rfl (lv_at hl 1 rfl) ?_
  refine g_callX (b := 152) (As := [.int (iZ a)]) (rest := [.int (iZ 0), .ref (gad G 178)]) ⟨hx, hb, hml, hown, hts⟩ (c_X5_setRank l G M hl0 hdm R hR hI o n ho hn hm1 hm2 a ha9) (cwV 1 hts gL_setRank_X5_setRank rfl rfl rfl (by decide +kernel) ⟨Nat.le_of_ble_eq_true rfl, Nat.le_of_ble_eq_true rfl⟩) hX hG (g_recv hG (b := 152) (hdm 152 (by decide)) rfl rfl) rfl hl.1 rfl (Nat.le_of_ble_eq_true rfl) dL_setRank_4 ⟨Nat.le_of_ble_eq_true rfl, Nat.le_of_ble_eq_true rfl⟩ (fun E9 M2 H locs ce9 q9 hpx hG hce hcv hcl => ?_) (fun z1 M2 H locs hp_4 hG => ?_)
  · skip
    obtain ⟨hE9, hfr9⟩ := hpx
    obtain ⟨hc9, rfl⟩ := hE9
    · refine vx_catch (name := "java/lang/IllegalArgumentException") hown [] ⟨0, 9, 12, 13⟩ [] (by rw [htb]; rfl) (fun z9 hz9 => nomatch hz9) (by decide) (by decide) (hts (.classLink RL 13 "java/lang/IllegalArgumentException") (by decide +kernel)) (va_Nw.use rfl hX.2.1) hce hcv hcl ?_
      refine lv_astore_n (lv' := [(3, .ref q9), (0, .ref (gad G 152)), (1, .int (iZ a)), (2, .ref (gad G 178))]) hx hb dL_setRank_12 rfl hl (by decide) rfl (fun ls hl => ?_)
      refine lv_iconst (v := iZ 1) hx hb dL_setRank_13 rfl ?_
      exact g_iretW (post := fun z M1 => z = (if q_isr a = true then (0 : Int) else 1) ∧ ((if q_isr a = true then (0 : Int) else 1) = 0 → ∃ (z9 : Int) (Mx : Nat → Nat → Int), (fun z M1 => (if q_isr a = true then (0 : Int) else 1) = 0 ∧ z = q_ct (fun i => decide (q_pl R i ≠ q_pl (q_srk R (fun k => q_kd a (5 - k))) i)) (q_nd R).toNat ∧ q_act M M1 R (q_srk R (fun k => q_kd a (5 - k))) o n) z9 Mx ∧ M1 = q_wr Mx 178 0 (iZ z9).toInt) ∧ ((if q_isr a = true then (0 : Int) else 1) ≠ 0 → q_cs M M1)) (z := 1) hx hb hr hG hlocks (⟨hc9.symm, fun h9 => absurd h9 (by rw [hc9]; decide), fun _ => hfr9⟩) dL_setRank_14
  · skip
    refine z_i2lw hx hb dL_setRank_7 ?_
    refine g_last (j := 0) hx hb hG (o := 178) (hdm 178 (by decide)) (fun f => rfl) (by omega) (by decide) (by decide) dL_setRank_8 (fun H locs hG => ?_)
    obtain ⟨M3, hM3⟩ : ∃ X, X = (q_wr M2 178 0 ((iZ z1).toInt)) := ⟨_, rfl⟩
    rw [← hM3] at hG
    refine lv_goto (tgt := 15) hx hb dL_setRank_9 (by decide) ?_
    refine lv_iconst (v := iZ 0) hx hb dL_setRank_15 rfl ?_
    exact g_iretW (post := fun z M1 => z = (if q_isr a = true then (0 : Int) else 1) ∧ ((if q_isr a = true then (0 : Int) else 1) = 0 → ∃ (z9 : Int) (Mx : Nat → Nat → Int), (fun z M1 => (if q_isr a = true then (0 : Int) else 1) = 0 ∧ z = q_ct (fun i => decide (q_pl R i ≠ q_pl (q_srk R (fun k => q_kd a (5 - k))) i)) (q_nd R).toNat ∧ q_act M M1 R (q_srk R (fun k => q_kd a (5 - k))) o n) z9 Mx ∧ M1 = q_wr Mx 178 0 (iZ z9).toInt) ∧ ((if q_isr a = true then (0 : Int) else 1) ≠ 0 → q_cs M M1)) (z := 0) hx hb hr hG hlocks (⟨hp_4.1.symm, fun _ => ⟨z1, M2, hp_4, hM3⟩, fun h9 => absurd hp_4.1 h9⟩) dL_setRank_16
set_option maxHeartbeats 4000000 in
set_option maxRecDepth 100000 in
theorem c_L_setDraw (l : Launch) (G : gG) (M : Nat → Nat → Int) (hl0 : l.stackTraces = false) (hdm : ∀ k, k < 179 → gdm G k) (R : Nat → Int) (hR : q_tr M 0 R) (hI : q_inv R) (o n : Nat) (ho : o < 14) (hn : n ≤ 14) (hm1 : M 165 1 = (o : Int)) (hm2 : M 165 2 = (n : Int)) (a : Int) (ha9 : -2147483648 ≤ a ∧ a < 2147483648) (b : Int) (hb9 : -2147483648 ≤ b ∧ b < 2147483648) : gMw l yL_setDraw wsL_setDraw ({ frames := 7, cells := 1, slots := 6, locals := 115 } : Room) G M [.ref (gad G 152), .int (iZ a), .int (iZ b), .ref (gad G 178)] (fun z M1 => z = (if ¬ (0 ≤ a ∧ a < q_nd R) then (1 : Int) else if ¬ (1 ≤ b ∧ b ≤ 99) then 2 else if q_dn R b a (q_nd R).toNat = true then 3 else 0) ∧ ((if ¬ (0 ≤ a ∧ a < q_nd R) then (1 : Int) else if ¬ (1 ≤ b ∧ b ≤ 99) then 2 else if q_dn R b a (q_nd R).toNat = true then 3 else 0) = 0 → ∃ (z9 : Int) (Mx : Nat → Nat → Int), (fun z M1 => (if ¬ (0 ≤ a ∧ a < q_nd R) then (1 : Int) else if ¬ (1 ≤ b ∧ b ≤ 99) then 2 else if q_dn R b a (q_nd R).toNat = true then 3 else 0) = 0 ∧ z = q_dr R a.toNat ∧ q_act M M1 R (q_sdr R a.toNat b) o n) z9 Mx ∧ M1 = q_wr Mx 178 0 (iZ z9).toInt) ∧ ((if ¬ (0 ≤ a ∧ a < q_nd R) then (1 : Int) else if ¬ (1 ≤ b ∧ b ≤ 99) then 2 else if q_dn R b a (q_nd R).toNat = true then 3 else 0) ≠ 0 → q_cs M M1)) := by
  refine gMw_of (cc := cL_setDraw) (maxL := 5) (ret := some .int) (by decide) rfl (Nat.le_of_ble_eq_true rfl) ?_
  intro p e s m below meth c ls hx hb hr hml hown hts hlocks htb hl hX hG
  have hown : s.vm.findClass RL = some m.cls := hown
  have hl : lv_has ls 5 [(0, .ref (gad G 152)), (1, .int (iZ a)), (2, .int (iZ b)), (3, .ref (gad G 178))] := hl
  refine lv_aload_n hx hb dL_setDraw_0 rfl (lv_at hl 3 rfl) ?_
  refine lv_iconst (v := iZ 0) hx hb dL_setDraw_1 rfl ?_
  refine lv_aload_n hx hb dL_setDraw_2 rfl (lv_at hl 0 rfl) ?_
  refine lv_iload_n hx hb dL_setDraw_3 rfl (lv_at hl 1 rfl) ?_
  refine lv_iload_n hx hb dL_setDraw_4 rfl (lv_at hl 2 rfl) ?_
  refine g_callX (b := 152) (As := [.int (iZ a), .int (iZ b)]) (rest := [.int (iZ 0), .ref (gad G 178)]) ⟨hx, hb, hml, hown, hts⟩ (c_X5_setDraw l G M hl0 hdm R hR hI o n ho hn hm1 hm2 a ha9 b hb9) (cwV 2 hts gL_setDraw_X5_setDraw rfl rfl rfl (by decide +kernel) ⟨Nat.le_of_ble_eq_true rfl, Nat.le_of_ble_eq_true rfl⟩) hX hG (g_recv hG (b := 152) (hdm 152 (by decide)) rfl rfl) rfl hl.1 rfl (Nat.le_of_ble_eq_true rfl) dL_setDraw_5 ⟨Nat.le_of_ble_eq_true rfl, Nat.le_of_ble_eq_true rfl⟩ (fun E9 M2 H locs ce9 q9 hpx hG hce hcv hcl => ?_) (fun z1 M2 H locs hp_5 hG => ?_)
  · skip
    obtain ⟨hE9, hfr9⟩ := hpx
    rcases hE9 with ⟨hc9, rfl⟩ | ⟨hc9, rfl⟩ | ⟨hc9, rfl⟩
    · refine vx_catch (name := "java/lang/IndexOutOfBoundsException") hown [] ⟨0, 10, 13, 28⟩ [⟨0, 10, 17, 13⟩, ⟨0, 10, 21, 15⟩] (by rw [htb]; rfl) (fun z9 hz9 => nomatch hz9) (by decide) (by decide) (hts (.classLink RL 28 "java/lang/IndexOutOfBoundsException") (by decide +kernel)) (va_Nw.use rfl hX.2.2.2.1) hce hcv hcl ?_
      refine lv_astore (lv' := [(4, .ref q9), (0, .ref (gad G 152)), (1, .int (iZ a)), (2, .int (iZ b)), (3, .ref (gad G 178))]) hx hb dL_setDraw_13 hl (by decide) rfl (fun ls hl => ?_)
      refine lv_iconst (v := iZ 1) hx hb dL_setDraw_15 rfl ?_
      exact g_iretW (post := fun z M1 => z = (if ¬ (0 ≤ a ∧ a < q_nd R) then (1 : Int) else if ¬ (1 ≤ b ∧ b ≤ 99) then 2 else if q_dn R b a (q_nd R).toNat = true then 3 else 0) ∧ ((if ¬ (0 ≤ a ∧ a < q_nd R) then (1 : Int) else if ¬ (1 ≤ b ∧ b ≤ 99) then 2 else if q_dn R b a (q_nd R).toNat = true then 3 else 0) = 0 → ∃ (z9 : Int) (Mx : Nat → Nat → Int), (fun z M1 => (if ¬ (0 ≤ a ∧ a < q_nd R) then (1 : Int) else if ¬ (1 ≤ b ∧ b ≤ 99) then 2 else if q_dn R b a (q_nd R).toNat = true then 3 else 0) = 0 ∧ z = q_dr R a.toNat ∧ q_act M M1 R (q_sdr R a.toNat b) o n) z9 Mx ∧ M1 = q_wr Mx 178 0 (iZ z9).toInt) ∧ ((if ¬ (0 ≤ a ∧ a < q_nd R) then (1 : Int) else if ¬ (1 ≤ b ∧ b ≤ 99) then 2 else if q_dn R b a (q_nd R).toNat = true then 3 else 0) ≠ 0 → q_cs M M1)) (z := 1) hx hb hr hG hlocks (⟨hc9.symm, fun h9 => absurd h9 (by rw [hc9]; decide), fun _ => hfr9⟩) dL_setDraw_16
    · refine vx_catch (name := "java/lang/IllegalArgumentException") hown [⟨0, 10, 13, 28⟩] ⟨0, 10, 17, 13⟩ [⟨0, 10, 21, 15⟩] (by rw [htb]; rfl) (fun z9 hz9 => by simp only [List.mem_cons, List.not_mem_nil, or_false] at hz9; subst hz9; exact Or.inr ⟨by decide, "java/lang/IndexOutOfBoundsException", hts (.classLink RL 28 "java/lang/IndexOutOfBoundsException") (by decide +kernel), hX.2.2.2.2.2.1⟩) (by decide) (by decide) (hts (.classLink RL 13 "java/lang/IllegalArgumentException") (by decide +kernel)) (va_Nw.use rfl hX.2.1) hce hcv hcl ?_
      refine lv_astore (lv' := [(4, .ref q9), (0, .ref (gad G 152)), (1, .int (iZ a)), (2, .int (iZ b)), (3, .ref (gad G 178))]) hx hb dL_setDraw_17 hl (by decide) rfl (fun ls hl => ?_)
      refine lv_iconst (v := iZ 2) hx hb dL_setDraw_19 rfl ?_
      exact g_iretW (post := fun z M1 => z = (if ¬ (0 ≤ a ∧ a < q_nd R) then (1 : Int) else if ¬ (1 ≤ b ∧ b ≤ 99) then 2 else if q_dn R b a (q_nd R).toNat = true then 3 else 0) ∧ ((if ¬ (0 ≤ a ∧ a < q_nd R) then (1 : Int) else if ¬ (1 ≤ b ∧ b ≤ 99) then 2 else if q_dn R b a (q_nd R).toNat = true then 3 else 0) = 0 → ∃ (z9 : Int) (Mx : Nat → Nat → Int), (fun z M1 => (if ¬ (0 ≤ a ∧ a < q_nd R) then (1 : Int) else if ¬ (1 ≤ b ∧ b ≤ 99) then 2 else if q_dn R b a (q_nd R).toNat = true then 3 else 0) = 0 ∧ z = q_dr R a.toNat ∧ q_act M M1 R (q_sdr R a.toNat b) o n) z9 Mx ∧ M1 = q_wr Mx 178 0 (iZ z9).toInt) ∧ ((if ¬ (0 ≤ a ∧ a < q_nd R) then (1 : Int) else if ¬ (1 ≤ b ∧ b ≤ 99) then 2 else if q_dn R b a (q_nd R).toNat = true then 3 else 0) ≠ 0 → q_cs M M1)) (z := 2) hx hb hr hG hlocks (⟨hc9.symm, fun h9 => absurd h9 (by rw [hc9]; decide), fun _ => hfr9⟩) dL_setDraw_20
    · refine vx_catch (name := "java/lang/IllegalStateException") hown [⟨0, 10, 13, 28⟩, ⟨0, 10, 17, 13⟩] ⟨0, 10, 21, 15⟩ [] (by rw [htb]; rfl) (fun z9 hz9 => by simp only [List.mem_cons, List.not_mem_nil, or_false] at hz9; rcases hz9 with rfl | rfl; (exact Or.inr ⟨by decide, "java/lang/IndexOutOfBoundsException", hts (.classLink RL 28 "java/lang/IndexOutOfBoundsException") (by decide +kernel), hX.2.2.2.2.2.2.1⟩); (exact Or.inr ⟨by decide, "java/lang/IllegalArgumentException", hts (.classLink RL 13 "java/lang/IllegalArgumentException") (by decide +kernel), hX.2.2.2.2.1⟩)) (by decide) (by decide) (hts (.classLink RL 15 "java/lang/IllegalStateException") (by decide +kernel)) (va_Nw.use rfl hX.2.2.1) hce hcv hcl ?_
      refine lv_astore (lv' := [(4, .ref q9), (0, .ref (gad G 152)), (1, .int (iZ a)), (2, .int (iZ b)), (3, .ref (gad G 178))]) hx hb dL_setDraw_21 hl (by decide) rfl (fun ls hl => ?_)
      refine lv_iconst (v := iZ 3) hx hb dL_setDraw_23 rfl ?_
      exact g_iretW (post := fun z M1 => z = (if ¬ (0 ≤ a ∧ a < q_nd R) then (1 : Int) else if ¬ (1 ≤ b ∧ b ≤ 99) then 2 else if q_dn R b a (q_nd R).toNat = true then 3 else 0) ∧ ((if ¬ (0 ≤ a ∧ a < q_nd R) then (1 : Int) else if ¬ (1 ≤ b ∧ b ≤ 99) then 2 else if q_dn R b a (q_nd R).toNat = true then 3 else 0) = 0 → ∃ (z9 : Int) (Mx : Nat → Nat → Int), (fun z M1 => (if ¬ (0 ≤ a ∧ a < q_nd R) then (1 : Int) else if ¬ (1 ≤ b ∧ b ≤ 99) then 2 else if q_dn R b a (q_nd R).toNat = true then 3 else 0) = 0 ∧ z = q_dr R a.toNat ∧ q_act M M1 R (q_sdr R a.toNat b) o n) z9 Mx ∧ M1 = q_wr Mx 178 0 (iZ z9).toInt) ∧ ((if ¬ (0 ≤ a ∧ a < q_nd R) then (1 : Int) else if ¬ (1 ≤ b ∧ b ≤ 99) then 2 else if q_dn R b a (q_nd R).toNat = true then 3 else 0) ≠ 0 → q_cs M M1)) (z := 3) hx hb hr hG hlocks (⟨hc9.symm, fun h9 => absurd h9 (by rw [hc9]; decide), fun _ => hfr9⟩) dL_setDraw_24
  · skip
    refine z_i2lw hx hb dL_setDraw_8 ?_
    refine g_last (j := 0) hx hb hG (o := 178) (hdm 178 (by decide)) (fun f => rfl) (by omega) (by decide) (by decide) dL_setDraw_9 (fun H locs hG => ?_)
    obtain ⟨M3, hM3⟩ : ∃ X, X = (q_wr M2 178 0 ((iZ z1).toInt)) := ⟨_, rfl⟩
    rw [← hM3] at hG
    refine lv_goto (tgt := 25) hx hb dL_setDraw_10 (by decide) ?_
    refine lv_iconst (v := iZ 0) hx hb dL_setDraw_25 rfl ?_
    exact g_iretW (post := fun z M1 => z = (if ¬ (0 ≤ a ∧ a < q_nd R) then (1 : Int) else if ¬ (1 ≤ b ∧ b ≤ 99) then 2 else if q_dn R b a (q_nd R).toNat = true then 3 else 0) ∧ ((if ¬ (0 ≤ a ∧ a < q_nd R) then (1 : Int) else if ¬ (1 ≤ b ∧ b ≤ 99) then 2 else if q_dn R b a (q_nd R).toNat = true then 3 else 0) = 0 → ∃ (z9 : Int) (Mx : Nat → Nat → Int), (fun z M1 => (if ¬ (0 ≤ a ∧ a < q_nd R) then (1 : Int) else if ¬ (1 ≤ b ∧ b ≤ 99) then 2 else if q_dn R b a (q_nd R).toNat = true then 3 else 0) = 0 ∧ z = q_dr R a.toNat ∧ q_act M M1 R (q_sdr R a.toNat b) o n) z9 Mx ∧ M1 = q_wr Mx 178 0 (iZ z9).toInt) ∧ ((if ¬ (0 ≤ a ∧ a < q_nd R) then (1 : Int) else if ¬ (1 ≤ b ∧ b ≤ 99) then 2 else if q_dn R b a (q_nd R).toNat = true then 3 else 0) ≠ 0 → q_cs M M1)) (z := 0) hx hb hr hG hlocks (⟨hp_5.1.symm, fun _ => ⟨z1, M2, hp_5, hM3⟩, fun h9 => absurd hp_5.1 h9⟩) dL_setDraw_26
set_option maxHeartbeats 4000000 in
set_option maxRecDepth 100000 in
theorem c_L_run (l : Launch) (G : gG) (M : Nat → Nat → Int) (hl0 : l.stackTraces = false) (hdm : ∀ k, k < 179 → gdm G k) (R : Nat → Int) (hR : q_tr M 0 R) (hI : q_inv R) (o n : Nat) (ho : o < 14) (hn : n ≤ 14) (hm1 : M 165 1 = (o : Int)) (hm2 : M 165 2 = (n : Int)) (v : Int) (hv9 : -9223372036854775808 ≤ v ∧ v < 9223372036854775808) (b : Int) (hb9 : -2147483648 ≤ b ∧ b < 2147483648) : gMw l yL_run wsL_run ({ frames := 7, cells := 1, slots := 6, locals := 115 } : Room) G M [.ref (gad G 152), .long (lZ v), .int (iZ b), .ref (gad G 178)] (fun z M1 => z = (if ¬ (q_ptb v 6 = true ∧ 1 ≤ b ∧ b ≤ 30) then (1 : Int) else if q_ob R ≠ 0 then 2 else 0) ∧ ((if ¬ (q_ptb v 6 = true ∧ 1 ≤ b ∧ b ≤ 30) then (1 : Int) else if q_ob R ≠ 0 then 2 else 0) = 0 → ∃ (z9 : Int) (Mx : Nat → Nat → Int), (fun z M1 => (if ¬ (q_ptb v 6 = true ∧ 1 ≤ b ∧ b ≤ 30) then (1 : Int) else if q_ob R ≠ 0 then 2 else 0) = 0 ∧ z = (if q_rz R b = 1 then q_sc (q_rno R (q_first R).toNat b (q_dig v)) (q_first R).toNat else -9) ∧ q_act M M1 R ((q_rno R (q_first R).toNat b (q_dig v))) o n) z9 Mx ∧ M1 = q_wr Mx 178 0 (iZ z9).toInt) ∧ ((if ¬ (q_ptb v 6 = true ∧ 1 ≤ b ∧ b ≤ 30) then (1 : Int) else if q_ob R ≠ 0 then 2 else 0) ≠ 0 → q_cs M M1)) := by
  refine gMw_of (cc := cL_run) (maxL := 6) (ret := some .int) (by decide) rfl (Nat.le_of_ble_eq_true rfl) ?_
  intro p e s m below meth c ls hx hb hr hml hown hts hlocks htb hl hX hG
  have hown : s.vm.findClass RL = some m.cls := hown
  have hl : lv_has ls 6 [(0, .ref (gad G 152)), (1, .long (lZ v)), (3, .int (iZ b)), (4, .ref (gad G 178))] := hl
  refine lv_aload hx hb dL_run_0 (lv_at hl 3 rfl) ?_
  refine lv_iconst (v := iZ 0) hx hb dL_run_2 rfl ?_
  refine lv_aload_n hx hb dL_run_3 rfl (lv_at hl 0 rfl) ?_
  refine lv_lload_n hx hb dL_run_4 rfl (lv_at hl 1 rfl) ?_
  refine lv_iload_n hx hb dL_run_5 rfl (lv_at hl 2 rfl) ?_
  refine g_callX (b := 152) (As := [.long (lZ v), .int (iZ b)]) (rest := [.int (iZ 0), .ref (gad G 178)]) ⟨hx, hb, hml, hown, hts⟩ (c_X5_run l G M hl0 hdm R hR hI o n ho hn hm1 hm2 v hv9 b hb9) (cwV 2 hts gL_run_X5_run rfl rfl rfl (by decide +kernel) ⟨Nat.le_of_ble_eq_true rfl, Nat.le_of_ble_eq_true rfl⟩) hX hG (g_recv hG (b := 152) (hdm 152 (by decide)) rfl rfl) rfl hl.1 rfl (Nat.le_of_ble_eq_true rfl) dL_run_6 ⟨Nat.le_of_ble_eq_true rfl, Nat.le_of_ble_eq_true rfl⟩ (fun E9 M2 H locs ce9 q9 hpx hG hce hcv hcl => ?_) (fun z1 M2 H locs hp_6 hG => ?_)
  · skip
    obtain ⟨hE9, hfr9⟩ := hpx
    rcases hE9 with ⟨hc9, rfl⟩ | ⟨hc9, rfl⟩
    · refine vx_catch (name := "java/lang/IllegalArgumentException") hown [] ⟨0, 11, 14, 13⟩ [⟨0, 11, 18, 15⟩] (by rw [htb]; rfl) (fun z9 hz9 => nomatch hz9) (by decide) (by decide) (hts (.classLink RL 13 "java/lang/IllegalArgumentException") (by decide +kernel)) (va_Nw.use rfl hX.2.1) hce hcv hcl ?_
      refine lv_astore (lv' := [(5, .ref q9), (0, .ref (gad G 152)), (1, .long (lZ v)), (3, .int (iZ b)), (4, .ref (gad G 178))]) hx hb dL_run_14 hl (by decide) rfl (fun ls hl => ?_)
      refine lv_iconst (v := iZ 1) hx hb dL_run_16 rfl ?_
      exact g_iretW (post := fun z M1 => z = (if ¬ (q_ptb v 6 = true ∧ 1 ≤ b ∧ b ≤ 30) then (1 : Int) else if q_ob R ≠ 0 then 2 else 0) ∧ ((if ¬ (q_ptb v 6 = true ∧ 1 ≤ b ∧ b ≤ 30) then (1 : Int) else if q_ob R ≠ 0 then 2 else 0) = 0 → ∃ (z9 : Int) (Mx : Nat → Nat → Int), (fun z M1 => (if ¬ (q_ptb v 6 = true ∧ 1 ≤ b ∧ b ≤ 30) then (1 : Int) else if q_ob R ≠ 0 then 2 else 0) = 0 ∧ z = (if q_rz R b = 1 then q_sc (q_rno R (q_first R).toNat b (q_dig v)) (q_first R).toNat else -9) ∧ q_act M M1 R ((q_rno R (q_first R).toNat b (q_dig v))) o n) z9 Mx ∧ M1 = q_wr Mx 178 0 (iZ z9).toInt) ∧ ((if ¬ (q_ptb v 6 = true ∧ 1 ≤ b ∧ b ≤ 30) then (1 : Int) else if q_ob R ≠ 0 then 2 else 0) ≠ 0 → q_cs M M1)) (z := 1) hx hb hr hG hlocks (⟨hc9.symm, fun h9 => absurd h9 (by rw [hc9]; decide), fun _ => hfr9⟩) dL_run_17
    · refine vx_catch (name := "java/lang/IllegalStateException") hown [⟨0, 11, 14, 13⟩] ⟨0, 11, 18, 15⟩ [] (by rw [htb]; rfl) (fun z9 hz9 => by simp only [List.mem_cons, List.not_mem_nil, or_false] at hz9; subst hz9; exact Or.inr ⟨by decide, "java/lang/IllegalArgumentException", hts (.classLink RL 13 "java/lang/IllegalArgumentException") (by decide +kernel), hX.2.2.2.2.1⟩) (by decide) (by decide) (hts (.classLink RL 15 "java/lang/IllegalStateException") (by decide +kernel)) (va_Nw.use rfl hX.2.2.1) hce hcv hcl ?_
      refine lv_astore (lv' := [(5, .ref q9), (0, .ref (gad G 152)), (1, .long (lZ v)), (3, .int (iZ b)), (4, .ref (gad G 178))]) hx hb dL_run_18 hl (by decide) rfl (fun ls hl => ?_)
      refine lv_iconst (v := iZ 2) hx hb dL_run_20 rfl ?_
      exact g_iretW (post := fun z M1 => z = (if ¬ (q_ptb v 6 = true ∧ 1 ≤ b ∧ b ≤ 30) then (1 : Int) else if q_ob R ≠ 0 then 2 else 0) ∧ ((if ¬ (q_ptb v 6 = true ∧ 1 ≤ b ∧ b ≤ 30) then (1 : Int) else if q_ob R ≠ 0 then 2 else 0) = 0 → ∃ (z9 : Int) (Mx : Nat → Nat → Int), (fun z M1 => (if ¬ (q_ptb v 6 = true ∧ 1 ≤ b ∧ b ≤ 30) then (1 : Int) else if q_ob R ≠ 0 then 2 else 0) = 0 ∧ z = (if q_rz R b = 1 then q_sc (q_rno R (q_first R).toNat b (q_dig v)) (q_first R).toNat else -9) ∧ q_act M M1 R ((q_rno R (q_first R).toNat b (q_dig v))) o n) z9 Mx ∧ M1 = q_wr Mx 178 0 (iZ z9).toInt) ∧ ((if ¬ (q_ptb v 6 = true ∧ 1 ≤ b ∧ b ≤ 30) then (1 : Int) else if q_ob R ≠ 0 then 2 else 0) ≠ 0 → q_cs M M1)) (z := 2) hx hb hr hG hlocks (⟨hc9.symm, fun h9 => absurd h9 (by rw [hc9]; decide), fun _ => hfr9⟩) dL_run_21
  · skip
    refine z_i2lw hx hb dL_run_9 ?_
    refine g_last (j := 0) hx hb hG (o := 178) (hdm 178 (by decide)) (fun f => rfl) (by omega) (by decide) (by decide) dL_run_10 (fun H locs hG => ?_)
    obtain ⟨M3, hM3⟩ : ∃ X, X = (q_wr M2 178 0 ((iZ z1).toInt)) := ⟨_, rfl⟩
    rw [← hM3] at hG
    refine lv_goto (tgt := 22) hx hb dL_run_11 (by decide) ?_
    refine lv_iconst (v := iZ 0) hx hb dL_run_22 rfl ?_
    exact g_iretW (post := fun z M1 => z = (if ¬ (q_ptb v 6 = true ∧ 1 ≤ b ∧ b ≤ 30) then (1 : Int) else if q_ob R ≠ 0 then 2 else 0) ∧ ((if ¬ (q_ptb v 6 = true ∧ 1 ≤ b ∧ b ≤ 30) then (1 : Int) else if q_ob R ≠ 0 then 2 else 0) = 0 → ∃ (z9 : Int) (Mx : Nat → Nat → Int), (fun z M1 => (if ¬ (q_ptb v 6 = true ∧ 1 ≤ b ∧ b ≤ 30) then (1 : Int) else if q_ob R ≠ 0 then 2 else 0) = 0 ∧ z = (if q_rz R b = 1 then q_sc (q_rno R (q_first R).toNat b (q_dig v)) (q_first R).toNat else -9) ∧ q_act M M1 R ((q_rno R (q_first R).toNat b (q_dig v))) o n) z9 Mx ∧ M1 = q_wr Mx 178 0 (iZ z9).toInt) ∧ ((if ¬ (q_ptb v 6 = true ∧ 1 ≤ b ∧ b ≤ 30) then (1 : Int) else if q_ob R ≠ 0 then 2 else 0) ≠ 0 → q_cs M M1)) (z := 0) hx hb hr hG hlocks (⟨hp_6.1.symm, fun _ => ⟨z1, M2, hp_6, hM3⟩, fun h9 => absurd hp_6.1 h9⟩) dL_run_23
set_option maxHeartbeats 4000000 in
set_option maxRecDepth 100000 in
theorem c_L_undo (l : Launch) (G : gG) (M : Nat → Nat → Int) (hl0 : l.stackTraces = false) (hdm : ∀ k, k < 179 → gdm G k) (o n : Nat) (ho : o < 14) (hn : n ≤ 14) (hm1 : M 165 1 = (o : Int)) (hm2 : M 165 2 = (n : Int)) (P : Nat → Int) (hP : 0 < n → q_tr M (q_slot o (n - 1)) P ∧ q_inv P) : gMw l yL_undo wsL_undo ({ frames := 7, cells := 1, slots := 6, locals := 111 } : Room) G M [.ref (gad G 152), .ref (gad G 178)] (fun z M1 => z = (if n = 0 then (1 : Int) else 0) ∧ ((if n = 0 then (1 : Int) else 0) = 0 → ∃ (z9 : Int) (Mx : Nat → Nat → Int), (fun z M1 => (if n = 0 then (1 : Int) else 0) = 0 ∧ z = (n : Int) - 1 ∧ M1 165 1 = (o : Int) ∧ M1 165 2 = ((n - 1 : Nat) : Int) ∧ q_tr M1 0 P ∧ ∀ a, a ≠ 165 → 8 ≤ a → M1 a = M a) z9 Mx ∧ M1 = q_wr Mx 178 0 (iZ z9).toInt) ∧ ((if n = 0 then (1 : Int) else 0) ≠ 0 → q_cs M M1)) := by
  refine gMw_of (cc := cL_undo) (maxL := 3) (ret := some .int) (by decide) rfl (Nat.le_of_ble_eq_true rfl) ?_
  intro p e s m below meth c ls hx hb hr hml hown hts hlocks htb hl hX hG
  have hown : s.vm.findClass RL = some m.cls := hown
  have hl : lv_has ls 3 [(0, .ref (gad G 152)), (1, .ref (gad G 178))] := hl
  refine lv_aload_n hx hb dL_undo_0 rfl (lv_at hl 1 rfl) ?_
  refine lv_iconst (v := iZ 0) hx hb dL_undo_1 rfl ?_
  refine lv_aload_n hx hb dL_undo_2 rfl (lv_at hl 0 rfl) ?_
  refine g_callX (b := 152) (As := []) (rest := [.int (iZ 0), .ref (gad G 178)]) ⟨hx, hb, hml, hown, hts⟩ (c_X5_undo l G M hl0 hdm o n ho hn hm1 hm2 P hP) (cwV 0 hts gL_undo_X5_undo rfl rfl rfl (by decide +kernel) ⟨Nat.le_of_ble_eq_true rfl, Nat.le_of_ble_eq_true rfl⟩) hX hG (g_recv hG (b := 152) (hdm 152 (by decide)) rfl rfl) rfl hl.1 rfl (Nat.le_of_ble_eq_true rfl) dL_undo_3 ⟨Nat.le_of_ble_eq_true rfl, Nat.le_of_ble_eq_true rfl⟩ (fun E9 M2 H locs ce9 q9 hpx hG hce hcv hcl => ?_) (fun z1 M2 H locs hp_3 hG => ?_)
  · skip
    obtain ⟨hE9, hfr9⟩ := hpx
    obtain ⟨hc9, rfl⟩ := hE9
    · refine vx_catch (name := "java/lang/IllegalStateException") hown [] ⟨0, 8, 11, 15⟩ [] (by rw [htb]; rfl) (fun z9 hz9 => nomatch hz9) (by decide) (by decide) (hts (.classLink RL 15 "java/lang/IllegalStateException") (by decide +kernel)) (va_Nw.use rfl hX.2.2.1) hce hcv hcl ?_
      refine lv_astore_n (lv' := [(2, .ref q9), (0, .ref (gad G 152)), (1, .ref (gad G 178))]) hx hb dL_undo_11 rfl hl (by decide) rfl (fun ls hl => ?_)
      refine lv_iconst (v := iZ 1) hx hb dL_undo_12 rfl ?_
      exact g_iretW (post := fun z M1 => z = (if n = 0 then (1 : Int) else 0) ∧ ((if n = 0 then (1 : Int) else 0) = 0 → ∃ (z9 : Int) (Mx : Nat → Nat → Int), (fun z M1 => (if n = 0 then (1 : Int) else 0) = 0 ∧ z = (n : Int) - 1 ∧ M1 165 1 = (o : Int) ∧ M1 165 2 = ((n - 1 : Nat) : Int) ∧ q_tr M1 0 P ∧ ∀ a, a ≠ 165 → 8 ≤ a → M1 a = M a) z9 Mx ∧ M1 = q_wr Mx 178 0 (iZ z9).toInt) ∧ ((if n = 0 then (1 : Int) else 0) ≠ 0 → q_cs M M1)) (z := 1) hx hb hr hG hlocks (⟨hc9.symm, fun h9 => absurd h9 (by rw [hc9]; decide), fun _ => hfr9⟩) dL_undo_13
  · skip
    refine z_i2lw hx hb dL_undo_6 ?_
    refine g_last (j := 0) hx hb hG (o := 178) (hdm 178 (by decide)) (fun f => rfl) (by omega) (by decide) (by decide) dL_undo_7 (fun H locs hG => ?_)
    obtain ⟨M3, hM3⟩ : ∃ X, X = (q_wr M2 178 0 ((iZ z1).toInt)) := ⟨_, rfl⟩
    rw [← hM3] at hG
    refine lv_goto (tgt := 14) hx hb dL_undo_8 (by decide) ?_
    refine lv_iconst (v := iZ 0) hx hb dL_undo_14 rfl ?_
    exact g_iretW (post := fun z M1 => z = (if n = 0 then (1 : Int) else 0) ∧ ((if n = 0 then (1 : Int) else 0) = 0 → ∃ (z9 : Int) (Mx : Nat → Nat → Int), (fun z M1 => (if n = 0 then (1 : Int) else 0) = 0 ∧ z = (n : Int) - 1 ∧ M1 165 1 = (o : Int) ∧ M1 165 2 = ((n - 1 : Nat) : Int) ∧ q_tr M1 0 P ∧ ∀ a, a ≠ 165 → 8 ≤ a → M1 a = M a) z9 Mx ∧ M1 = q_wr Mx 178 0 (iZ z9).toInt) ∧ ((if n = 0 then (1 : Int) else 0) ≠ 0 → q_cs M M1)) (z := 0) hx hb hr hG hlocks (⟨hp_3.1.symm, fun _ => ⟨z1, M2, hp_3, hM3⟩, fun h9 => absurd hp_3.1 h9⟩) dL_undo_15
set_option maxHeartbeats 4000000 in
set_option maxRecDepth 100000 in
theorem c_L_save (l : Launch) (G : gG) (M : Nat → Nat → Int) (hl0 : l.stackTraces = false) (hdm : ∀ k, k < 179 → gdm G k) (R : Nat → Int) (hR : q_tr M 0 R) (hI : q_inv R) (a : Int) (ha9 : -2147483648 ≤ a ∧ a < 2147483648) : gMw l yL_save wsL_save ({ frames := 7, cells := 1, slots := 6, locals := 111 } : Room) G M [.ref (gad G 152), .int (iZ a), .ref (gad G 178)] (fun z M1 => z = (if 0 ≤ a ∧ a ≤ 1 then (0 : Int) else 1) ∧ ((if 0 ≤ a ∧ a ≤ 1 then (0 : Int) else 1) = 0 → ∃ (z9 : Int) (Mx : Nat → Nat → Int), (fun z M1 => (if 0 ≤ a ∧ a ≤ 1 then (0 : Int) else 1) = 0 ∧ z = q_nrun R ∧ q_tr M1 (24 + 8 * a.toNat) R ∧ (M1 154 a.toNat = 1 ∧ ∀ b : Nat, b ≠ a.toNat → M1 154 b = M 154 b) ∧ ∀ x, x ≠ 154 → (x < 24 + 8 * a.toNat ∨ 24 + 8 * a.toNat + 8 ≤ x) → M1 x = M x) z9 Mx ∧ M1 = q_wr Mx 178 0 (iZ z9).toInt) ∧ ((if 0 ≤ a ∧ a ≤ 1 then (0 : Int) else 1) ≠ 0 → q_cs M M1)) := by
  refine gMw_of (cc := cL_save) (maxL := 4) (ret := some .int) (by decide) rfl (Nat.le_of_ble_eq_true rfl) ?_
  intro p e s m below meth c ls hx hb hr hml hown hts hlocks htb hl hX hG
  have hown : s.vm.findClass RL = some m.cls := hown
  have hl : lv_has ls 4 [(0, .ref (gad G 152)), (1, .int (iZ a)), (2, .ref (gad G 178))] := hl
  refine lv_aload_n hx hb dL_save_0 rfl (lv_at hl 2 rfl) ?_
  refine lv_iconst (v := iZ 0) hx hb dL_save_1 rfl ?_
  refine lv_aload_n hx hb dL_save_2 rfl (lv_at hl 0 rfl) ?_
  refine lv_iload_n hx hb dL_save_3 rfl (lv_at hl 1 rfl) ?_
  refine g_callX (b := 152) (As := [.int (iZ a)]) (rest := [.int (iZ 0), .ref (gad G 178)]) ⟨hx, hb, hml, hown, hts⟩ (c_X5_save l G M hl0 hdm R hR hI a ha9) (cwV 1 hts gL_save_X5_save rfl rfl rfl (by decide +kernel) ⟨Nat.le_of_ble_eq_true rfl, Nat.le_of_ble_eq_true rfl⟩) hX hG (g_recv hG (b := 152) (hdm 152 (by decide)) rfl rfl) rfl hl.1 rfl (Nat.le_of_ble_eq_true rfl) dL_save_4 ⟨Nat.le_of_ble_eq_true rfl, Nat.le_of_ble_eq_true rfl⟩ (fun E9 M2 H locs ce9 q9 hpx hG hce hcv hcl => ?_) (fun z1 M2 H locs hp_4 hG => ?_)
  · skip
    obtain ⟨hE9, hfr9⟩ := hpx
    obtain ⟨hc9, rfl⟩ := hE9
    · refine vx_catch (name := "java/lang/IndexOutOfBoundsException") hown [] ⟨0, 9, 12, 28⟩ [] (by rw [htb]; rfl) (fun z9 hz9 => nomatch hz9) (by decide) (by decide) (hts (.classLink RL 28 "java/lang/IndexOutOfBoundsException") (by decide +kernel)) (va_Nw.use rfl hX.2.2.2.1) hce hcv hcl ?_
      refine lv_astore_n (lv' := [(3, .ref q9), (0, .ref (gad G 152)), (1, .int (iZ a)), (2, .ref (gad G 178))]) hx hb dL_save_12 rfl hl (by decide) rfl (fun ls hl => ?_)
      refine lv_iconst (v := iZ 1) hx hb dL_save_13 rfl ?_
      exact g_iretW (post := fun z M1 => z = (if 0 ≤ a ∧ a ≤ 1 then (0 : Int) else 1) ∧ ((if 0 ≤ a ∧ a ≤ 1 then (0 : Int) else 1) = 0 → ∃ (z9 : Int) (Mx : Nat → Nat → Int), (fun z M1 => (if 0 ≤ a ∧ a ≤ 1 then (0 : Int) else 1) = 0 ∧ z = q_nrun R ∧ q_tr M1 (24 + 8 * a.toNat) R ∧ (M1 154 a.toNat = 1 ∧ ∀ b : Nat, b ≠ a.toNat → M1 154 b = M 154 b) ∧ ∀ x, x ≠ 154 → (x < 24 + 8 * a.toNat ∨ 24 + 8 * a.toNat + 8 ≤ x) → M1 x = M x) z9 Mx ∧ M1 = q_wr Mx 178 0 (iZ z9).toInt) ∧ ((if 0 ≤ a ∧ a ≤ 1 then (0 : Int) else 1) ≠ 0 → q_cs M M1)) (z := 1) hx hb hr hG hlocks (⟨hc9.symm, fun h9 => absurd h9 (by rw [hc9]; decide), fun _ => hfr9⟩) dL_save_14
  · skip
    refine z_i2lw hx hb dL_save_7 ?_
    refine g_last (j := 0) hx hb hG (o := 178) (hdm 178 (by decide)) (fun f => rfl) (by omega) (by decide) (by decide) dL_save_8 (fun H locs hG => ?_)
    obtain ⟨M3, hM3⟩ : ∃ X, X = (q_wr M2 178 0 ((iZ z1).toInt)) := ⟨_, rfl⟩
    rw [← hM3] at hG
    refine lv_goto (tgt := 15) hx hb dL_save_9 (by decide) ?_
    refine lv_iconst (v := iZ 0) hx hb dL_save_15 rfl ?_
    exact g_iretW (post := fun z M1 => z = (if 0 ≤ a ∧ a ≤ 1 then (0 : Int) else 1) ∧ ((if 0 ≤ a ∧ a ≤ 1 then (0 : Int) else 1) = 0 → ∃ (z9 : Int) (Mx : Nat → Nat → Int), (fun z M1 => (if 0 ≤ a ∧ a ≤ 1 then (0 : Int) else 1) = 0 ∧ z = q_nrun R ∧ q_tr M1 (24 + 8 * a.toNat) R ∧ (M1 154 a.toNat = 1 ∧ ∀ b : Nat, b ≠ a.toNat → M1 154 b = M 154 b) ∧ ∀ x, x ≠ 154 → (x < 24 + 8 * a.toNat ∨ 24 + 8 * a.toNat + 8 ≤ x) → M1 x = M x) z9 Mx ∧ M1 = q_wr Mx 178 0 (iZ z9).toInt) ∧ ((if 0 ≤ a ∧ a ≤ 1 then (0 : Int) else 1) ≠ 0 → q_cs M M1)) (z := 0) hx hb hr hG hlocks (⟨hp_4.1.symm, fun _ => ⟨z1, M2, hp_4, hM3⟩, fun h9 => absurd hp_4.1 h9⟩) dL_save_16
set_option maxHeartbeats 4000000 in
set_option maxRecDepth 100000 in
theorem c_L_restore (l : Launch) (G : gG) (M : Nat → Nat → Int) (hl0 : l.stackTraces = false) (hdm : ∀ k, k < 179 → gdm G k) (a : Int) (ha9 : -2147483648 ≤ a ∧ a < 2147483648) (hsv : ∀ j : Nat, j < 2 → M 154 j = 0 ∨ M 154 j = 1) (K : Nat → Int) (hK : M 154 a.toNat = 1 → q_tr M (24 + 8 * a.toNat) K ∧ q_inv K) : gMw l yL_restore wsL_restore ({ frames := 7, cells := 1, slots := 6, locals := 111 } : Room) G M [.ref (gad G 152), .int (iZ a), .ref (gad G 178)] (fun z M1 => z = (if ¬ (0 ≤ a ∧ a ≤ 1) then (1 : Int) else if M 154 a.toNat = 0 then 2 else 0) ∧ ((if ¬ (0 ≤ a ∧ a ≤ 1) then (1 : Int) else if M 154 a.toNat = 0 then 2 else 0) = 0 → ∃ (z9 : Int) (Mx : Nat → Nat → Int), (fun z M1 => (if ¬ (0 ≤ a ∧ a ≤ 1) then (1 : Int) else if M 154 a.toNat = 0 then 2 else 0) = 0 ∧ z = q_nrun K ∧ q_tr M1 0 K ∧ M1 165 1 = M 165 1 ∧ M1 165 2 = 0 ∧ ∀ x, x ≠ 165 → 8 ≤ x → M1 x = M x) z9 Mx ∧ M1 = q_wr Mx 178 0 (iZ z9).toInt) ∧ ((if ¬ (0 ≤ a ∧ a ≤ 1) then (1 : Int) else if M 154 a.toNat = 0 then 2 else 0) ≠ 0 → q_cs M M1)) := by
  refine gMw_of (cc := cL_restore) (maxL := 4) (ret := some .int) (by decide) rfl (Nat.le_of_ble_eq_true rfl) ?_
  intro p e s m below meth c ls hx hb hr hml hown hts hlocks htb hl hX hG
  have hown : s.vm.findClass RL = some m.cls := hown
  have hl : lv_has ls 4 [(0, .ref (gad G 152)), (1, .int (iZ a)), (2, .ref (gad G 178))] := hl
  refine lv_aload_n hx hb dL_restore_0 rfl (lv_at hl 2 rfl) ?_
  refine lv_iconst (v := iZ 0) hx hb dL_restore_1 rfl ?_
  refine lv_aload_n hx hb dL_restore_2 rfl (lv_at hl 0 rfl) ?_
  refine lv_iload_n hx hb dL_restore_3 rfl (lv_at hl 1 rfl) ?_
  refine g_callX (b := 152) (As := [.int (iZ a)]) (rest := [.int (iZ 0), .ref (gad G 178)]) ⟨hx, hb, hml, hown, hts⟩ (c_X5_restore l G M hl0 hdm a ha9 hsv K hK) (cwV 1 hts gL_restore_X5_restore rfl rfl rfl (by decide +kernel) ⟨Nat.le_of_ble_eq_true rfl, Nat.le_of_ble_eq_true rfl⟩) hX hG (g_recv hG (b := 152) (hdm 152 (by decide)) rfl rfl) rfl hl.1 rfl (Nat.le_of_ble_eq_true rfl) dL_restore_4 ⟨Nat.le_of_ble_eq_true rfl, Nat.le_of_ble_eq_true rfl⟩ (fun E9 M2 H locs ce9 q9 hpx hG hce hcv hcl => ?_) (fun z1 M2 H locs hp_4 hG => ?_)
  · skip
    obtain ⟨hE9, hfr9⟩ := hpx
    rcases hE9 with ⟨hc9, rfl⟩ | ⟨hc9, rfl⟩
    · refine vx_catch (name := "java/lang/IndexOutOfBoundsException") hown [] ⟨0, 9, 12, 28⟩ [⟨0, 9, 15, 15⟩] (by rw [htb]; rfl) (fun z9 hz9 => nomatch hz9) (by decide) (by decide) (hts (.classLink RL 28 "java/lang/IndexOutOfBoundsException") (by decide +kernel)) (va_Nw.use rfl hX.2.2.2.1) hce hcv hcl ?_
      refine lv_astore_n (lv' := [(3, .ref q9), (0, .ref (gad G 152)), (1, .int (iZ a)), (2, .ref (gad G 178))]) hx hb dL_restore_12 rfl hl (by decide) rfl (fun ls hl => ?_)
      refine lv_iconst (v := iZ 1) hx hb dL_restore_13 rfl ?_
      exact g_iretW (post := fun z M1 => z = (if ¬ (0 ≤ a ∧ a ≤ 1) then (1 : Int) else if M 154 a.toNat = 0 then 2 else 0) ∧ ((if ¬ (0 ≤ a ∧ a ≤ 1) then (1 : Int) else if M 154 a.toNat = 0 then 2 else 0) = 0 → ∃ (z9 : Int) (Mx : Nat → Nat → Int), (fun z M1 => (if ¬ (0 ≤ a ∧ a ≤ 1) then (1 : Int) else if M 154 a.toNat = 0 then 2 else 0) = 0 ∧ z = q_nrun K ∧ q_tr M1 0 K ∧ M1 165 1 = M 165 1 ∧ M1 165 2 = 0 ∧ ∀ x, x ≠ 165 → 8 ≤ x → M1 x = M x) z9 Mx ∧ M1 = q_wr Mx 178 0 (iZ z9).toInt) ∧ ((if ¬ (0 ≤ a ∧ a ≤ 1) then (1 : Int) else if M 154 a.toNat = 0 then 2 else 0) ≠ 0 → q_cs M M1)) (z := 1) hx hb hr hG hlocks (⟨hc9.symm, fun h9 => absurd h9 (by rw [hc9]; decide), fun _ => hfr9⟩) dL_restore_14
    · refine vx_catch (name := "java/lang/IllegalStateException") hown [⟨0, 9, 12, 28⟩] ⟨0, 9, 15, 15⟩ [] (by rw [htb]; rfl) (fun z9 hz9 => by simp only [List.mem_cons, List.not_mem_nil, or_false] at hz9; subst hz9; exact Or.inr ⟨by decide, "java/lang/IndexOutOfBoundsException", hts (.classLink RL 28 "java/lang/IndexOutOfBoundsException") (by decide +kernel), hX.2.2.2.2.2.2.1⟩) (by decide) (by decide) (hts (.classLink RL 15 "java/lang/IllegalStateException") (by decide +kernel)) (va_Nw.use rfl hX.2.2.1) hce hcv hcl ?_
      refine lv_astore_n (lv' := [(3, .ref q9), (0, .ref (gad G 152)), (1, .int (iZ a)), (2, .ref (gad G 178))]) hx hb dL_restore_15 rfl hl (by decide) rfl (fun ls hl => ?_)
      refine lv_iconst (v := iZ 2) hx hb dL_restore_16 rfl ?_
      exact g_iretW (post := fun z M1 => z = (if ¬ (0 ≤ a ∧ a ≤ 1) then (1 : Int) else if M 154 a.toNat = 0 then 2 else 0) ∧ ((if ¬ (0 ≤ a ∧ a ≤ 1) then (1 : Int) else if M 154 a.toNat = 0 then 2 else 0) = 0 → ∃ (z9 : Int) (Mx : Nat → Nat → Int), (fun z M1 => (if ¬ (0 ≤ a ∧ a ≤ 1) then (1 : Int) else if M 154 a.toNat = 0 then 2 else 0) = 0 ∧ z = q_nrun K ∧ q_tr M1 0 K ∧ M1 165 1 = M 165 1 ∧ M1 165 2 = 0 ∧ ∀ x, x ≠ 165 → 8 ≤ x → M1 x = M x) z9 Mx ∧ M1 = q_wr Mx 178 0 (iZ z9).toInt) ∧ ((if ¬ (0 ≤ a ∧ a ≤ 1) then (1 : Int) else if M 154 a.toNat = 0 then 2 else 0) ≠ 0 → q_cs M M1)) (z := 2) hx hb hr hG hlocks (⟨hc9.symm, fun h9 => absurd h9 (by rw [hc9]; decide), fun _ => hfr9⟩) dL_restore_17
  · skip
    refine z_i2lw hx hb dL_restore_7 ?_
    refine g_last (j := 0) hx hb hG (o := 178) (hdm 178 (by decide)) (fun f => rfl) (by omega) (by decide) (by decide) dL_restore_8 (fun H locs hG => ?_)
    obtain ⟨M3, hM3⟩ : ∃ X, X = (q_wr M2 178 0 ((iZ z1).toInt)) := ⟨_, rfl⟩
    rw [← hM3] at hG
    refine lv_goto (tgt := 18) hx hb dL_restore_9 (by decide) ?_
    refine lv_iconst (v := iZ 0) hx hb dL_restore_18 rfl ?_
    exact g_iretW (post := fun z M1 => z = (if ¬ (0 ≤ a ∧ a ≤ 1) then (1 : Int) else if M 154 a.toNat = 0 then 2 else 0) ∧ ((if ¬ (0 ≤ a ∧ a ≤ 1) then (1 : Int) else if M 154 a.toNat = 0 then 2 else 0) = 0 → ∃ (z9 : Int) (Mx : Nat → Nat → Int), (fun z M1 => (if ¬ (0 ≤ a ∧ a ≤ 1) then (1 : Int) else if M 154 a.toNat = 0 then 2 else 0) = 0 ∧ z = q_nrun K ∧ q_tr M1 0 K ∧ M1 165 1 = M 165 1 ∧ M1 165 2 = 0 ∧ ∀ x, x ≠ 165 → 8 ≤ x → M1 x = M x) z9 Mx ∧ M1 = q_wr Mx 178 0 (iZ z9).toInt) ∧ ((if ¬ (0 ≤ a ∧ a ≤ 1) then (1 : Int) else if M 154 a.toNat = 0 then 2 else 0) ≠ 0 → q_cs M M1)) (z := 0) hx hb hr hG hlocks (⟨hp_4.1.symm, fun _ => ⟨z1, M2, hp_4, hM3⟩, fun h9 => absurd hp_4.1 h9⟩) dL_restore_19
