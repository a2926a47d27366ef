/-! ANSWERS of the calls, and the states behind them -/
def cd_about (σ : gS) (a : Int) : Int := if 0 ≤ a ∧ a ≤ 16 then (0 : Int) else 1
def a_about (σ : gS) (a : Int) : Int := if cd_about σ a = 0 then q_abt σ.1 a else (-9999002)
def cd_dog (σ : gS) (a : Int) (b : Int) : Int := if ¬ (0 ≤ a ∧ a < q_nd σ.1) then (1 : Int) else if ¬ (0 ≤ b ∧ b ≤ 7) then 2 else 0
def a_dog (σ : gS) (a : Int) (b : Int) : Int := if cd_dog σ a b = 0 then q_dga σ.1 a.toNat b else if cd_dog σ a b = 1 then (-9999001) else (-9999002)
def cd_lost (σ : gS) (a : Int) (b : Int) : Int := if 0 ≤ a ∧ a < q_nd σ.1 ∧ 0 ≤ b ∧ b ≤ 5 then (0 : Int) else 1
def a_lost (σ : gS) (a : Int) (b : Int) : Int := if cd_lost σ a b = 0 then (if q_hs σ.1 a.toNat = 1 then q_lo σ.1 a.toNat b.toNat else -9) else (-9999001)
def cd_order (σ : gS) (a : Int) : Int := if a < 0 then (1 : Int) else 0
def a_order (σ : gS) (a : Int) : Int := if cd_order σ a = 0 then q_atk σ.1 a else (-9999002)
def cd_owner (σ : gS) (a : Int) : Int := if 0 ≤ a ∧ a ≤ 5 then (0 : Int) else 1
def a_owner (σ : gS) (a : Int) : Int := if cd_owner σ a = 0 then q_os σ.1 a else (-9999002)
def cd_left (σ : gS) (a : Int) : Int := if 1 ≤ a ∧ a ≤ 30 then (0 : Int) else 1
def a_left (σ : gS) (a : Int) : Int := if cd_left σ a = 0 then min (q_nwait σ.1) ((σ.1 2 - σ.1 1) / a) else (-9999002)
def cd_best (σ : gS) (a : Int) : Int := if 0 ≤ a ∧ a < q_nd σ.1 then (0 : Int) else 1
def a_best (σ : gS) (a : Int) : Int := if cd_best σ a = 0 then q_bp σ.1 a.toNat else (-9999001)
def cd_may (σ : gS) (a : Int) (b : Int) : Int := if ¬ (0 ≤ a ∧ a < q_nd σ.1) then (1 : Int) else if ¬ (1 ≤ b ∧ b ≤ 12) then 2 else 0
def a_may (σ : gS) (a : Int) (b : Int) : Int := if cd_may σ a b = 0 then q_ml σ.1 a.toNat b else if cd_may σ a b = 1 then (-9999001) else (-9999002)
def cd_script (σ : gS) (a : Int) (v : Int) : Int := if (1 ≤ a ∧ a ≤ 4) ∧ 0 ≤ v ∧ v < q_p4 a.toNat then (0 : Int) else 1
def a_script (σ : gS) (a : Int) (v : Int) : Int := if cd_script σ a v = 0 then q_ff (q_cmd v a.toNat) σ.1 a.toNat else (-9999002)
def cd_simulate (σ : gS) (v : Int) (a : Int) : Int := if 1 ≤ a ∧ a ≤ 99 then (0 : Int) else 1
def a_simulate (σ : gS) (v : Int) (a : Int) : Int := if cd_simulate σ v a = 0 then 1000 * (q_sim σ.1 v a.toNat) 0 + q_sum (q_sim σ.1 v a.toNat) else (-9999002)
def cd_enter (σ : gS) (a : Int) (b : Int) : Int := if ¬ (0 ≤ a ∧ a ≤ 5 ∧ 1 ≤ b ∧ b ≤ 99) then (1 : Int) else if 12 ≤ q_nd σ.1 ∨ q_dn σ.1 b (-9) (q_nd σ.1).toNat = true then 2 else 0
def a_enter (σ : gS) (a : Int) (b : Int) : Int := if cd_enter σ a b = 0 then q_nd σ.1 else if cd_enter σ a b = 1 then (-9999002) else (-9999003)
def t_enter (σ : gS) (a : Int) (b : Int) : gS := if cd_enter σ a b = 0 then s_act σ (q_ent σ.1 (q_nd σ.1).toNat a b) else σ
def cd_withdraw (σ : gS) (a : Int) : Int := if ¬ (0 ≤ a ∧ a < q_nd σ.1) then (1 : Int) else if q_sa σ.1 a.toNat = 3 then 2 else 0
def a_withdraw (σ : gS) (a : Int) : Int := if cd_withdraw σ a = 0 then q_sa σ.1 a.toNat else if cd_withdraw σ a = 1 then (-9999001) else (-9999003)
def t_withdraw (σ : gS) (a : Int) : gS := if cd_withdraw σ a = 0 then s_act σ (q_gon σ.1 a.toNat) else σ
def cd_interfere (σ : gS) (a : Int) (b : Int) : Int := if ¬ (0 ≤ a ∧ a < q_nd σ.1 ∧ 0 ≤ b ∧ b ≤ 5) then (1 : Int) else if q_sa σ.1 a.toNat ≠ 1 then 2 else 0
def a_interfere (σ : gS) (a : Int) (b : Int) : Int := if cd_interfere σ a b = 0 then q_sc (q_brk σ.1 a.toNat b) a.toNat else if cd_interfere σ a b = 1 then (-9999001) else (-9999003)
def t_interfere (σ : gS) (a : Int) (b : Int) : gS := if cd_interfere σ a b = 0 then s_act σ (q_brk σ.1 a.toNat b) else σ
def cd_next (σ : gS) (a : Int) : Int := if 60 ≤ a ∧ a ≤ 600 then (0 : Int) else 1
def a_next (σ : gS) (a : Int) : Int := if cd_next σ a = 0 then (q_nxt σ.1 a) 0 else (-9999002)
def t_next (σ : gS) (a : Int) : gS := if cd_next σ a = 0 then s_act σ (q_nxt σ.1 a) else σ
def cd_rank (σ : gS) (a : Int) : Int := if q_isr a = true then (0 : Int) else 1
def a_rank (σ : gS) (a : Int) : Int := if cd_rank σ a = 0 then q_ct (fun i => decide (q_pl σ.1 i ≠ q_pl (q_srk σ.1 (fun k => q_kd a (5 - k))) i)) (q_nd σ.1).toNat else (-9999002)
def t_rank (σ : gS) (a : Int) : gS := if cd_rank σ a = 0 then s_act σ (q_srk σ.1 (fun k => q_kd a (5 - k))) else σ
def cd_draw (σ : gS) (a : Int) (b : Int) : Int := if ¬ (0 ≤ a ∧ a < q_nd σ.1) then (1 : Int) else if ¬ (1 ≤ b ∧ b ≤ 99) then 2 else if q_dn σ.1 b a (q_nd σ.1).toNat = true then 3 else 0
def a_draw (σ : gS) (a : Int) (b : Int) : Int := if cd_draw σ a b = 0 then q_dr σ.1 a.toNat else if cd_draw σ a b = 1 then (-9999001) else if cd_draw σ a b = 2 then (-9999002) else (-9999003)
def t_draw (σ : gS) (a : Int) (b : Int) : gS := if cd_draw σ a b = 0 then s_act σ (q_sdr σ.1 a.toNat b) else σ
def cd_run (σ : gS) (v : Int) (b : Int) : Int := if ¬ (q_ptb v 6 = true ∧ 1 ≤ b ∧ b ≤ 30) then (1 : Int) else if q_ob σ.1 ≠ 0 then 2 else 0
def a_run (σ : gS) (v : Int) (b : Int) : Int := if cd_run σ v b = 0 then (if q_rz σ.1 b = 1 then q_sc (q_rno σ.1 (q_first σ.1).toNat b (q_dig v)) (q_first σ.1).toNat else -9) else if cd_run σ v b = 1 then (-9999002) else (-9999003)
def t_run (σ : gS) (v : Int) (b : Int) : gS := if cd_run σ v b = 0 then s_act σ (q_rno σ.1 (q_first σ.1).toNat b (q_dig v)) else σ
def cd_undo (σ : gS) : Int := if σ.2.1 = 0 then (1 : Int) else 0
def a_undo (σ : gS) : Int := if cd_undo σ = 0 then (σ.2.1 : Int) - 1 else (-9999003)
def t_undo (σ : gS) : gS := if cd_undo σ = 0 then s_und σ else σ
def cd_save (σ : gS) (a : Int) : Int := if 0 ≤ a ∧ a ≤ 1 then (0 : Int) else 1
def a_save (σ : gS) (a : Int) : Int := if cd_save σ a = 0 then q_nrun σ.1 else (-9999001)
def t_save (σ : gS) (a : Int) : gS := if cd_save σ a = 0 then s_sav σ a.toNat else σ
def cd_restore (σ : gS) (a : Int) : Int := if ¬ (0 ≤ a ∧ a ≤ 1) then (1 : Int) else if σ.2.2.2.1 a.toNat = 0 then 2 else 0
def a_restore (σ : gS) (a : Int) : Int := if cd_restore σ a = 0 then q_nrun (σ.2.2.2.2 a.toNat) else if cd_restore σ a = 1 then (-9999001) else (-9999003)
def t_restore (σ : gS) (a : Int) : gS := if cd_restore σ a = 0 then s_res σ a.toNat else σ
set_option maxHeartbeats 4000000 in
set_option maxRecDepth 100000 in
theorem c_L_tryAbout (l : Launch) (hl0 : l.stackTraces = false) (G : gG) (hdm : ∀ k, k < 169 → gdm G k) (M0 : Nat → Nat → Int) (σ : gS) (hσ : s_ok σ) (a : Int) (ha9 : -2147483648 ≤ a ∧ a < 2147483648) : gML l yL_tryAbout wsL_tryAbout ({ frames := 7, cells := 1, slots := 6, locals := 111 } : Room) 1 G M0 (kS σ) [.ref (gad G 152), .int (iZ a)] (fun z K1 => z = a_about σ a ∧ K1 = kS σ) := by
  refine gML_ofW (cc := cL_tryAbout) (maxL := 3) (ret := some .int) (by decide) rfl (Nat.le_of_ble_eq_true rfl) ?_
  intro p e s m below meth c ls hx hb hr hml hown hts hlocks htb hl hG
  have hown : s.vm.findClass RL = some m.cls := hown
  have hl : lv_has ls 3 [(0, .ref (gad G 152)), (1, .int (iZ a))] := hl
  obtain ⟨M, hG, hX, hK, hF⟩ := hG
  have hK : q_K M σ := hK
  refine lv_aload_n hx hb dL_tryAbout_0 rfl (lv_at hl 0 rfl) ?_
  refine lv_iload_n hx hb dL_tryAbout_1 rfl (lv_at hl 1 rfl) ?_
  refine g_callX (b := 152) (As := [.int (iZ a)]) (rest := []) ⟨hx, hb, hml, hown, hts⟩ (c_X5_about l G M hl0 hdm σ.1 hK.1 hσ.1.1 a ha9) (cwV 1 hts gL_tryAbout_X5_about rfl rfl rfl (by decide +kernel) ⟨Nat.le_of_ble_eq_true rfl, Nat.le_of_ble_eq_true rfl⟩) hX hG (g_recv hG (b := 152) (hdm 152 (by decide)) rfl rfl) rfl hl.1 rfl (Nat.le_of_ble_eq_true rfl) dL_tryAbout_2 ⟨Nat.le_of_ble_eq_true rfl, Nat.le_of_ble_eq_true rfl⟩ (fun E9 M2 H locs ce9 q9 hpx hG hce hcv hcl => ?_) (fun z1 M2 H locs hp hG => ?_)
  · obtain ⟨hE9, hfr9⟩ := hpx
    have hG9 : gKH G M0 (kS σ) s H locs := ⟨M2, hG, hX, hK.cs hfr9, hF.tr (q_bd.cs hfr9)⟩
    rw [show (if 0 ≤ a ∧ a ≤ 16 then (0 : Int) else 1) = cd_about σ a from rfl] at hE9
    obtain ⟨hc9, rfl⟩ := hE9
    · refine vx_catch (name := "java/lang/IllegalArgumentException") hown [] ⟨0, 5, 6, 13⟩ [] (by rw [htb]; rfl) (fun z9 hz9 => nomatch hz9) (by decide) (by decide) (hts (.classLink RL 13 "java/lang/IllegalArgumentException") (by decide +kernel)) (va_Nw.use rfl hX.2.1) hce hcv hcl ?_
      refine lv_astore_n (lv' := [(2, .ref q9), (0, .ref (gad G 152)), (1, .int (iZ a))]) hx hb dL_tryAbout_6 rfl hl (by decide) rfl (fun ls hl => ?_)
      refine lv_ldc (v := iZ (-9999002)) hx hb hown (by rw [show iZ (-9999002) = (-9999002 : Int32) from by decide]; exact hts (.constant RL 15 (-9999002)) (by decide +kernel)) dL_tryAbout_7 ?_
      exact g_iretL (K := kS σ) (post := fun z K1 => z = a_about σ a ∧ K1 = kS σ) (z := -9999002) hx hb hr hG9 hlocks ⟨by unfold a_about; simp [hc9], rfl⟩ ⟨Nat.le_of_ble_eq_true rfl, Nat.le_of_ble_eq_true rfl⟩ dL_tryAbout_9
  · obtain ⟨hc9, hz9, hfr9⟩ := hp
    replace hc9 : cd_about σ a = 0 := hc9
    exact g_iretL (K := kS σ) (post := fun z K1 => z = a_about σ a ∧ K1 = kS σ) (z := z1) hx hb hr ⟨M2, hG, hX, hK.cs hfr9, hF.tr (q_bd.cs hfr9)⟩ hlocks ⟨by unfold a_about; rw [if_pos hc9]; exact hz9, rfl⟩ ⟨Nat.le_of_ble_eq_true rfl, Nat.le_of_ble_eq_true rfl⟩ dL_tryAbout_5
set_option maxHeartbeats 4000000 in
set_option maxRecDepth 100000 in
theorem c_L_tryDog (l : Launch) (hl0 : l.stackTraces = false) (G : gG) (hdm : ∀ k, k < 169 → gdm G k) (M0 : Nat → Nat → Int) (σ : gS) (hσ : s_ok σ) (a : Int) (ha9 : -2147483648 ≤ a ∧ a < 2147483648) (b : Int) (hb9 : -2147483648 ≤ b ∧ b < 2147483648) : gML l yL_tryDog wsL_tryDog ({ frames := 7, cells := 1, slots := 6, locals := 118 } : Room) 1 G M0 (kS σ) [.ref (gad G 152), .int (iZ a), .int (iZ b)] (fun z K1 => z = a_dog σ a b ∧ K1 = kS σ) := by
  refine gML_ofW (cc := cL_tryDog) (maxL := 4) (ret := some .int) (by decide) rfl (Nat.le_of_ble_eq_true rfl) ?_
  intro p e s m below meth c ls hx hb hr hml hown hts hlocks htb hl hG
  have hown : s.vm.findClass RL = some m.cls := hown
  have hl : lv_has ls 4 [(0, .ref (gad G 152)), (1, .int (iZ a)), (2, .int (iZ b))] := hl
  obtain ⟨M, hG, hX, hK, hF⟩ := hG
  have hK : q_K M σ := hK
  refine lv_aload_n hx hb dL_tryDog_0 rfl (lv_at hl 0 rfl) ?_
  refine lv_iload_n hx hb dL_tryDog_1 rfl (lv_at hl 1 rfl) ?_
  refine lv_iload_n hx hb dL_tryDog_2 rfl (lv_at hl 2 rfl) ?_
  refine g_callX (b := 152) (As := [.int (iZ a), .int (iZ b)]) (rest := []) ⟨hx, hb, hml, hown, hts⟩ (c_X5_dog l G M hl0 hdm σ.1 hK.1 hσ.1.1 a ha9 b hb9) (cwV 2 hts gL_tryDog_X5_dog rfl rfl rfl (by decide +kernel) ⟨Nat.le_of_ble_eq_true rfl, Nat.le_of_ble_eq_true rfl⟩) hX hG (g_recv hG (b := 152) (hdm 152 (by decide)) rfl rfl) rfl hl.1 rfl (Nat.le_of_ble_eq_true rfl) dL_tryDog_3 ⟨Nat.le_of_ble_eq_true rfl, Nat.le_of_ble_eq_true rfl⟩ (fun E9 M2 H locs ce9 q9 hpx hG hce hcv hcl => ?_) (fun z1 M2 H locs hp hG => ?_)
  · obtain ⟨hE9, hfr9⟩ := hpx
    have hG9 : gKH G M0 (kS σ) s H locs := ⟨M2, hG, hX, hK.cs hfr9, hF.tr (q_bd.cs hfr9)⟩
    rw [show (if ¬ (0 ≤ a ∧ a < q_nd σ.1) then (1 : Int) else if ¬ (0 ≤ b ∧ b ≤ 7) then 2 else 0) = cd_dog σ a b from rfl] at hE9
    rcases hE9 with ⟨hc9, rfl⟩ | ⟨hc9, rfl⟩
    · refine vx_catch (name := "java/lang/IndexOutOfBoundsException") hown [] ⟨0, 6, 7, 41⟩ [⟨0, 6, 11, 13⟩] (by rw [htb]; rfl) (fun z9 hz9 => nomatch hz9) (by decide) (by decide) (hts (.classLink RL 41 "java/lang/IndexOutOfBoundsException") (by decide +kernel)) (va_Nw.use rfl hX.2.2.2.1) hce hcv hcl ?_
      refine lv_astore_n (lv' := [(3, .ref q9), (0, .ref (gad G 152)), (1, .int (iZ a)), (2, .int (iZ b))]) hx hb dL_tryDog_7 rfl hl (by decide) rfl (fun ls hl => ?_)
      refine lv_ldc (v := iZ (-9999001)) hx hb hown (by rw [show iZ (-9999001) = (-9999001 : Int32) from by decide]; exact hts (.constant RL 43 (-9999001)) (by decide +kernel)) dL_tryDog_8 ?_
      exact g_iretL (K := kS σ) (post := fun z K1 => z = a_dog σ a b ∧ K1 = kS σ) (z := -9999001) hx hb hr hG9 hlocks ⟨by unfold a_dog; simp [hc9], rfl⟩ ⟨Nat.le_of_ble_eq_true rfl, Nat.le_of_ble_eq_true rfl⟩ dL_tryDog_10
    · refine vx_catch (name := "java/lang/IllegalArgumentException") hown [⟨0, 6, 7, 41⟩] ⟨0, 6, 11, 13⟩ [] (by rw [htb]; rfl) (fun z9 hz9 => by simp only [List.mem_cons, List.not_mem_nil, or_false] at hz9; subst hz9; exact Or.inr ⟨by decide, "java/lang/IndexOutOfBoundsException", hts (.classLink RL 41 "java/lang/IndexOutOfBoundsException") (by decide +kernel), hX.2.2.2.2.2.1⟩) (by decide) (by decide) (hts (.classLink RL 13 "java/lang/IllegalArgumentException") (by decide +kernel)) (va_Nw.use rfl hX.2.1) hce hcv hcl ?_
      refine lv_astore_n (lv' := [(3, .ref q9), (0, .ref (gad G 152)), (1, .int (iZ a)), (2, .int (iZ b))]) hx hb dL_tryDog_11 rfl hl (by decide) rfl (fun ls hl => ?_)
      refine lv_ldc (v := iZ (-9999002)) hx hb hown (by rw [show iZ (-9999002) = (-9999002 : Int32) from by decide]; exact hts (.constant RL 15 (-9999002)) (by decide +kernel)) dL_tryDog_12 ?_
      exact g_iretL (K := kS σ) (post := fun z K1 => z = a_dog σ a b ∧ K1 = kS σ) (z := -9999002) hx hb hr hG9 hlocks ⟨by unfold a_dog; simp [hc9], rfl⟩ ⟨Nat.le_of_ble_eq_true rfl, Nat.le_of_ble_eq_true rfl⟩ dL_tryDog_14
  · obtain ⟨hc9, hz9, hfr9⟩ := hp
    replace hc9 : cd_dog σ a b = 0 := hc9
    exact g_iretL (K := kS σ) (post := fun z K1 => z = a_dog σ a b ∧ K1 = kS σ) (z := z1) hx hb hr ⟨M2, hG, hX, hK.cs hfr9, hF.tr (q_bd.cs hfr9)⟩ hlocks ⟨by unfold a_dog; rw [if_pos hc9]; exact hz9, rfl⟩ ⟨Nat.le_of_ble_eq_true rfl, Nat.le_of_ble_eq_true rfl⟩ dL_tryDog_6
set_option maxHeartbeats 4000000 in
set_option maxRecDepth 100000 in
theorem c_L_tryLost (l : Launch) (hl0 : l.stackTraces = false) (G : gG) (hdm : ∀ k, k < 169 → gdm G k) (M0 : Nat → Nat → Int) (σ : gS) (hσ : s_ok σ) (a : Int) (ha9 : -2147483648 ≤ a ∧ a < 2147483648) (b : Int) (hb9 : -2147483648 ≤ b ∧ b < 2147483648) : gML l yL_tryLost wsL_tryLost ({ frames := 7, cells := 1, slots := 6, locals := 112 } : Room) 1 G M0 (kS σ) [.ref (gad G 152), .int (iZ a), .int (iZ b)] (fun z K1 => z = a_lost σ a b ∧ K1 = kS σ) := by
  refine gML_ofW (cc := cL_tryLost) (maxL := 4) (ret := some .int) (by decide) rfl (Nat.le_of_ble_eq_true rfl) ?_
  intro p e s m below meth c ls hx hb hr hml hown hts hlocks htb hl hG
  have hown : s.vm.findClass RL = some m.cls := hown
  have hl : lv_has ls 4 [(0, .ref (gad G 152)), (1, .int (iZ a)), (2, .int (iZ b))] := hl
  obtain ⟨M, hG, hX, hK, hF⟩ := hG
  have hK : q_K M σ := hK
  refine lv_aload_n hx hb dL_tryLost_0 rfl (lv_at hl 0 rfl) ?_
  refine lv_iload_n hx hb dL_tryLost_1 rfl (lv_at hl 1 rfl) ?_
  refine lv_iload_n hx hb dL_tryLost_2 rfl (lv_at hl 2 rfl) ?_
  refine g_callX (b := 152) (As := [.int (iZ a), .int (iZ b)]) (rest := []) ⟨hx, hb, hml, hown, hts⟩ (c_X5_lost l G M hl0 hdm σ.1 hK.1 hσ.1.1 a ha9 b hb9) (cwV 2 hts gL_tryLost_X5_lost rfl rfl rfl (by decide +kernel) ⟨Nat.le_of_ble_eq_true rfl, Nat.le_of_ble_eq_true rfl⟩) hX hG (g_recv hG (b := 152) (hdm 152 (by decide)) rfl rfl) rfl hl.1 rfl (Nat.le_of_ble_eq_true rfl) dL_tryLost_3 ⟨Nat.le_of_ble_eq_true rfl, Nat.le_of_ble_eq_true rfl⟩ (fun E9 M2 H locs ce9 q9 hpx hG hce hcv hcl => ?_) (fun z1 M2 H locs hp hG => ?_)
  · obtain ⟨hE9, hfr9⟩ := hpx
    have hG9 : gKH G M0 (kS σ) s H locs := ⟨M2, hG, hX, hK.cs hfr9, hF.tr (q_bd.cs hfr9)⟩
    rw [show (if 0 ≤ a ∧ a < q_nd σ.1 ∧ 0 ≤ b ∧ b ≤ 5 then (0 : Int) else 1) = cd_lost σ a b from rfl] at hE9
    obtain ⟨hc9, rfl⟩ := hE9
    · refine vx_catch (name := "java/lang/IndexOutOfBoundsException") hown [] ⟨0, 6, 7, 41⟩ [] (by rw [htb]; rfl) (fun z9 hz9 => nomatch hz9) (by decide) (by decide) (hts (.classLink RL 41 "java/lang/IndexOutOfBoundsException") (by decide +kernel)) (va_Nw.use rfl hX.2.2.2.1) hce hcv hcl ?_
      refine lv_astore_n (lv' := [(3, .ref q9), (0, .ref (gad G 152)), (1, .int (iZ a)), (2, .int (iZ b))]) hx hb dL_tryLost_7 rfl hl (by decide) rfl (fun ls hl => ?_)
      refine lv_ldc (v := iZ (-9999001)) hx hb hown (by rw [show iZ (-9999001) = (-9999001 : Int32) from by decide]; exact hts (.constant RL 43 (-9999001)) (by decide +kernel)) dL_tryLost_8 ?_
      exact g_iretL (K := kS σ) (post := fun z K1 => z = a_lost σ a b ∧ K1 = kS σ) (z := -9999001) hx hb hr hG9 hlocks ⟨by unfold a_lost; simp [hc9], rfl⟩ ⟨Nat.le_of_ble_eq_true rfl, Nat.le_of_ble_eq_true rfl⟩ dL_tryLost_10
  · obtain ⟨hc9, hz9, hfr9⟩ := hp
    replace hc9 : cd_lost σ a b = 0 := hc9
    exact g_iretL (K := kS σ) (post := fun z K1 => z = a_lost σ a b ∧ K1 = kS σ) (z := z1) hx hb hr ⟨M2, hG, hX, hK.cs hfr9, hF.tr (q_bd.cs hfr9)⟩ hlocks ⟨by unfold a_lost; rw [if_pos hc9]; exact hz9, rfl⟩ ⟨Nat.le_of_ble_eq_true rfl, Nat.le_of_ble_eq_true rfl⟩ dL_tryLost_6
set_option maxHeartbeats 4000000 in
set_option maxRecDepth 100000 in
theorem c_L_tryOrder (l : Launch) (hl0 : l.stackTraces = false) (G : gG) (hdm : ∀ k, k < 169 → gdm G k) (M0 : Nat → Nat → Int) (σ : gS) (hσ : s_ok σ) (a : Int) (ha9 : -2147483648 ≤ a ∧ a < 2147483648) : gML l yL_tryOrder wsL_tryOrder ({ frames := 7, cells := 1, slots := 6, locals := 111 } : Room) 1 G M0 (kS σ) [.ref (gad G 152), .int (iZ a)] (fun z K1 => z = a_order σ a ∧ K1 = kS σ) := by
  refine gML_ofW (cc := cL_tryOrder) (maxL := 3) (ret := some .int) (by decide) rfl (Nat.le_of_ble_eq_true rfl) ?_
  intro p e s m below meth c ls hx hb hr hml hown hts hlocks htb hl hG
  have hown : s.vm.findClass RL = some m.cls := hown
  have hl : lv_has ls 3 [(0, .ref (gad G 152)), (1, .int (iZ a))] := hl
  obtain ⟨M, hG, hX, hK, hF⟩ := hG
  have hK : q_K M σ := hK
  refine lv_aload_n hx hb dL_tryOrder_0 rfl (lv_at hl 0 rfl) ?_
  refine lv_iload_n hx hb dL_tryOrder_1 rfl (lv_at hl 1 rfl) ?_
  refine g_callX (b := 152) (As := [.int (iZ a)]) (rest := []) ⟨hx, hb, hml, hown, hts⟩ (c_X5_order l G M hl0 hdm σ.1 hK.1 hσ.1.1 a ha9) (cwV 1 hts gL_tryOrder_X5_order rfl rfl rfl (by decide +kernel) ⟨Nat.le_of_ble_eq_true rfl, Nat.le_of_ble_eq_true rfl⟩) hX hG (g_recv hG (b := 152) (hdm 152 (by decide)) rfl rfl) rfl hl.1 rfl (Nat.le_of_ble_eq_true rfl) dL_tryOrder_2 ⟨Nat.le_of_ble_eq_true rfl, Nat.le_of_ble_eq_true rfl⟩ (fun E9 M2 H locs ce9 q9 hpx hG hce hcv hcl => ?_) (fun z1 M2 H locs hp hG => ?_)
  · obtain ⟨hE9, hfr9⟩ := hpx
    have hG9 : gKH G M0 (kS σ) s H locs := ⟨M2, hG, hX, hK.cs hfr9, hF.tr (q_bd.cs hfr9)⟩
    rw [show (if a < 0 then (1 : Int) else 0) = cd_order σ a from rfl] at hE9
    obtain ⟨hc9, rfl⟩ := hE9
    · refine vx_catch (name := "java/lang/IllegalArgumentException") hown [] ⟨0, 5, 6, 13⟩ [] (by rw [htb]; rfl) (fun z9 hz9 => nomatch hz9) (by decide) (by decide) (hts (.classLink RL 13 "java/lang/IllegalArgumentException") (by decide +kernel)) (va_Nw.use rfl hX.2.1) hce hcv hcl ?_
      refine lv_astore_n (lv' := [(2, .ref q9), (0, .ref (gad G 152)), (1, .int (iZ a))]) hx hb dL_tryOrder_6 rfl hl (by decide) rfl (fun ls hl => ?_)
      refine lv_ldc (v := iZ (-9999002)) hx hb hown (by rw [show iZ (-9999002) = (-9999002 : Int32) from by decide]; exact hts (.constant RL 15 (-9999002)) (by decide +kernel)) dL_tryOrder_7 ?_
      exact g_iretL (K := kS σ) (post := fun z K1 => z = a_order σ a ∧ K1 = kS σ) (z := -9999002) hx hb hr hG9 hlocks ⟨by unfold a_order; simp [hc9], rfl⟩ ⟨Nat.le_of_ble_eq_true rfl, Nat.le_of_ble_eq_true rfl⟩ dL_tryOrder_9
  · obtain ⟨hc9, hz9, hfr9⟩ := hp
    replace hc9 : cd_order σ a = 0 := hc9
    exact g_iretL (K := kS σ) (post := fun z K1 => z = a_order σ a ∧ K1 = kS σ) (z := z1) hx hb hr ⟨M2, hG, hX, hK.cs hfr9, hF.tr (q_bd.cs hfr9)⟩ hlocks ⟨by unfold a_order; rw [if_pos hc9]; exact hz9, rfl⟩ ⟨Nat.le_of_ble_eq_true rfl, Nat.le_of_ble_eq_true rfl⟩ dL_tryOrder_5
set_option maxHeartbeats 4000000 in
set_option maxRecDepth 100000 in
theorem c_L_tryOwner (l : Launch) (hl0 : l.stackTraces = false) (G : gG) (hdm : ∀ k, k < 169 → gdm G k) (M0 : Nat → Nat → Int) (σ : gS) (hσ : s_ok σ) (a : Int) (ha9 : -2147483648 ≤ a ∧ a < 2147483648) : gML l yL_tryOwner wsL_tryOwner ({ frames := 7, cells := 1, slots := 6, locals := 111 } : Room) 1 G M0 (kS σ) [.ref (gad G 152), .int (iZ a)] (fun z K1 => z = a_owner σ a ∧ K1 = kS σ) := by
  refine gML_ofW (cc := cL_tryOwner) (maxL := 3) (ret := some .int) (by decide) rfl (Nat.le_of_ble_eq_true rfl) ?_
  intro p e s m below meth c ls hx hb hr hml hown hts hlocks htb hl hG
  have hown : s.vm.findClass RL = some m.cls := hown
  have hl : lv_has ls 3 [(0, .ref (gad G 152)), (1, .int (iZ a))] := hl
  obtain ⟨M, hG, hX, hK, hF⟩ := hG
  have hK : q_K M σ := hK
  refine lv_aload_n hx hb dL_tryOwner_0 rfl (lv_at hl 0 rfl) ?_
  refine lv_iload_n hx hb dL_tryOwner_1 rfl (lv_at hl 1 rfl) ?_
  refine g_callX (b := 152) (As := [.int (iZ a)]) (rest := []) ⟨hx, hb, hml, hown, hts⟩ (c_X5_owner l G M hl0 hdm σ.1 hK.1 hσ.1.1 a ha9) (cwV 1 hts gL_tryOwner_X5_owner rfl rfl rfl (by decide +kernel) ⟨Nat.le_of_ble_eq_true rfl, Nat.le_of_ble_eq_true rfl⟩) hX hG (g_recv hG (b := 152) (hdm 152 (by decide)) rfl rfl) rfl hl.1 rfl (Nat.le_of_ble_eq_true rfl) dL_tryOwner_2 ⟨Nat.le_of_ble_eq_true rfl, Nat.le_of_ble_eq_true rfl⟩ (fun E9 M2 H locs ce9 q9 hpx hG hce hcv hcl => ?_) (fun z1 M2 H locs hp hG => ?_)
  · obtain ⟨hE9, hfr9⟩ := hpx
    have hG9 : gKH G M0 (kS σ) s H locs := ⟨M2, hG, hX, hK.cs hfr9, hF.tr (q_bd.cs hfr9)⟩
    rw [show (if 0 ≤ a ∧ a ≤ 5 then (0 : Int) else 1) = cd_owner σ a from rfl] at hE9
    obtain ⟨hc9, rfl⟩ := hE9
    · refine vx_catch (name := "java/lang/IllegalArgumentException") hown [] ⟨0, 5, 6, 13⟩ [] (by rw [htb]; rfl) (fun z9 hz9 => nomatch hz9) (by decide) (by decide) (hts (.classLink RL 13 "java/lang/IllegalArgumentException") (by decide +kernel)) (va_Nw.use rfl hX.2.1) hce hcv hcl ?_
      refine lv_astore_n (lv' := [(2, .ref q9), (0, .ref (gad G 152)), (1, .int (iZ a))]) hx hb dL_tryOwner_6 rfl hl (by decide) rfl (fun ls hl => ?_)
      refine lv_ldc (v := iZ (-9999002)) hx hb hown (by rw [show iZ (-9999002) = (-9999002 : Int32) from by decide]; exact hts (.constant RL 15 (-9999002)) (by decide +kernel)) dL_tryOwner_7 ?_
      exact g_iretL (K := kS σ) (post := fun z K1 => z = a_owner σ a ∧ K1 = kS σ) (z := -9999002) hx hb hr hG9 hlocks ⟨by unfold a_owner; simp [hc9], rfl⟩ ⟨Nat.le_of_ble_eq_true rfl, Nat.le_of_ble_eq_true rfl⟩ dL_tryOwner_9
  · obtain ⟨hc9, hz9, hfr9⟩ := hp
    replace hc9 : cd_owner σ a = 0 := hc9
    exact g_iretL (K := kS σ) (post := fun z K1 => z = a_owner σ a ∧ K1 = kS σ) (z := z1) hx hb hr ⟨M2, hG, hX, hK.cs hfr9, hF.tr (q_bd.cs hfr9)⟩ hlocks ⟨by unfold a_owner; rw [if_pos hc9]; exact hz9, rfl⟩ ⟨Nat.le_of_ble_eq_true rfl, Nat.le_of_ble_eq_true rfl⟩ dL_tryOwner_5
set_option maxHeartbeats 4000000 in
set_option maxRecDepth 100000 in
theorem c_L_tryLeft (l : Launch) (hl0 : l.stackTraces = false) (G : gG) (hdm : ∀ k, k < 169 → gdm G k) (M0 : Nat → Nat → Int) (σ : gS) (hσ : s_ok σ) (a : Int) (ha9 : -2147483648 ≤ a ∧ a < 2147483648) : gML l yL_tryLeft wsL_tryLeft ({ frames := 7, cells := 1, slots := 6, locals := 111 } : Room) 1 G M0 (kS σ) [.ref (gad G 152), .int (iZ a)] (fun z K1 => z = a_left σ a ∧ K1 = kS σ) := by
  refine gML_ofW (cc := cL_tryLeft) (maxL := 3) (ret := some .int) (by decide) rfl (Nat.le_of_ble_eq_true rfl) ?_
  intro p e s m below meth c ls hx hb hr hml hown hts hlocks htb hl hG
  have hown : s.vm.findClass RL = some m.cls := hown
  have hl : lv_has ls 3 [(0, .ref (gad G 152)), (1, .int (iZ a))] := hl
  obtain ⟨M, hG, hX, hK, hF⟩ := hG
  have hK : q_K M σ := hK
  refine lv_aload_n hx hb dL_tryLeft_0 rfl (lv_at hl 0 rfl) ?_
  refine lv_iload_n hx hb dL_tryLeft_1 rfl (lv_at hl 1 rfl) ?_
  refine g_callX (b := 152) (As := [.int (iZ a)]) (rest := []) ⟨hx, hb, hml, hown, hts⟩ (c_X5_runsLeft l G M hl0 hdm σ.1 hK.1 hσ.1.1 a ha9) (cwV 1 hts gL_tryLeft_X5_runsLeft rfl rfl rfl (by decide +kernel) ⟨Nat.le_of_ble_eq_true rfl, Nat.le_of_ble_eq_true rfl⟩) hX hG (g_recv hG (b := 152) (hdm 152 (by decide)) rfl rfl) rfl hl.1 rfl (Nat.le_of_ble_eq_true rfl) dL_tryLeft_2 ⟨Nat.le_of_ble_eq_true rfl, Nat.le_of_ble_eq_true rfl⟩ (fun E9 M2 H locs ce9 q9 hpx hG hce hcv hcl => ?_) (fun z1 M2 H locs hp hG => ?_)
  · obtain ⟨hE9, hfr9⟩ := hpx
    have hG9 : gKH G M0 (kS σ) s H locs := ⟨M2, hG, hX, hK.cs hfr9, hF.tr (q_bd.cs hfr9)⟩
    rw [show (if 1 ≤ a ∧ a ≤ 30 then (0 : Int) else 1) = cd_left σ a from rfl] at hE9
    obtain ⟨hc9, rfl⟩ := hE9
    · refine vx_catch (name := "java/lang/IllegalArgumentException") hown [] ⟨0, 5, 6, 13⟩ [] (by rw [htb]; rfl) (fun z9 hz9 => nomatch hz9) (by decide) (by decide) (hts (.classLink RL 13 "java/lang/IllegalArgumentException") (by decide +kernel)) (va_Nw.use rfl hX.2.1) hce hcv hcl ?_
      refine lv_astore_n (lv' := [(2, .ref q9), (0, .ref (gad G 152)), (1, .int (iZ a))]) hx hb dL_tryLeft_6 rfl hl (by decide) rfl (fun ls hl => ?_)
      refine lv_ldc (v := iZ (-9999002)) hx hb hown (by rw [show iZ (-9999002) = (-9999002 : Int32) from by decide]; exact hts (.constant RL 15 (-9999002)) (by decide +kernel)) dL_tryLeft_7 ?_
      exact g_iretL (K := kS σ) (post := fun z K1 => z = a_left σ a ∧ K1 = kS σ) (z := -9999002) hx hb hr hG9 hlocks ⟨by unfold a_left; simp [hc9], rfl⟩ ⟨Nat.le_of_ble_eq_true rfl, Nat.le_of_ble_eq_true rfl⟩ dL_tryLeft_9
  · obtain ⟨hc9, hz9, hfr9⟩ := hp
    replace hc9 : cd_left σ a = 0 := hc9
    exact g_iretL (K := kS σ) (post := fun z K1 => z = a_left σ a ∧ K1 = kS σ) (z := z1) hx hb hr ⟨M2, hG, hX, hK.cs hfr9, hF.tr (q_bd.cs hfr9)⟩ hlocks ⟨by unfold a_left; rw [if_pos hc9]; exact hz9, rfl⟩ ⟨Nat.le_of_ble_eq_true rfl, Nat.le_of_ble_eq_true rfl⟩ dL_tryLeft_5
set_option maxHeartbeats 4000000 in
set_option maxRecDepth 100000 in
theorem c_L_tryBest (l : Launch) (hl0 : l.stackTraces = false) (G : gG) (hdm : ∀ k, k < 169 → gdm G k) (M0 : Nat → Nat → Int) (σ : gS) (hσ : s_ok σ) (a : Int) (ha9 : -2147483648 ≤ a ∧ a < 2147483648) : gML l yL_tryBest wsL_tryBest ({ frames := 7, cells := 1, slots := 6, locals := 138 } : Room) 1 G M0 (kS σ) [.ref (gad G 152), .int (iZ a)] (fun z K1 => z = a_best σ a ∧ K1 = kS σ) := by
  refine gML_ofW (cc := cL_tryBest) (maxL := 3) (ret := some .int) (by decide) rfl (Nat.le_of_ble_eq_true rfl) ?_
  intro p e s m below meth c ls hx hb hr hml hown hts hlocks htb hl hG
  have hown : s.vm.findClass RL = some m.cls := hown
  have hl : lv_has ls 3 [(0, .ref (gad G 152)), (1, .int (iZ a))] := hl
  obtain ⟨M, hG, hX, hK, hF⟩ := hG
  have hK : q_K M σ := hK
  refine lv_aload_n hx hb dL_tryBest_0 rfl (lv_at hl 0 rfl) ?_
  refine lv_iload_n hx hb dL_tryBest_1 rfl (lv_at hl 1 rfl) ?_
  refine g_callX (b := 152) (As := [.int (iZ a)]) (rest := []) ⟨hx, hb, hml, hown, hts⟩ (c_X5_bestPlace l G M hl0 hdm σ.1 hK.1 hσ.1.1 a ha9) (cwV 1 hts gL_tryBest_X5_bestPlace rfl rfl rfl (by decide +kernel) ⟨Nat.le_of_ble_eq_true rfl, Nat.le_of_ble_eq_true rfl⟩) hX hG (g_recv hG (b := 152) (hdm 152 (by decide)) rfl rfl) rfl hl.1 rfl (Nat.le_of_ble_eq_true rfl) dL_tryBest_2 ⟨Nat.le_of_ble_eq_true rfl, Nat.le_of_ble_eq_true rfl⟩ (fun E9 M2 H locs ce9 q9 hpx hG hce hcv hcl => ?_) (fun z1 M2 H locs hp hG => ?_)
  · obtain ⟨hE9, hfr9⟩ := hpx
    have hG9 : gKH G M0 (kS σ) s H locs := ⟨M2, hG, hX, hK.cs hfr9, hF.tr (q_bd.cs hfr9)⟩
    rw [show (if 0 ≤ a ∧ a < q_nd σ.1 then (0 : Int) else 1) = cd_best σ a from rfl] at hE9
    obtain ⟨hc9, rfl⟩ := hE9
    · refine vx_catch (name := "java/lang/IndexOutOfBoundsException") hown [] ⟨0, 5, 6, 41⟩ [] (by rw [htb]; rfl) (fun z9 hz9 => nomatch hz9) (by decide) (by decide) (hts (.classLink RL 41 "java/lang/IndexOutOfBoundsException") (by decide +kernel)) (va_Nw.use rfl hX.2.2.2.1) hce hcv hcl ?_
      refine lv_astore_n (lv' := [(2, .ref q9), (0, .ref (gad G 152)), (1, .int (iZ a))]) hx hb dL_tryBest_6 rfl hl (by decide) rfl (fun ls hl => ?_)
      refine lv_ldc (v := iZ (-9999001)) hx hb hown (by rw [show iZ (-9999001) = (-9999001 : Int32) from by decide]; exact hts (.constant RL 43 (-9999001)) (by decide +kernel)) dL_tryBest_7 ?_
      exact g_iretL (K := kS σ) (post := fun z K1 => z = a_best σ a ∧ K1 = kS σ) (z := -9999001) hx hb hr hG9 hlocks ⟨by unfold a_best; simp [hc9], rfl⟩ ⟨Nat.le_of_ble_eq_true rfl, Nat.le_of_ble_eq_true rfl⟩ dL_tryBest_9
  · obtain ⟨hc9, hz9, hfr9⟩ := hp
    replace hc9 : cd_best σ a = 0 := hc9
    exact g_iretL (K := kS σ) (post := fun z K1 => z = a_best σ a ∧ K1 = kS σ) (z := z1) hx hb hr ⟨M2, hG, hX, hK.cs hfr9, hF.tr (q_bd.cs hfr9)⟩ hlocks ⟨by unfold a_best; rw [if_pos hc9]; exact hz9, rfl⟩ ⟨Nat.le_of_ble_eq_true rfl, Nat.le_of_ble_eq_true rfl⟩ dL_tryBest_5
set_option maxHeartbeats 4000000 in
set_option maxRecDepth 100000 in
theorem c_L_tryMay (l : Launch) (hl0 : l.stackTraces = false) (G : gG) (hdm : ∀ k, k < 169 → gdm G k) (M0 : Nat → Nat → Int) (σ : gS) (hσ : s_ok σ) (a : Int) (ha9 : -2147483648 ≤ a ∧ a < 2147483648) (b : Int) (hb9 : -2147483648 ≤ b ∧ b < 2147483648) : gML l yL_tryMay wsL_tryMay ({ frames := 7, cells := 1, slots := 6, locals := 115 } : Room) 1 G M0 (kS σ) [.ref (gad G 152), .int (iZ a), .int (iZ b)] (fun z K1 => z = a_may σ a b ∧ K1 = kS σ) := by
  refine gML_ofW (cc := cL_tryMay) (maxL := 4) (ret := some .int) (by decide) rfl (Nat.le_of_ble_eq_true rfl) ?_
  intro p e s m below meth c ls hx hb hr hml hown hts hlocks htb hl hG
  have hown : s.vm.findClass RL = some m.cls := hown
  have hl : lv_has ls 4 [(0, .ref (gad G 152)), (1, .int (iZ a)), (2, .int (iZ b))] := hl
  obtain ⟨M, hG, hX, hK, hF⟩ := hG
  have hK : q_K M σ := hK
  refine lv_aload_n hx hb dL_tryMay_0 rfl (lv_at hl 0 rfl) ?_
  refine lv_iload_n hx hb dL_tryMay_1 rfl (lv_at hl 1 rfl) ?_
  refine lv_iload_n hx hb dL_tryMay_2 rfl (lv_at hl 2 rfl) ?_
  refine g_callX (b := 152) (As := [.int (iZ a), .int (iZ b)]) (rest := []) ⟨hx, hb, hml, hown, hts⟩ (c_X5_mayLose l G M hl0 hdm σ.1 hK.1 hσ.1.1 a ha9 b hb9) (cwV 2 hts gL_tryMay_X5_mayLose rfl rfl rfl (by decide +kernel) ⟨Nat.le_of_ble_eq_true rfl, Nat.le_of_ble_eq_true rfl⟩) hX hG (g_recv hG (b := 152) (hdm 152 (by decide)) rfl rfl) rfl hl.1 rfl (Nat.le_of_ble_eq_true rfl) dL_tryMay_3 ⟨Nat.le_of_ble_eq_true rfl, Nat.le_of_ble_eq_true rfl⟩ (fun E9 M2 H locs ce9 q9 hpx hG hce hcv hcl => ?_) (fun z1 M2 H locs hp hG => ?_)
  · obtain ⟨hE9, hfr9⟩ := hpx
    have hG9 : gKH G M0 (kS σ) s H locs := ⟨M2, hG, hX, hK.cs hfr9, hF.tr (q_bd.cs hfr9)⟩
    rw [show (if ¬ (0 ≤ a ∧ a < q_nd σ.1) then (1 : Int) else if ¬ (1 ≤ b ∧ b ≤ 12) then 2 else 0) = cd_may σ a b from rfl] at hE9
    rcases hE9 with ⟨hc9, rfl⟩ | ⟨hc9, rfl⟩
    · refine vx_catch (name := "java/lang/IndexOutOfBoundsException") hown [] ⟨0, 6, 7, 41⟩ [⟨0, 6, 11, 13⟩] (by rw [htb]; rfl) (fun z9 hz9 => nomatch hz9) (by decide) (by decide) (hts (.classLink RL 41 "java/lang/IndexOutOfBoundsException") (by decide +kernel)) (va_Nw.use rfl hX.2.2.2.1) hce hcv hcl ?_
      refine lv_astore_n (lv' := [(3, .ref q9), (0, .ref (gad G 152)), (1, .int (iZ a)), (2, .int (iZ b))]) hx hb dL_tryMay_7 rfl hl (by decide) rfl (fun ls hl => ?_)
      refine lv_ldc (v := iZ (-9999001)) hx hb hown (by rw [show iZ (-9999001) = (-9999001 : Int32) from by decide]; exact hts (.constant RL 43 (-9999001)) (by decide +kernel)) dL_tryMay_8 ?_
      exact g_iretL (K := kS σ) (post := fun z K1 => z = a_may σ a b ∧ K1 = kS σ) (z := -9999001) hx hb hr hG9 hlocks ⟨by unfold a_may; simp [hc9], rfl⟩ ⟨Nat.le_of_ble_eq_true rfl, Nat.le_of_ble_eq_true rfl⟩ dL_tryMay_10
    · refine vx_catch (name := "java/lang/IllegalArgumentException") hown [⟨0, 6, 7, 41⟩] ⟨0, 6, 11, 13⟩ [] (by rw [htb]; rfl) (fun z9 hz9 => by simp only [List.mem_cons, List.not_mem_nil, or_false] at hz9; subst hz9; exact Or.inr ⟨by decide, "java/lang/IndexOutOfBoundsException", hts (.classLink RL 41 "java/lang/IndexOutOfBoundsException") (by decide +kernel), hX.2.2.2.2.2.1⟩) (by decide) (by decide) (hts (.classLink RL 13 "java/lang/IllegalArgumentException") (by decide +kernel)) (va_Nw.use rfl hX.2.1) hce hcv hcl ?_
      refine lv_astore_n (lv' := [(3, .ref q9), (0, .ref (gad G 152)), (1, .int (iZ a)), (2, .int (iZ b))]) hx hb dL_tryMay_11 rfl hl (by decide) rfl (fun ls hl => ?_)
      refine lv_ldc (v := iZ (-9999002)) hx hb hown (by rw [show iZ (-9999002) = (-9999002 : Int32) from by decide]; exact hts (.constant RL 15 (-9999002)) (by decide +kernel)) dL_tryMay_12 ?_
      exact g_iretL (K := kS σ) (post := fun z K1 => z = a_may σ a b ∧ K1 = kS σ) (z := -9999002) hx hb hr hG9 hlocks ⟨by unfold a_may; simp [hc9], rfl⟩ ⟨Nat.le_of_ble_eq_true rfl, Nat.le_of_ble_eq_true rfl⟩ dL_tryMay_14
  · obtain ⟨hc9, hz9, hfr9⟩ := hp
    replace hc9 : cd_may σ a b = 0 := hc9
    exact g_iretL (K := kS σ) (post := fun z K1 => z = a_may σ a b ∧ K1 = kS σ) (z := z1) hx hb hr ⟨M2, hG, hX, hK.cs hfr9, hF.tr (q_bd.cs hfr9)⟩ hlocks ⟨by unfold a_may; rw [if_pos hc9]; exact hz9, rfl⟩ ⟨Nat.le_of_ble_eq_true rfl, Nat.le_of_ble_eq_true rfl⟩ dL_tryMay_6
set_option maxHeartbeats 4000000 in
set_option maxRecDepth 100000 in
theorem c_L_tryScript (l : Launch) (hl0 : l.stackTraces = false) (G : gG) (hdm : ∀ k, k < 169 → gdm G k) (M0 : Nat → Nat → Int) (σ : gS) (hσ : s_ok σ) (a : Int) (ha9 : -2147483648 ≤ a ∧ a < 2147483648) (v : Int) (hv9 : -9223372036854775808 ≤ v ∧ v < 9223372036854775808) : gML l yL_tryScript wsL_tryScript ({ frames := 7, cells := 1, slots := 6, locals := 166 } : Room) 1 G M0 (kS σ) [.ref (gad G 152), .int (iZ a), .long (lZ v)] (fun z K1 => z = a_script σ a v ∧ K1 = kS σ) := by
  refine gML_ofW (cc := cL_tryScript) (maxL := 5) (ret := some .int) (by decide) rfl (Nat.le_of_ble_eq_true rfl) ?_
  intro p e s m below meth c ls hx hb hr hml hown hts hlocks htb hl hG
  have hown : s.vm.findClass RL = some m.cls := hown
  have hl : lv_has ls 5 [(0, .ref (gad G 152)), (1, .int (iZ a)), (2, .long (lZ v))] := hl
  obtain ⟨M, hG, hX, hK, hF⟩ := hG
  have hK : q_K M σ := hK
  refine lv_aload_n hx hb dL_tryScript_0 rfl (lv_at hl 0 rfl) ?_
  refine lv_iload_n hx hb dL_tryScript_1 rfl (lv_at hl 1 rfl) ?_
  refine lv_lload_n hx hb dL_tryScript_2 rfl (lv_at hl 2 rfl) ?_
  refine g_callX (b := 152) (As := [.int (iZ a), .long (lZ v)]) (rest := []) ⟨hx, hb, hml, hown, hts⟩ (c_X5_runScript l G M hl0 hdm σ.1 hK.1 hσ.1.1 a ha9 v hv9) (cwV 2 hts gL_tryScript_X5_runScript rfl rfl rfl (by decide +kernel) ⟨Nat.le_of_ble_eq_true rfl, Nat.le_of_ble_eq_true rfl⟩) hX hG (g_recv hG (b := 152) (hdm 152 (by decide)) rfl rfl) rfl hl.1 rfl (Nat.le_of_ble_eq_true rfl) dL_tryScript_3 ⟨Nat.le_of_ble_eq_true rfl, Nat.le_of_ble_eq_true rfl⟩ (fun E9 M2 H locs ce9 q9 hpx hG hce hcv hcl => ?_) (fun z1 M2 H locs hp hG => ?_)
  · obtain ⟨hE9, hfr9⟩ := hpx
    have hG9 : gKH G M0 (kS σ) s H locs := ⟨M2, hG, hX, hK.cs hfr9, hF.tr (q_bd.cs hfr9)⟩
    rw [show (if (1 ≤ a ∧ a ≤ 4) ∧ 0 ≤ v ∧ v < q_p4 a.toNat then (0 : Int) else 1) = cd_script σ a v from rfl] at hE9
    obtain ⟨hc9, rfl⟩ := hE9
    · refine vx_catch (name := "java/lang/IllegalArgumentException") hown [] ⟨0, 6, 7, 13⟩ [] (by rw [htb]; rfl) (fun z9 hz9 => nomatch hz9) (by decide) (by decide) (hts (.classLink RL 13 "java/lang/IllegalArgumentException") (by decide +kernel)) (va_Nw.use rfl hX.2.1) hce hcv hcl ?_
      refine lv_astore (lv' := [(4, .ref q9), (0, .ref (gad G 152)), (1, .int (iZ a)), (2, .long (lZ v))]) hx hb dL_tryScript_7 hl (by decide) rfl (fun ls hl => ?_)
      refine lv_ldc (v := iZ (-9999002)) hx hb hown (by rw [show iZ (-9999002) = (-9999002 : Int32) from by decide]; exact hts (.constant RL 15 (-9999002)) (by decide +kernel)) dL_tryScript_9 ?_
      exact g_iretL (K := kS σ) (post := fun z K1 => z = a_script σ a v ∧ K1 = kS σ) (z := -9999002) hx hb hr hG9 hlocks ⟨by unfold a_script; simp [hc9], rfl⟩ ⟨Nat.le_of_ble_eq_true rfl, Nat.le_of_ble_eq_true rfl⟩ dL_tryScript_11
  · obtain ⟨hc9, hz9, hfr9⟩ := hp
    replace hc9 : cd_script σ a v = 0 := hc9
    exact g_iretL (K := kS σ) (post := fun z K1 => z = a_script σ a v ∧ K1 = kS σ) (z := z1) hx hb hr ⟨M2, hG, hX, hK.cs hfr9, hF.tr (q_bd.cs hfr9)⟩ hlocks ⟨by unfold a_script; rw [if_pos hc9]; exact hz9, rfl⟩ ⟨Nat.le_of_ble_eq_true rfl, Nat.le_of_ble_eq_true rfl⟩ dL_tryScript_6
set_option maxHeartbeats 4000000 in
set_option maxRecDepth 100000 in
theorem c_L_trySimulate (l : Launch) (hl0 : l.stackTraces = false) (G : gG) (hdm : ∀ k, k < 169 → gdm G k) (M0 : Nat → Nat → Int) (σ : gS) (hσ : s_ok σ) (v : Int) (hv9 : -9223372036854775808 ≤ v ∧ v < 9223372036854775808) (a : Int) (ha9 : -2147483648 ≤ a ∧ a < 2147483648) : gML l yL_trySimulate wsL_trySimulate ({ frames := 7, cells := 1, slots := 6, locals := 167 } : Room) 1 G M0 (kS σ) [.ref (gad G 152), .long (lZ v), .int (iZ a)] (fun z K1 => z = a_simulate σ v a ∧ K1 = kS σ) := by
  refine gML_ofW (cc := cL_trySimulate) (maxL := 5) (ret := some .int) (by decide) rfl (Nat.le_of_ble_eq_true rfl) ?_
  intro p e s m below meth c ls hx hb hr hml hown hts hlocks htb hl hG
  have hown : s.vm.findClass RL = some m.cls := hown
  have hl : lv_has ls 5 [(0, .ref (gad G 152)), (1, .long (lZ v)), (3, .int (iZ a))] := hl
  obtain ⟨M, hG, hX, hK, hF⟩ := hG
  have hK : q_K M σ := hK
  refine lv_aload_n hx hb dL_trySimulate_0 rfl (lv_at hl 0 rfl) ?_
  refine lv_lload_n hx hb dL_trySimulate_1 rfl (lv_at hl 1 rfl) ?_
  refine lv_iload_n hx hb dL_trySimulate_2 rfl (lv_at hl 2 rfl) ?_
  refine g_callX (b := 152) (As := [.long (lZ v), .int (iZ a)]) (rest := []) ⟨hx, hb, hml, hown, hts⟩ (c_X5_simulate l G M hl0 hdm σ.1 hK.1 hσ.1.1 v hv9 a ha9) (cwV 2 hts gL_trySimulate_X5_simulate rfl rfl rfl (by decide +kernel) ⟨Nat.le_of_ble_eq_true rfl, Nat.le_of_ble_eq_true rfl⟩) hX hG (g_recv hG (b := 152) (hdm 152 (by decide)) rfl rfl) rfl hl.1 rfl (Nat.le_of_ble_eq_true rfl) dL_trySimulate_3 ⟨Nat.le_of_ble_eq_true rfl, Nat.le_of_ble_eq_true rfl⟩ (fun E9 M2 H locs ce9 q9 hpx hG hce hcv hcl => ?_) (fun z1 M2 H locs hp hG => ?_)
  · obtain ⟨hE9, hfr9⟩ := hpx
    have hG9 : gKH G M0 (kS σ) s H locs := ⟨M2, hG, hX, hK.cs hfr9, hF.tr (q_bd.cs hfr9)⟩
    rw [show (if 1 ≤ a ∧ a ≤ 99 then (0 : Int) else 1) = cd_simulate σ v a from rfl] at hE9
    obtain ⟨hc9, rfl⟩ := hE9
    · refine vx_catch (name := "java/lang/IllegalArgumentException") hown [] ⟨0, 6, 7, 13⟩ [] (by rw [htb]; rfl) (fun z9 hz9 => nomatch hz9) (by decide) (by decide) (hts (.classLink RL 13 "java/lang/IllegalArgumentException") (by decide +kernel)) (va_Nw.use rfl hX.2.1) hce hcv hcl ?_
      refine lv_astore (lv' := [(4, .ref q9), (0, .ref (gad G 152)), (1, .long (lZ v)), (3, .int (iZ a))]) hx hb dL_trySimulate_7 hl (by decide) rfl (fun ls hl => ?_)
      refine lv_ldc (v := iZ (-9999002)) hx hb hown (by rw [show iZ (-9999002) = (-9999002 : Int32) from by decide]; exact hts (.constant RL 15 (-9999002)) (by decide +kernel)) dL_trySimulate_9 ?_
      exact g_iretL (K := kS σ) (post := fun z K1 => z = a_simulate σ v a ∧ K1 = kS σ) (z := -9999002) hx hb hr hG9 hlocks ⟨by unfold a_simulate; simp [hc9], rfl⟩ ⟨Nat.le_of_ble_eq_true rfl, Nat.le_of_ble_eq_true rfl⟩ dL_trySimulate_11
  · obtain ⟨hc9, hz9, hfr9⟩ := hp
    replace hc9 : cd_simulate σ v a = 0 := hc9
    exact g_iretL (K := kS σ) (post := fun z K1 => z = a_simulate σ v a ∧ K1 = kS σ) (z := z1) hx hb hr ⟨M2, hG, hX, hK.cs hfr9, hF.tr (q_bd.cs hfr9)⟩ hlocks ⟨by unfold a_simulate; rw [if_pos hc9]; exact hz9, rfl⟩ ⟨Nat.le_of_ble_eq_true rfl, Nat.le_of_ble_eq_true rfl⟩ dL_trySimulate_6
set_option maxHeartbeats 4000000 in
set_option maxRecDepth 100000 in
theorem c_L_tryEnter (l : Launch) (hl0 : l.stackTraces = false) (G : gG) (hdm : ∀ k, k < 169 → gdm G k) (M0 : Nat → Nat → Int) (σ : gS) (hσ : s_ok σ) (a : Int) (ha9 : -2147483648 ≤ a ∧ a < 2147483648) (b : Int) (hb9 : -2147483648 ≤ b ∧ b < 2147483648) : gML l yL_tryEnter wsL_tryEnter ({ frames := 7, cells := 1, slots := 6, locals := 113 } : Room) 1 G M0 (kS σ) [.ref (gad G 152), .int (iZ a), .int (iZ b)] (fun z K1 => z = a_enter σ a b ∧ K1 = kS (t_enter σ a b)) := by
  refine gML_ofW (cc := cL_tryEnter) (maxL := 4) (ret := some .int) (by decide) rfl (Nat.le_of_ble_eq_true rfl) ?_
  intro p e s m below meth c ls hx hb hr hml hown hts hlocks htb hl hG
  have hown : s.vm.findClass RL = some m.cls := hown
  have hl : lv_has ls 4 [(0, .ref (gad G 152)), (1, .int (iZ a)), (2, .int (iZ b))] := hl
  obtain ⟨M, hG, hX, hK, hF⟩ := hG
  have hK : q_K M σ := hK
  obtain ⟨o, ho, hm1, hst⟩ := hK.2.1
  have hm2 := hK.2.2.1
  refine lv_aload_n hx hb dL_tryEnter_0 rfl (lv_at hl 0 rfl) ?_
  refine lv_iload_n hx hb dL_tryEnter_1 rfl (lv_at hl 1 rfl) ?_
  refine lv_iload_n hx hb dL_tryEnter_2 rfl (lv_at hl 2 rfl) ?_
  refine g_callX (b := 152) (As := [.int (iZ a), .int (iZ b)]) (rest := []) ⟨hx, hb, hml, hown, hts⟩ (c_X5_enter l G M hl0 hdm σ.1 hK.1 hσ.1.1 o σ.2.1 ho hσ.2.1 hm1 hm2 a ha9 b hb9) (cwV 2 hts gL_tryEnter_X5_enter rfl rfl rfl (by decide +kernel) ⟨Nat.le_of_ble_eq_true rfl, Nat.le_of_ble_eq_true rfl⟩) hX hG (g_recv hG (b := 152) (hdm 152 (by decide)) rfl rfl) rfl hl.1 rfl (Nat.le_of_ble_eq_true rfl) dL_tryEnter_3 ⟨Nat.le_of_ble_eq_true rfl, Nat.le_of_ble_eq_true rfl⟩ (fun E9 M2 H locs ce9 q9 hpx hG hce hcv hcl => ?_) (fun z1 M2 H locs hp hG => ?_)
  · obtain ⟨hE9, hfr9⟩ := hpx
    have hG9 : gKH G M0 (kS σ) s H locs := ⟨M2, hG, hX, hK.cs hfr9, hF.tr (q_bd.cs hfr9)⟩
    rw [show (if ¬ (0 ≤ a ∧ a ≤ 5 ∧ 1 ≤ b ∧ b ≤ 99) then (1 : Int) else if 12 ≤ q_nd σ.1 ∨ q_dn σ.1 b (-9) (q_nd σ.1).toNat = true then 2 else 0) = cd_enter σ a b from rfl] at hE9
    rcases hE9 with ⟨hc9, rfl⟩ | ⟨hc9, rfl⟩
    · refine vx_catch (name := "java/lang/IllegalArgumentException") hown [] ⟨0, 6, 7, 13⟩ [⟨0, 6, 11, 16⟩] (by rw [htb]; rfl) (fun z9 hz9 => nomatch hz9) (by decide) (by decide) (hts (.classLink RL 13 "java/lang/IllegalArgumentException") (by decide +kernel)) (va_Nw.use rfl hX.2.1) hce hcv hcl ?_
      refine lv_astore_n (lv' := [(3, .ref q9), (0, .ref (gad G 152)), (1, .int (iZ a)), (2, .int (iZ b))]) hx hb dL_tryEnter_7 rfl hl (by decide) rfl (fun ls hl => ?_)
      refine lv_ldc (v := iZ (-9999002)) hx hb hown (by rw [show iZ (-9999002) = (-9999002 : Int32) from by decide]; exact hts (.constant RL 15 (-9999002)) (by decide +kernel)) dL_tryEnter_8 ?_
      exact g_iretL (K := kS σ) (post := fun z K1 => z = a_enter σ a b ∧ K1 = kS (t_enter σ a b)) (z := -9999002) hx hb hr hG9 hlocks ⟨by unfold a_enter; simp [hc9], by unfold t_enter; simp [hc9]⟩ ⟨Nat.le_of_ble_eq_true rfl, Nat.le_of_ble_eq_true rfl⟩ dL_tryEnter_10
    · refine vx_catch (name := "java/lang/IllegalStateException") hown [⟨0, 6, 7, 13⟩] ⟨0, 6, 11, 16⟩ [] (by rw [htb]; rfl) (fun z9 hz9 => by simp only [List.mem_cons, List.not_mem_nil, or_false] at hz9; subst hz9; exact Or.inr ⟨by decide, "java/lang/IllegalArgumentException", hts (.classLink RL 13 "java/lang/IllegalArgumentException") (by decide +kernel), hX.2.2.2.2.1⟩) (by decide) (by decide) (hts (.classLink RL 16 "java/lang/IllegalStateException") (by decide +kernel)) (va_Nw.use rfl hX.2.2.1) hce hcv hcl ?_
      refine lv_astore_n (lv' := [(3, .ref q9), (0, .ref (gad G 152)), (1, .int (iZ a)), (2, .int (iZ b))]) hx hb dL_tryEnter_11 rfl hl (by decide) rfl (fun ls hl => ?_)
      refine lv_ldc (v := iZ (-9999003)) hx hb hown (by rw [show iZ (-9999003) = (-9999003 : Int32) from by decide]; exact hts (.constant RL 18 (-9999003)) (by decide +kernel)) dL_tryEnter_12 ?_
      exact g_iretL (K := kS σ) (post := fun z K1 => z = a_enter σ a b ∧ K1 = kS (t_enter σ a b)) (z := -9999003) hx hb hr hG9 hlocks ⟨by unfold a_enter; simp [hc9], by unfold t_enter; simp [hc9]⟩ ⟨Nat.le_of_ble_eq_true rfl, Nat.le_of_ble_eq_true rfl⟩ dL_tryEnter_14
  · obtain ⟨hc9, hz9, hfr9⟩ := hp
    replace hc9 : cd_enter σ a b = 0 := hc9
    have hK9 : q_K M2 (t_enter σ a b) := by unfold t_enter; rw [if_pos hc9]; exact hK.act hσ.2.1 ho hm1 hfr9
    exact g_iretL (K := kS (t_enter σ a b)) (post := fun z K1 => z = a_enter σ a b ∧ K1 = kS (t_enter σ a b)) (z := z1) hx hb hr ⟨M2, hG, hX, hK9, hF.tr (q_bd.act hfr9)⟩ hlocks ⟨by unfold a_enter; rw [if_pos hc9]; exact hz9, rfl⟩ ⟨Nat.le_of_ble_eq_true rfl, Nat.le_of_ble_eq_true rfl⟩ dL_tryEnter_6
set_option maxHeartbeats 4000000 in
set_option maxRecDepth 100000 in
theorem c_L_tryWithdraw (l : Launch) (hl0 : l.stackTraces = false) (G : gG) (hdm : ∀ k, k < 169 → gdm G k) (M0 : Nat → Nat → Int) (σ : gS) (hσ : s_ok σ) (a : Int) (ha9 : -2147483648 ≤ a ∧ a < 2147483648) : gML l yL_tryWithdraw wsL_tryWithdraw ({ frames := 7, cells := 1, slots := 6, locals := 113 } : Room) 1 G M0 (kS σ) [.ref (gad G 152), .int (iZ a)] (fun z K1 => z = a_withdraw σ a ∧ K1 = kS (t_withdraw σ a)) := by
  refine gML_ofW (cc := cL_tryWithdraw) (maxL := 3) (ret := some .int) (by decide) rfl (Nat.le_of_ble_eq_true rfl) ?_
  intro p e s m below meth c ls hx hb hr hml hown hts hlocks htb hl hG
  have hown : s.vm.findClass RL = some m.cls := hown
  have hl : lv_has ls 3 [(0, .ref (gad G 152)), (1, .int (iZ a))] := hl
  obtain ⟨M, hG, hX, hK, hF⟩ := hG
  have hK : q_K M σ := hK
  obtain ⟨o, ho, hm1, hst⟩ := hK.2.1
  have hm2 := hK.2.2.1
  refine lv_aload_n hx hb dL_tryWithdraw_0 rfl (lv_at hl 0 rfl) ?_
  refine lv_iload_n hx hb dL_tryWithdraw_1 rfl (lv_at hl 1 rfl) ?_
  refine g_callX (b := 152) (As := [.int (iZ a)]) (rest := []) ⟨hx, hb, hml, hown, hts⟩ (c_X5_withdraw l G M hl0 hdm σ.1 hK.1 hσ.1.1 o σ.2.1 ho hσ.2.1 hm1 hm2 a ha9) (cwV 1 hts gL_tryWithdraw_X5_withdraw rfl rfl rfl (by decide +kernel) ⟨Nat.le_of_ble_eq_true rfl, Nat.le_of_ble_eq_true rfl⟩) hX hG (g_recv hG (b := 152) (hdm 152 (by decide)) rfl rfl) rfl hl.1 rfl (Nat.le_of_ble_eq_true rfl) dL_tryWithdraw_2 ⟨Nat.le_of_ble_eq_true rfl, Nat.le_of_ble_eq_true rfl⟩ (fun E9 M2 H locs ce9 q9 hpx hG hce hcv hcl => ?_) (fun z1 M2 H locs hp hG => ?_)
  · obtain ⟨hE9, hfr9⟩ := hpx
    have hG9 : gKH G M0 (kS σ) s H locs := ⟨M2, hG, hX, hK.cs hfr9, hF.tr (q_bd.cs hfr9)⟩
    rw [show (if ¬ (0 ≤ a ∧ a < q_nd σ.1) then (1 : Int) else if q_sa σ.1 a.toNat = 3 then 2 else 0) = cd_withdraw σ a from rfl] at hE9
    rcases hE9 with ⟨hc9, rfl⟩ | ⟨hc9, rfl⟩
    · refine vx_catch (name := "java/lang/IndexOutOfBoundsException") hown [] ⟨0, 5, 6, 41⟩ [⟨0, 5, 10, 16⟩] (by rw [htb]; rfl) (fun z9 hz9 => nomatch hz9) (by decide) (by decide) (hts (.classLink RL 41 "java/lang/IndexOutOfBoundsException") (by decide +kernel)) (va_Nw.use rfl hX.2.2.2.1) hce hcv hcl ?_
      refine lv_astore_n (lv' := [(2, .ref q9), (0, .ref (gad G 152)), (1, .int (iZ a))]) hx hb dL_tryWithdraw_6 rfl hl (by decide) rfl (fun ls hl => ?_)
      refine lv_ldc (v := iZ (-9999001)) hx hb hown (by rw [show iZ (-9999001) = (-9999001 : Int32) from by decide]; exact hts (.constant RL 43 (-9999001)) (by decide +kernel)) dL_tryWithdraw_7 ?_
      exact g_iretL (K := kS σ) (post := fun z K1 => z = a_withdraw σ a ∧ K1 = kS (t_withdraw σ a)) (z := -9999001) hx hb hr hG9 hlocks ⟨by unfold a_withdraw; simp [hc9], by unfold t_withdraw; simp [hc9]⟩ ⟨Nat.le_of_ble_eq_true rfl, Nat.le_of_ble_eq_true rfl⟩ dL_tryWithdraw_9
    · refine vx_catch (name := "java/lang/IllegalStateException") hown [⟨0, 5, 6, 41⟩] ⟨0, 5, 10, 16⟩ [] (by rw [htb]; rfl) (fun z9 hz9 => by simp only [List.mem_cons, List.not_mem_nil, or_false] at hz9; subst hz9; exact Or.inr ⟨by decide, "java/lang/IndexOutOfBoundsException", hts (.classLink RL 41 "java/lang/IndexOutOfBoundsException") (by decide +kernel), hX.2.2.2.2.2.2.1⟩) (by decide) (by decide) (hts (.classLink RL 16 "java/lang/IllegalStateException") (by decide +kernel)) (va_Nw.use rfl hX.2.2.1) hce hcv hcl ?_
      refine lv_astore_n (lv' := [(2, .ref q9), (0, .ref (gad G 152)), (1, .int (iZ a))]) hx hb dL_tryWithdraw_10 rfl hl (by decide) rfl (fun ls hl => ?_)
      refine lv_ldc (v := iZ (-9999003)) hx hb hown (by rw [show iZ (-9999003) = (-9999003 : Int32) from by decide]; exact hts (.constant RL 18 (-9999003)) (by decide +kernel)) dL_tryWithdraw_11 ?_
      exact g_iretL (K := kS σ) (post := fun z K1 => z = a_withdraw σ a ∧ K1 = kS (t_withdraw σ a)) (z := -9999003) hx hb hr hG9 hlocks ⟨by unfold a_withdraw; simp [hc9], by unfold t_withdraw; simp [hc9]⟩ ⟨Nat.le_of_ble_eq_true rfl, Nat.le_of_ble_eq_true rfl⟩ dL_tryWithdraw_13
  · obtain ⟨hc9, hz9, hfr9⟩ := hp
    replace hc9 : cd_withdraw σ a = 0 := hc9
    have hK9 : q_K M2 (t_withdraw σ a) := by unfold t_withdraw; rw [if_pos hc9]; exact hK.act hσ.2.1 ho hm1 hfr9
    exact g_iretL (K := kS (t_withdraw σ a)) (post := fun z K1 => z = a_withdraw σ a ∧ K1 = kS (t_withdraw σ a)) (z := z1) hx hb hr ⟨M2, hG, hX, hK9, hF.tr (q_bd.act hfr9)⟩ hlocks ⟨by unfold a_withdraw; rw [if_pos hc9]; exact hz9, rfl⟩ ⟨Nat.le_of_ble_eq_true rfl, Nat.le_of_ble_eq_true rfl⟩ dL_tryWithdraw_5
set_option maxHeartbeats 4000000 in
set_option maxRecDepth 100000 in
theorem c_L_tryInterfere (l : Launch) (hl0 : l.stackTraces = false) (G : gG) (hdm : ∀ k, k < 169 → gdm G k) (M0 : Nat → Nat → Int) (σ : gS) (hσ : s_ok σ) (a : Int) (ha9 : -2147483648 ≤ a ∧ a < 2147483648) (b : Int) (hb9 : -2147483648 ≤ b ∧ b < 2147483648) : gML l yL_tryInterfere wsL_tryInterfere ({ frames := 7, cells := 1, slots := 6, locals := 113 } : Room) 1 G M0 (kS σ) [.ref (gad G 152), .int (iZ a), .int (iZ b)] (fun z K1 => z = a_interfere σ a b ∧ K1 = kS (t_interfere σ a b)) := by
  refine gML_ofW (cc := cL_tryInterfere) (maxL := 4) (ret := some .int) (by decide) rfl (Nat.le_of_ble_eq_true rfl) ?_
  intro p e s m below meth c ls hx hb hr hml hown hts hlocks htb hl hG
  have hown : s.vm.findClass RL = some m.cls := hown
  have hl : lv_has ls 4 [(0, .ref (gad G 152)), (1, .int (iZ a)), (2, .int (iZ b))] := hl
  obtain ⟨M, hG, hX, hK, hF⟩ := hG
  have hK : q_K M σ := hK
  obtain ⟨o, ho, hm1, hst⟩ := hK.2.1
  have hm2 := hK.2.2.1
  refine lv_aload_n hx hb dL_tryInterfere_0 rfl (lv_at hl 0 rfl) ?_
  refine lv_iload_n hx hb dL_tryInterfere_1 rfl (lv_at hl 1 rfl) ?_
  refine lv_iload_n hx hb dL_tryInterfere_2 rfl (lv_at hl 2 rfl) ?_
  refine g_callX (b := 152) (As := [.int (iZ a), .int (iZ b)]) (rest := []) ⟨hx, hb, hml, hown, hts⟩ (c_X5_interfere l G M hl0 hdm σ.1 hK.1 hσ.1.1 o σ.2.1 ho hσ.2.1 hm1 hm2 a ha9 b hb9) (cwV 2 hts gL_tryInterfere_X5_interfere rfl rfl rfl (by decide +kernel) ⟨Nat.le_of_ble_eq_true rfl, Nat.le_of_ble_eq_true rfl⟩) hX hG (g_recv hG (b := 152) (hdm 152 (by decide)) rfl rfl) rfl hl.1 rfl (Nat.le_of_ble_eq_true rfl) dL_tryInterfere_3 ⟨Nat.le_of_ble_eq_true rfl, Nat.le_of_ble_eq_true rfl⟩ (fun E9 M2 H locs ce9 q9 hpx hG hce hcv hcl => ?_) (fun z1 M2 H locs hp hG => ?_)
  · obtain ⟨hE9, hfr9⟩ := hpx
    have hG9 : gKH G M0 (kS σ) s H locs := ⟨M2, hG, hX, hK.cs hfr9, hF.tr (q_bd.cs hfr9)⟩
    rw [show (if ¬ (0 ≤ a ∧ a < q_nd σ.1 ∧ 0 ≤ b ∧ b ≤ 5) then (1 : Int) else if q_sa σ.1 a.toNat ≠ 1 then 2 else 0) = cd_interfere σ a b from rfl] at hE9
    rcases hE9 with ⟨hc9, rfl⟩ | ⟨hc9, rfl⟩
    · refine vx_catch (name := "java/lang/IndexOutOfBoundsException") hown [] ⟨0, 6, 7, 41⟩ [⟨0, 6, 11, 16⟩] (by rw [htb]; rfl) (fun z9 hz9 => nomatch hz9) (by decide) (by decide) (hts (.classLink RL 41 "java/lang/IndexOutOfBoundsException") (by decide +kernel)) (va_Nw.use rfl hX.2.2.2.1) hce hcv hcl ?_
      refine lv_astore_n (lv' := [(3, .ref q9), (0, .ref (gad G 152)), (1, .int (iZ a)), (2, .int (iZ b))]) hx hb dL_tryInterfere_7 rfl hl (by decide) rfl (fun ls hl => ?_)
      refine lv_ldc (v := iZ (-9999001)) hx hb hown (by rw [show iZ (-9999001) = (-9999001 : Int32) from by decide]; exact hts (.constant RL 43 (-9999001)) (by decide +kernel)) dL_tryInterfere_8 ?_
      exact g_iretL (K := kS σ) (post := fun z K1 => z = a_interfere σ a b ∧ K1 = kS (t_interfere σ a b)) (z := -9999001) hx hb hr hG9 hlocks ⟨by unfold a_interfere; simp [hc9], by unfold t_interfere; simp [hc9]⟩ ⟨Nat.le_of_ble_eq_true rfl, Nat.le_of_ble_eq_true rfl⟩ dL_tryInterfere_10
    · refine vx_catch (name := "java/lang/IllegalStateException") hown [⟨0, 6, 7, 41⟩] ⟨0, 6, 11, 16⟩ [] (by rw [htb]; rfl) (fun z9 hz9 => by simp only [List.mem_cons, List.not_mem_nil, or_false] at hz9; subst hz9; exact Or.inr ⟨by decide, "java/lang/IndexOutOfBoundsException", hts (.classLink RL 41 "java/lang/IndexOutOfBoundsException") (by decide +kernel), hX.2.2.2.2.2.2.1⟩) (by decide) (by decide) (hts (.classLink RL 16 "java/lang/IllegalStateException") (by decide +kernel)) (va_Nw.use rfl hX.2.2.1) hce hcv hcl ?_
      refine lv_astore_n (lv' := [(3, .ref q9), (0, .ref (gad G 152)), (1, .int (iZ a)), (2, .int (iZ b))]) hx hb dL_tryInterfere_11 rfl hl (by decide) rfl (fun ls hl => ?_)
      refine lv_ldc (v := iZ (-9999003)) hx hb hown (by rw [show iZ (-9999003) = (-9999003 : Int32) from by decide]; exact hts (.constant RL 18 (-9999003)) (by decide +kernel)) dL_tryInterfere_12 ?_
      exact g_iretL (K := kS σ) (post := fun z K1 => z = a_interfere σ a b ∧ K1 = kS (t_interfere σ a b)) (z := -9999003) hx hb hr hG9 hlocks ⟨by unfold a_interfere; simp [hc9], by unfold t_interfere; simp [hc9]⟩ ⟨Nat.le_of_ble_eq_true rfl, Nat.le_of_ble_eq_true rfl⟩ dL_tryInterfere_14
  · obtain ⟨hc9, hz9, hfr9⟩ := hp
    replace hc9 : cd_interfere σ a b = 0 := hc9
    have hK9 : q_K M2 (t_interfere σ a b) := by unfold t_interfere; rw [if_pos hc9]; exact hK.act hσ.2.1 ho hm1 hfr9
    exact g_iretL (K := kS (t_interfere σ a b)) (post := fun z K1 => z = a_interfere σ a b ∧ K1 = kS (t_interfere σ a b)) (z := z1) hx hb hr ⟨M2, hG, hX, hK9, hF.tr (q_bd.act hfr9)⟩ hlocks ⟨by unfold a_interfere; rw [if_pos hc9]; exact hz9, rfl⟩ ⟨Nat.le_of_ble_eq_true rfl, Nat.le_of_ble_eq_true rfl⟩ dL_tryInterfere_6
set_option maxHeartbeats 4000000 in
set_option maxRecDepth 100000 in
theorem c_L_tryNext (l : Launch) (hl0 : l.stackTraces = false) (G : gG) (hdm : ∀ k, k < 169 → gdm G k) (M0 : Nat → Nat → Int) (σ : gS) (hσ : s_ok σ) (a : Int) (ha9 : -2147483648 ≤ a ∧ a < 2147483648) : gML l yL_tryNext wsL_tryNext ({ frames := 7, cells := 1, slots := 6, locals := 112 } : Room) 1 G M0 (kS σ) [.ref (gad G 152), .int (iZ a)] (fun z K1 => z = a_next σ a ∧ K1 = kS (t_next σ a)) := by
  refine gML_ofW (cc := cL_tryNext) (maxL := 3) (ret := some .int) (by decide) rfl (Nat.le_of_ble_eq_true rfl) ?_
  intro p e s m below meth c ls hx hb hr hml hown hts hlocks htb hl hG
  have hown : s.vm.findClass RL = some m.cls := hown
  have hl : lv_has ls 3 [(0, .ref (gad G 152)), (1, .int (iZ a))] := hl
  obtain ⟨M, hG, hX, hK, hF⟩ := hG
  have hK : q_K M σ := hK
  obtain ⟨o, ho, hm1, hst⟩ := hK.2.1
  have hm2 := hK.2.2.1
  refine lv_aload_n hx hb dL_tryNext_0 rfl (lv_at hl 0 rfl) ?_
  refine lv_iload_n hx hb dL_tryNext_1 rfl (lv_at hl 1 rfl) ?_
  refine g_callX (b := 152) (As := [.int (iZ a)]) (rest := []) ⟨hx, hb, hml, hown, hts⟩ (c_X5_nextDay l G M hl0 hdm σ.1 hK.1 hσ.1.1 o σ.2.1 ho hσ.2.1 hm1 hm2 a ha9) (cwV 1 hts gL_tryNext_X5_nextDay rfl rfl rfl (by decide +kernel) ⟨Nat.le_of_ble_eq_true rfl, Nat.le_of_ble_eq_true rfl⟩) hX hG (g_recv hG (b := 152) (hdm 152 (by decide)) rfl rfl) rfl hl.1 rfl (Nat.le_of_ble_eq_true rfl) dL_tryNext_2 ⟨Nat.le_of_ble_eq_true rfl, Nat.le_of_ble_eq_true rfl⟩ (fun E9 M2 H locs ce9 q9 hpx hG hce hcv hcl => ?_) (fun z1 M2 H locs hp hG => ?_)
  · obtain ⟨hE9, hfr9⟩ := hpx
    have hG9 : gKH G M0 (kS σ) s H locs := ⟨M2, hG, hX, hK.cs hfr9, hF.tr (q_bd.cs hfr9)⟩
    rw [show (if 60 ≤ a ∧ a ≤ 600 then (0 : Int) else 1) = cd_next σ a from rfl] at hE9
    obtain ⟨hc9, rfl⟩ := hE9
    · refine vx_catch (name := "java/lang/IllegalArgumentException") hown [] ⟨0, 5, 6, 13⟩ [] (by rw [htb]; rfl) (fun z9 hz9 => nomatch hz9) (by decide) (by decide) (hts (.classLink RL 13 "java/lang/IllegalArgumentException") (by decide +kernel)) (va_Nw.use rfl hX.2.1) hce hcv hcl ?_
      refine lv_astore_n (lv' := [(2, .ref q9), (0, .ref (gad G 152)), (1, .int (iZ a))]) hx hb dL_tryNext_6 rfl hl (by decide) rfl (fun ls hl => ?_)
      refine lv_ldc (v := iZ (-9999002)) hx hb hown (by rw [show iZ (-9999002) = (-9999002 : Int32) from by decide]; exact hts (.constant RL 15 (-9999002)) (by decide +kernel)) dL_tryNext_7 ?_
      exact g_iretL (K := kS σ) (post := fun z K1 => z = a_next σ a ∧ K1 = kS (t_next σ a)) (z := -9999002) hx hb hr hG9 hlocks ⟨by unfold a_next; simp [hc9], by unfold t_next; simp [hc9]⟩ ⟨Nat.le_of_ble_eq_true rfl, Nat.le_of_ble_eq_true rfl⟩ dL_tryNext_9
  · obtain ⟨hc9, hz9, hfr9⟩ := hp
    replace hc9 : cd_next σ a = 0 := hc9
    have hK9 : q_K M2 (t_next σ a) := by unfold t_next; rw [if_pos hc9]; exact hK.act hσ.2.1 ho hm1 hfr9
    exact g_iretL (K := kS (t_next σ a)) (post := fun z K1 => z = a_next σ a ∧ K1 = kS (t_next σ a)) (z := z1) hx hb hr ⟨M2, hG, hX, hK9, hF.tr (q_bd.act hfr9)⟩ hlocks ⟨by unfold a_next; rw [if_pos hc9]; exact hz9, rfl⟩ ⟨Nat.le_of_ble_eq_true rfl, Nat.le_of_ble_eq_true rfl⟩ dL_tryNext_5
set_option maxHeartbeats 4000000 in
set_option maxRecDepth 100000 in
theorem c_L_tryRank (l : Launch) (hl0 : l.stackTraces = false) (G : gG) (hdm : ∀ k, k < 169 → gdm G k) (M0 : Nat → Nat → Int) (σ : gS) (hσ : s_ok σ) (a : Int) (ha9 : -2147483648 ≤ a ∧ a < 2147483648) : gML l yL_tryRank wsL_tryRank ({ frames := 7, cells := 1, slots := 6, locals := 119 } : Room) 1 G M0 (kS σ) [.ref (gad G 152), .int (iZ a)] (fun z K1 => z = a_rank σ a ∧ K1 = kS (t_rank σ a)) := by
  refine gML_ofW (cc := cL_tryRank) (maxL := 3) (ret := some .int) (by decide) rfl (Nat.le_of_ble_eq_true rfl) ?_
  intro p e s m below meth c ls hx hb hr hml hown hts hlocks htb hl hG
  have hown : s.vm.findClass RL = some m.cls := hown
  have hl : lv_has ls 3 [(0, .ref (gad G 152)), (1, .int (iZ a))] := hl
  obtain ⟨M, hG, hX, hK, hF⟩ := hG
  have hK : q_K M σ := hK
  obtain ⟨o, ho, hm1, hst⟩ := hK.2.1
  have hm2 := hK.2.2.1
  refine lv_aload_n hx hb dL_tryRank_0 rfl (lv_at hl 0 rfl) ?_
  refine lv_iload_n hx hb dL_tryRank_1 rfl (lv_at hl 1 rfl) ?_
  refine g_callX (b := 152) (As := [.int (iZ a)]) (rest := []) ⟨hx, hb, hml, hown, hts⟩ (c_X5_setRank l G M hl0 hdm σ.1 hK.1 hσ.1.1 o σ.2.1 ho hσ.2.1 hm1 hm2 a ha9) (cwV 1 hts gL_tryRank_X5_setRank rfl rfl rfl (by decide +kernel) ⟨Nat.le_of_ble_eq_true rfl, Nat.le_of_ble_eq_true rfl⟩) hX hG (g_recv hG (b := 152) (hdm 152 (by decide)) rfl rfl) rfl hl.1 rfl (Nat.le_of_ble_eq_true rfl) dL_tryRank_2 ⟨Nat.le_of_ble_eq_true rfl, Nat.le_of_ble_eq_true rfl⟩ (fun E9 M2 H locs ce9 q9 hpx hG hce hcv hcl => ?_) (fun z1 M2 H locs hp hG => ?_)
  · obtain ⟨hE9, hfr9⟩ := hpx
    have hG9 : gKH G M0 (kS σ) s H locs := ⟨M2, hG, hX, hK.cs hfr9, hF.tr (q_bd.cs hfr9)⟩
    rw [show (if q_isr a = true then (0 : Int) else 1) = cd_rank σ a from rfl] at hE9
    obtain ⟨hc9, rfl⟩ := hE9
    · refine vx_catch (name := "java/lang/IllegalArgumentException") hown [] ⟨0, 5, 6, 13⟩ [] (by rw [htb]; rfl) (fun z9 hz9 => nomatch hz9) (by decide) (by decide) (hts (.classLink RL 13 "java/lang/IllegalArgumentException") (by decide +kernel)) (va_Nw.use rfl hX.2.1) hce hcv hcl ?_
      refine lv_astore_n (lv' := [(2, .ref q9), (0, .ref (gad G 152)), (1, .int (iZ a))]) hx hb dL_tryRank_6 rfl hl (by decide) rfl (fun ls hl => ?_)
      refine lv_ldc (v := iZ (-9999002)) hx hb hown (by rw [show iZ (-9999002) = (-9999002 : Int32) from by decide]; exact hts (.constant RL 15 (-9999002)) (by decide +kernel)) dL_tryRank_7 ?_
      exact g_iretL (K := kS σ) (post := fun z K1 => z = a_rank σ a ∧ K1 = kS (t_rank σ a)) (z := -9999002) hx hb hr hG9 hlocks ⟨by unfold a_rank; simp [hc9], by unfold t_rank; simp [hc9]⟩ ⟨Nat.le_of_ble_eq_true rfl, Nat.le_of_ble_eq_true rfl⟩ dL_tryRank_9
  · obtain ⟨hc9, hz9, hfr9⟩ := hp
    replace hc9 : cd_rank σ a = 0 := hc9
    have hK9 : q_K M2 (t_rank σ a) := by unfold t_rank; rw [if_pos hc9]; exact hK.act hσ.2.1 ho hm1 hfr9
    exact g_iretL (K := kS (t_rank σ a)) (post := fun z K1 => z = a_rank σ a ∧ K1 = kS (t_rank σ a)) (z := z1) hx hb hr ⟨M2, hG, hX, hK9, hF.tr (q_bd.act hfr9)⟩ hlocks ⟨by unfold a_rank; rw [if_pos hc9]; exact hz9, rfl⟩ ⟨Nat.le_of_ble_eq_true rfl, Nat.le_of_ble_eq_true rfl⟩ dL_tryRank_5
set_option maxHeartbeats 4000000 in
set_option maxRecDepth 100000 in
theorem c_L_tryDraw (l : Launch) (hl0 : l.stackTraces = false) (G : gG) (hdm : ∀ k, k < 169 → gdm G k) (M0 : Nat → Nat → Int) (σ : gS) (hσ : s_ok σ) (a : Int) (ha9 : -2147483648 ≤ a ∧ a < 2147483648) (b : Int) (hb9 : -2147483648 ≤ b ∧ b < 2147483648) : gML l yL_tryDraw wsL_tryDraw ({ frames := 7, cells := 1, slots := 6, locals := 115 } : Room) 1 G M0 (kS σ) [.ref (gad G 152), .int (iZ a), .int (iZ b)] (fun z K1 => z = a_draw σ a b ∧ K1 = kS (t_draw σ a b)) := by
  refine gML_ofW (cc := cL_tryDraw) (maxL := 4) (ret := some .int) (by decide) rfl (Nat.le_of_ble_eq_true rfl) ?_
  intro p e s m below meth c ls hx hb hr hml hown hts hlocks htb hl hG
  have hown : s.vm.findClass RL = some m.cls := hown
  have hl : lv_has ls 4 [(0, .ref (gad G 152)), (1, .int (iZ a)), (2, .int (iZ b))] := hl
  obtain ⟨M, hG, hX, hK, hF⟩ := hG
  have hK : q_K M σ := hK
  obtain ⟨o, ho, hm1, hst⟩ := hK.2.1
  have hm2 := hK.2.2.1
  refine lv_aload_n hx hb dL_tryDraw_0 rfl (lv_at hl 0 rfl) ?_
  refine lv_iload_n hx hb dL_tryDraw_1 rfl (lv_at hl 1 rfl) ?_
  refine lv_iload_n hx hb dL_tryDraw_2 rfl (lv_at hl 2 rfl) ?_
  refine g_callX (b := 152) (As := [.int (iZ a), .int (iZ b)]) (rest := []) ⟨hx, hb, hml, hown, hts⟩ (c_X5_setDraw l G M hl0 hdm σ.1 hK.1 hσ.1.1 o σ.2.1 ho hσ.2.1 hm1 hm2 a ha9 b hb9) (cwV 2 hts gL_tryDraw_X5_setDraw rfl rfl rfl (by decide +kernel) ⟨Nat.le_of_ble_eq_true rfl, Nat.le_of_ble_eq_true rfl⟩) hX hG (g_recv hG (b := 152) (hdm 152 (by decide)) rfl rfl) rfl hl.1 rfl (Nat.le_of_ble_eq_true rfl) dL_tryDraw_3 ⟨Nat.le_of_ble_eq_true rfl, Nat.le_of_ble_eq_true rfl⟩ (fun E9 M2 H locs ce9 q9 hpx hG hce hcv hcl => ?_) (fun z1 M2 H locs hp hG => ?_)
  · obtain ⟨hE9, hfr9⟩ := hpx
    have hG9 : gKH G M0 (kS σ) s H locs := ⟨M2, hG, hX, hK.cs hfr9, hF.tr (q_bd.cs hfr9)⟩
    rw [show (if ¬ (0 ≤ a ∧ a < q_nd σ.1) then (1 : Int) else if ¬ (1 ≤ b ∧ b ≤ 99) then 2 else if q_dn σ.1 b a (q_nd σ.1).toNat = true then 3 else 0) = cd_draw σ a b from rfl] at hE9
    rcases hE9 with ⟨hc9, rfl⟩ | ⟨hc9, rfl⟩ | ⟨hc9, rfl⟩
    · refine vx_catch (name := "java/lang/IndexOutOfBoundsException") hown [] ⟨0, 6, 7, 41⟩ [⟨0, 6, 11, 13⟩, ⟨0, 6, 15, 16⟩] (by rw [htb]; rfl) (fun z9 hz9 => nomatch hz9) (by decide) (by decide) (hts (.classLink RL 41 "java/lang/IndexOutOfBoundsException") (by decide +kernel)) (va_Nw.use rfl hX.2.2.2.1) hce hcv hcl ?_
      refine lv_astore_n (lv' := [(3, .ref q9), (0, .ref (gad G 152)), (1, .int (iZ a)), (2, .int (iZ b))]) hx hb dL_tryDraw_7 rfl hl (by decide) rfl (fun ls hl => ?_)
      refine lv_ldc (v := iZ (-9999001)) hx hb hown (by rw [show iZ (-9999001) = (-9999001 : Int32) from by decide]; exact hts (.constant RL 43 (-9999001)) (by decide +kernel)) dL_tryDraw_8 ?_
      exact g_iretL (K := kS σ) (post := fun z K1 => z = a_draw σ a b ∧ K1 = kS (t_draw σ a b)) (z := -9999001) hx hb hr hG9 hlocks ⟨by unfold a_draw; simp [hc9], by unfold t_draw; simp [hc9]⟩ ⟨Nat.le_of_ble_eq_true rfl, Nat.le_of_ble_eq_true rfl⟩ dL_tryDraw_10
    · refine vx_catch (name := "java/lang/IllegalArgumentException") hown [⟨0, 6, 7, 41⟩] ⟨0, 6, 11, 13⟩ [⟨0, 6, 15, 16⟩] (by rw [htb]; rfl) (fun z9 hz9 => by simp only [List.mem_cons, List.not_mem_nil, or_false] at hz9; subst hz9; exact Or.inr ⟨by decide, "java/lang/IndexOutOfBoundsException", hts (.classLink RL 41 "java/lang/IndexOutOfBoundsException") (by decide +kernel), hX.2.2.2.2.2.1⟩) (by decide) (by decide) (hts (.classLink RL 13 "java/lang/IllegalArgumentException") (by decide +kernel)) (va_Nw.use rfl hX.2.1) hce hcv hcl ?_
      refine lv_astore_n (lv' := [(3, .ref q9), (0, .ref (gad G 152)), (1, .int (iZ a)), (2, .int (iZ b))]) hx hb dL_tryDraw_11 rfl hl (by decide) rfl (fun ls hl => ?_)
      refine lv_ldc (v := iZ (-9999002)) hx hb hown (by rw [show iZ (-9999002) = (-9999002 : Int32) from by decide]; exact hts (.constant RL 15 (-9999002)) (by decide +kernel)) dL_tryDraw_12 ?_
      exact g_iretL (K := kS σ) (post := fun z K1 => z = a_draw σ a b ∧ K1 = kS (t_draw σ a b)) (z := -9999002) hx hb hr hG9 hlocks ⟨by unfold a_draw; simp [hc9], by unfold t_draw; simp [hc9]⟩ ⟨Nat.le_of_ble_eq_true rfl, Nat.le_of_ble_eq_true rfl⟩ dL_tryDraw_14
    · refine vx_catch (name := "java/lang/IllegalStateException") hown [⟨0, 6, 7, 41⟩, ⟨0, 6, 11, 13⟩] ⟨0, 6, 15, 16⟩ [] (by rw [htb]; rfl) (fun z9 hz9 => by simp only [List.mem_cons, List.not_mem_nil, or_false] at hz9; rcases hz9 with rfl | rfl <;> first | exact Or.inr ⟨by decide, "java/lang/IndexOutOfBoundsException", hts (.classLink RL 41 "java/lang/IndexOutOfBoundsException") (by decide +kernel), hX.2.2.2.2.2.2.1⟩ | exact Or.inr ⟨by decide, "java/lang/IllegalArgumentException", hts (.classLink RL 13 "java/lang/IllegalArgumentException") (by decide +kernel), hX.2.2.2.2.1⟩) (by decide) (by decide) (hts (.classLink RL 16 "java/lang/IllegalStateException") (by decide +kernel)) (va_Nw.use rfl hX.2.2.1) hce hcv hcl ?_
      refine lv_astore_n (lv' := [(3, .ref q9), (0, .ref (gad G 152)), (1, .int (iZ a)), (2, .int (iZ b))]) hx hb dL_tryDraw_15 rfl hl (by decide) rfl (fun ls hl => ?_)
      refine lv_ldc (v := iZ (-9999003)) hx hb hown (by rw [show iZ (-9999003) = (-9999003 : Int32) from by decide]; exact hts (.constant RL 18 (-9999003)) (by decide +kernel)) dL_tryDraw_16 ?_
      exact g_iretL (K := kS σ) (post := fun z K1 => z = a_draw σ a b ∧ K1 = kS (t_draw σ a b)) (z := -9999003) hx hb hr hG9 hlocks ⟨by unfold a_draw; simp [hc9], by unfold t_draw; simp [hc9]⟩ ⟨Nat.le_of_ble_eq_true rfl, Nat.le_of_ble_eq_true rfl⟩ dL_tryDraw_18
  · obtain ⟨hc9, hz9, hfr9⟩ := hp
    replace hc9 : cd_draw σ a b = 0 := hc9
    have hK9 : q_K M2 (t_draw σ a b) := by unfold t_draw; rw [if_pos hc9]; exact hK.act hσ.2.1 ho hm1 hfr9
    exact g_iretL (K := kS (t_draw σ a b)) (post := fun z K1 => z = a_draw σ a b ∧ K1 = kS (t_draw σ a b)) (z := z1) hx hb hr ⟨M2, hG, hX, hK9, hF.tr (q_bd.act hfr9)⟩ hlocks ⟨by unfold a_draw; rw [if_pos hc9]; exact hz9, rfl⟩ ⟨Nat.le_of_ble_eq_true rfl, Nat.le_of_ble_eq_true rfl⟩ dL_tryDraw_6
set_option maxHeartbeats 4000000 in
set_option maxRecDepth 100000 in
theorem c_L_tryRun (l : Launch) (hl0 : l.stackTraces = false) (G : gG) (hdm : ∀ k, k < 169 → gdm G k) (M0 : Nat → Nat → Int) (σ : gS) (hσ : s_ok σ) (v : Int) (hv9 : -9223372036854775808 ≤ v ∧ v < 9223372036854775808) (b : Int) (hb9 : -2147483648 ≤ b ∧ b < 2147483648) : gML l yL_tryRun wsL_tryRun ({ frames := 7, cells := 1, slots := 6, locals := 115 } : Room) 1 G M0 (kS σ) [.ref (gad G 152), .long (lZ v), .int (iZ b)] (fun z K1 => z = a_run σ v b ∧ K1 = kS (t_run σ v b)) := by
  refine gML_ofW (cc := cL_tryRun) (maxL := 5) (ret := some .int) (by decide) rfl (Nat.le_of_ble_eq_true rfl) ?_
  intro p e s m below meth c ls hx hb hr hml hown hts hlocks htb hl hG
  have hown : s.vm.findClass RL = some m.cls := hown
  have hl : lv_has ls 5 [(0, .ref (gad G 152)), (1, .long (lZ v)), (3, .int (iZ b))] := hl
  obtain ⟨M, hG, hX, hK, hF⟩ := hG
  have hK : q_K M σ := hK
  obtain ⟨o, ho, hm1, hst⟩ := hK.2.1
  have hm2 := hK.2.2.1
  refine lv_aload_n hx hb dL_tryRun_0 rfl (lv_at hl 0 rfl) ?_
  refine lv_lload_n hx hb dL_tryRun_1 rfl (lv_at hl 1 rfl) ?_
  refine lv_iload_n hx hb dL_tryRun_2 rfl (lv_at hl 2 rfl) ?_
  refine g_callX (b := 152) (As := [.long (lZ v), .int (iZ b)]) (rest := []) ⟨hx, hb, hml, hown, hts⟩ (c_X5_run l G M hl0 hdm σ.1 hK.1 hσ.1.1 o σ.2.1 ho hσ.2.1 hm1 hm2 v hv9 b hb9) (cwV 2 hts gL_tryRun_X5_run rfl rfl rfl (by decide +kernel) ⟨Nat.le_of_ble_eq_true rfl, Nat.le_of_ble_eq_true rfl⟩) hX hG (g_recv hG (b := 152) (hdm 152 (by decide)) rfl rfl) rfl hl.1 rfl (Nat.le_of_ble_eq_true rfl) dL_tryRun_3 ⟨Nat.le_of_ble_eq_true rfl, Nat.le_of_ble_eq_true rfl⟩ (fun E9 M2 H locs ce9 q9 hpx hG hce hcv hcl => ?_) (fun z1 M2 H locs hp hG => ?_)
  · obtain ⟨hE9, hfr9⟩ := hpx
    have hG9 : gKH G M0 (kS σ) s H locs := ⟨M2, hG, hX, hK.cs hfr9, hF.tr (q_bd.cs hfr9)⟩
    rw [show (if ¬ (q_ptb v 6 = true ∧ 1 ≤ b ∧ b ≤ 30) then (1 : Int) else if q_ob σ.1 ≠ 0 then 2 else 0) = cd_run σ v b from rfl] at hE9
    rcases hE9 with ⟨hc9, rfl⟩ | ⟨hc9, rfl⟩
    · refine vx_catch (name := "java/lang/IllegalArgumentException") hown [] ⟨0, 6, 7, 13⟩ [⟨0, 6, 12, 16⟩] (by rw [htb]; rfl) (fun z9 hz9 => nomatch hz9) (by decide) (by decide) (hts (.classLink RL 13 "java/lang/IllegalArgumentException") (by decide +kernel)) (va_Nw.use rfl hX.2.1) hce hcv hcl ?_
      refine lv_astore (lv' := [(4, .ref q9), (0, .ref (gad G 152)), (1, .long (lZ v)), (3, .int (iZ b))]) hx hb dL_tryRun_7 hl (by decide) rfl (fun ls hl => ?_)
      refine lv_ldc (v := iZ (-9999002)) hx hb hown (by rw [show iZ (-9999002) = (-9999002 : Int32) from by decide]; exact hts (.constant RL 15 (-9999002)) (by decide +kernel)) dL_tryRun_9 ?_
      exact g_iretL (K := kS σ) (post := fun z K1 => z = a_run σ v b ∧ K1 = kS (t_run σ v b)) (z := -9999002) hx hb hr hG9 hlocks ⟨by unfold a_run; simp [hc9], by unfold t_run; simp [hc9]⟩ ⟨Nat.le_of_ble_eq_true rfl, Nat.le_of_ble_eq_true rfl⟩ dL_tryRun_11
    · refine vx_catch (name := "java/lang/IllegalStateException") hown [⟨0, 6, 7, 13⟩] ⟨0, 6, 12, 16⟩ [] (by rw [htb]; rfl) (fun z9 hz9 => by simp only [List.mem_cons, List.not_mem_nil, or_false] at hz9; subst hz9; exact Or.inr ⟨by decide, "java/lang/IllegalArgumentException", hts (.classLink RL 13 "java/lang/IllegalArgumentException") (by decide +kernel), hX.2.2.2.2.1⟩) (by decide) (by decide) (hts (.classLink RL 16 "java/lang/IllegalStateException") (by decide +kernel)) (va_Nw.use rfl hX.2.2.1) hce hcv hcl ?_
      refine lv_astore (lv' := [(4, .ref q9), (0, .ref (gad G 152)), (1, .long (lZ v)), (3, .int (iZ b))]) hx hb dL_tryRun_12 hl (by decide) rfl (fun ls hl => ?_)
      refine lv_ldc (v := iZ (-9999003)) hx hb hown (by rw [show iZ (-9999003) = (-9999003 : Int32) from by decide]; exact hts (.constant RL 18 (-9999003)) (by decide +kernel)) dL_tryRun_14 ?_
      exact g_iretL (K := kS σ) (post := fun z K1 => z = a_run σ v b ∧ K1 = kS (t_run σ v b)) (z := -9999003) hx hb hr hG9 hlocks ⟨by unfold a_run; simp [hc9], by unfold t_run; simp [hc9]⟩ ⟨Nat.le_of_ble_eq_true rfl, Nat.le_of_ble_eq_true rfl⟩ dL_tryRun_16
  · obtain ⟨hc9, hz9, hfr9⟩ := hp
    replace hc9 : cd_run σ v b = 0 := hc9
    have hK9 : q_K M2 (t_run σ v b) := by unfold t_run; rw [if_pos hc9]; exact hK.act hσ.2.1 ho hm1 hfr9
    exact g_iretL (K := kS (t_run σ v b)) (post := fun z K1 => z = a_run σ v b ∧ K1 = kS (t_run σ v b)) (z := z1) hx hb hr ⟨M2, hG, hX, hK9, hF.tr (q_bd.act hfr9)⟩ hlocks ⟨by unfold a_run; rw [if_pos hc9]; exact hz9, rfl⟩ ⟨Nat.le_of_ble_eq_true rfl, Nat.le_of_ble_eq_true rfl⟩ dL_tryRun_6
set_option maxHeartbeats 4000000 in
set_option maxRecDepth 100000 in
theorem c_L_tryUndo (l : Launch) (hl0 : l.stackTraces = false) (G : gG) (hdm : ∀ k, k < 169 → gdm G k) (M0 : Nat → Nat → Int) (σ : gS) (hσ : s_ok σ)  : gML l yL_tryUndo wsL_tryUndo ({ frames := 7, cells := 1, slots := 6, locals := 111 } : Room) 1 G M0 (kS σ) [.ref (gad G 152)] (fun z K1 => z = a_undo σ ∧ K1 = kS (t_undo σ)) := by
  refine gML_ofW (cc := cL_tryUndo) (maxL := 2) (ret := some .int) (by decide) rfl (Nat.le_of_ble_eq_true rfl) ?_
  intro p e s m below meth c ls hx hb hr hml hown hts hlocks htb hl hG
  have hown : s.vm.findClass RL = some m.cls := hown
  have hl : lv_has ls 2 [(0, .ref (gad G 152))] := hl
  obtain ⟨M, hG, hX, hK, hF⟩ := hG
  have hK : q_K M σ := hK
  obtain ⟨o, ho, hm1, hst⟩ := hK.2.1
  have hm2 := hK.2.2.1
  refine lv_aload_n hx hb dL_tryUndo_0 rfl (lv_at hl 0 rfl) ?_
  refine g_callX (b := 152) (As := []) (rest := []) ⟨hx, hb, hml, hown, hts⟩ (c_X5_undo l G M hl0 hdm o σ.2.1 ho hσ.2.1 hm1 hm2 (σ.2.2.1 (σ.2.1 - 1)) (fun h9 => ⟨hst (σ.2.1 - 1) (by omega), (hσ.2.2.1 _ (by omega)).1⟩)) (cwV 0 hts gL_tryUndo_X5_undo rfl rfl rfl (by decide +kernel) ⟨Nat.le_of_ble_eq_true rfl, Nat.le_of_ble_eq_true rfl⟩) hX hG (g_recv hG (b := 152) (hdm 152 (by decide)) rfl rfl) rfl hl.1 rfl (Nat.le_of_ble_eq_true rfl) dL_tryUndo_1 ⟨Nat.le_of_ble_eq_true rfl, Nat.le_of_ble_eq_true rfl⟩ (fun E9 M2 H locs ce9 q9 hpx hG hce hcv hcl => ?_) (fun z1 M2 H locs hp hG => ?_)
  · obtain ⟨hE9, hfr9⟩ := hpx
    have hG9 : gKH G M0 (kS σ) s H locs := ⟨M2, hG, hX, hK.cs hfr9, hF.tr (q_bd.cs hfr9)⟩
    rw [show (if σ.2.1 = 0 then (1 : Int) else 0) = cd_undo σ from rfl] at hE9
    obtain ⟨hc9, rfl⟩ := hE9
    · refine vx_catch (name := "java/lang/IllegalStateException") hown [] ⟨0, 4, 5, 16⟩ [] (by rw [htb]; rfl) (fun z9 hz9 => nomatch hz9) (by decide) (by decide) (hts (.classLink RL 16 "java/lang/IllegalStateException") (by decide +kernel)) (va_Nw.use rfl hX.2.2.1) hce hcv hcl ?_
      refine lv_astore_n (lv' := [(1, .ref q9), (0, .ref (gad G 152))]) hx hb dL_tryUndo_5 rfl hl (by decide) rfl (fun ls hl => ?_)
      refine lv_ldc (v := iZ (-9999003)) hx hb hown (by rw [show iZ (-9999003) = (-9999003 : Int32) from by decide]; exact hts (.constant RL 18 (-9999003)) (by decide +kernel)) dL_tryUndo_6 ?_
      exact g_iretL (K := kS σ) (post := fun z K1 => z = a_undo σ ∧ K1 = kS (t_undo σ)) (z := -9999003) hx hb hr hG9 hlocks ⟨by unfold a_undo; simp [hc9], by unfold t_undo; simp [hc9]⟩ ⟨Nat.le_of_ble_eq_true rfl, Nat.le_of_ble_eq_true rfl⟩ dL_tryUndo_8
  · obtain ⟨hc9, hz9, hfr9⟩ := hp
    replace hc9 : cd_undo σ = 0 := hc9
    have hK9 : q_K M2 (t_undo σ) := by unfold t_undo; rw [if_pos hc9]; exact hK.back ho hm1 (Nat.sub_le _ _) hfr9.2.2.1 hfr9.1 hfr9.2.1 hfr9.2.2.2
    exact g_iretL (K := kS (t_undo σ)) (post := fun z K1 => z = a_undo σ ∧ K1 = kS (t_undo σ)) (z := z1) hx hb hr ⟨M2, hG, hX, hK9, hF.tr (fun a9 ha9 => hfr9.2.2.2 a9 (by omega) (by omega))⟩ hlocks ⟨by unfold a_undo; rw [if_pos hc9]; exact hz9, rfl⟩ ⟨Nat.le_of_ble_eq_true rfl, Nat.le_of_ble_eq_true rfl⟩ dL_tryUndo_4
set_option maxHeartbeats 4000000 in
set_option maxRecDepth 100000 in
theorem c_L_trySave (l : Launch) (hl0 : l.stackTraces = false) (G : gG) (hdm : ∀ k, k < 169 → gdm G k) (M0 : Nat → Nat → Int) (σ : gS) (hσ : s_ok σ) (a : Int) (ha9 : -2147483648 ≤ a ∧ a < 2147483648) : gML l yL_trySave wsL_trySave ({ frames := 7, cells := 1, slots := 6, locals := 111 } : Room) 1 G M0 (kS σ) [.ref (gad G 152), .int (iZ a)] (fun z K1 => z = a_save σ a ∧ K1 = kS (t_save σ a)) := by
  refine gML_ofW (cc := cL_trySave) (maxL := 3) (ret := some .int) (by decide) rfl (Nat.le_of_ble_eq_true rfl) ?_
  intro p e s m below meth c ls hx hb hr hml hown hts hlocks htb hl hG
  have hown : s.vm.findClass RL = some m.cls := hown
  have hl : lv_has ls 3 [(0, .ref (gad G 152)), (1, .int (iZ a))] := hl
  obtain ⟨M, hG, hX, hK, hF⟩ := hG
  have hK : q_K M σ := hK
  refine lv_aload_n hx hb dL_trySave_0 rfl (lv_at hl 0 rfl) ?_
  refine lv_iload_n hx hb dL_trySave_1 rfl (lv_at hl 1 rfl) ?_
  refine g_callX (b := 152) (As := [.int (iZ a)]) (rest := []) ⟨hx, hb, hml, hown, hts⟩ (c_X5_save l G M hl0 hdm σ.1 hK.1 hσ.1.1 a ha9) (cwV 1 hts gL_trySave_X5_save rfl rfl rfl (by decide +kernel) ⟨Nat.le_of_ble_eq_true rfl, Nat.le_of_ble_eq_true rfl⟩) hX hG (g_recv hG (b := 152) (hdm 152 (by decide)) rfl rfl) rfl hl.1 rfl (Nat.le_of_ble_eq_true rfl) dL_trySave_2 ⟨Nat.le_of_ble_eq_true rfl, Nat.le_of_ble_eq_true rfl⟩ (fun E9 M2 H locs ce9 q9 hpx hG hce hcv hcl => ?_) (fun z1 M2 H locs hp hG => ?_)
  · obtain ⟨hE9, hfr9⟩ := hpx
    have hG9 : gKH G M0 (kS σ) s H locs := ⟨M2, hG, hX, hK.cs hfr9, hF.tr (q_bd.cs hfr9)⟩
    rw [show (if 0 ≤ a ∧ a ≤ 1 then (0 : Int) else 1) = cd_save σ a from rfl] at hE9
    obtain ⟨hc9, rfl⟩ := hE9
    · refine vx_catch (name := "java/lang/IndexOutOfBoundsException") hown [] ⟨0, 5, 6, 41⟩ [] (by rw [htb]; rfl) (fun z9 hz9 => nomatch hz9) (by decide) (by decide) (hts (.classLink RL 41 "java/lang/IndexOutOfBoundsException") (by decide +kernel)) (va_Nw.use rfl hX.2.2.2.1) hce hcv hcl ?_
      refine lv_astore_n (lv' := [(2, .ref q9), (0, .ref (gad G 152)), (1, .int (iZ a))]) hx hb dL_trySave_6 rfl hl (by decide) rfl (fun ls hl => ?_)
      refine lv_ldc (v := iZ (-9999001)) hx hb hown (by rw [show iZ (-9999001) = (-9999001 : Int32) from by decide]; exact hts (.constant RL 43 (-9999001)) (by decide +kernel)) dL_trySave_7 ?_
      exact g_iretL (K := kS σ) (post := fun z K1 => z = a_save σ a ∧ K1 = kS (t_save σ a)) (z := -9999001) hx hb hr hG9 hlocks ⟨by unfold a_save; simp [hc9], by unfold t_save; simp [hc9]⟩ ⟨Nat.le_of_ble_eq_true rfl, Nat.le_of_ble_eq_true rfl⟩ dL_trySave_9
  · obtain ⟨hc9, hz9, hfr9⟩ := hp
    replace hc9 : cd_save σ a = 0 := hc9
    have hK9 : q_K M2 (t_save σ a) := by unfold t_save; rw [if_pos hc9]; exact hK.sav (j0 := a.toNat) (by unfold cd_save at hc9; split at hc9 <;> omega) hfr9.1 hfr9.2.1 hfr9.2.2
    exact g_iretL (K := kS (t_save σ a)) (post := fun z K1 => z = a_save σ a ∧ K1 = kS (t_save σ a)) (z := z1) hx hb hr ⟨M2, hG, hX, hK9, hF.tr (fun a9 ha9 => hfr9.2.2 a9 (by omega) (by unfold cd_save at hc9; split at hc9 <;> omega))⟩ hlocks ⟨by unfold a_save; rw [if_pos hc9]; exact hz9, rfl⟩ ⟨Nat.le_of_ble_eq_true rfl, Nat.le_of_ble_eq_true rfl⟩ dL_trySave_5
set_option maxHeartbeats 4000000 in
set_option maxRecDepth 100000 in
theorem c_L_tryRestore (l : Launch) (hl0 : l.stackTraces = false) (G : gG) (hdm : ∀ k, k < 169 → gdm G k) (M0 : Nat → Nat → Int) (σ : gS) (hσ : s_ok σ) (a : Int) (ha9 : -2147483648 ≤ a ∧ a < 2147483648) : gML l yL_tryRestore wsL_tryRestore ({ frames := 7, cells := 1, slots := 6, locals := 111 } : Room) 1 G M0 (kS σ) [.ref (gad G 152), .int (iZ a)] (fun z K1 => z = a_restore σ a ∧ K1 = kS (t_restore σ a)) := by
  refine gML_ofW (cc := cL_tryRestore) (maxL := 3) (ret := some .int) (by decide) rfl (Nat.le_of_ble_eq_true rfl) ?_
  intro p e s m below meth c ls hx hb hr hml hown hts hlocks htb hl hG
  have hown : s.vm.findClass RL = some m.cls := hown
  have hl : lv_has ls 3 [(0, .ref (gad G 152)), (1, .int (iZ a))] := hl
  obtain ⟨M, hG, hX, hK, hF⟩ := hG
  have hK : q_K M σ := hK
  have hsv : ∀ j : Nat, j < 2 → M 154 j = 0 ∨ M 154 j = 1 := fun j hj => by rw [(hK.2.2.2.1 j hj).1]; exact (hσ.2.2.2 j hj).1
  have hkk : 0 ≤ a ∧ a ≤ 1 → M 154 a.toNat = 1 → q_tr M (24 + 8 * a.toNat) (σ.2.2.2.2 a.toNat) ∧ q_inv (σ.2.2.2.2 a.toNat) := fun h8 h9 => by
    have hj : a.toNat < 2 := by omega
    have e9 : σ.2.2.2.1 a.toNat = 1 := by rw [← (hK.2.2.2.1 _ hj).1]; exact h9
    exact ⟨(hK.2.2.2.1 _ hj).2 e9, ((hσ.2.2.2 _ hj).2 e9).1⟩
  have hcd : (if ¬ (0 ≤ a ∧ a ≤ 1) then (1 : Int) else if M 154 a.toNat = 0 then 2 else 0) = cd_restore σ a := by
    unfold cd_restore
    by_cases h8 : 0 ≤ a ∧ a ≤ 1
    · rw [(hK.2.2.2.1 a.toNat (by omega)).1]
    · rw [if_pos h8, if_pos h8]
  refine lv_aload_n hx hb dL_tryRestore_0 rfl (lv_at hl 0 rfl) ?_
  refine lv_iload_n hx hb dL_tryRestore_1 rfl (lv_at hl 1 rfl) ?_
  refine g_callX (b := 152) (As := [.int (iZ a)]) (rest := []) ⟨hx, hb, hml, hown, hts⟩ (c_X5_restore l G M hl0 hdm a ha9 hsv (σ.2.2.2.2 a.toNat) hkk) (cwV 1 hts gL_tryRestore_X5_restore rfl rfl rfl (by decide +kernel) ⟨Nat.le_of_ble_eq_true rfl, Nat.le_of_ble_eq_true rfl⟩) hX hG (g_recv hG (b := 152) (hdm 152 (by decide)) rfl rfl) rfl hl.1 rfl (Nat.le_of_ble_eq_true rfl) dL_tryRestore_2 ⟨Nat.le_of_ble_eq_true rfl, Nat.le_of_ble_eq_true rfl⟩ (fun E9 M2 H locs ce9 q9 hpx hG hce hcv hcl => ?_) (fun z1 M2 H locs hp hG => ?_)
  · obtain ⟨hE9, hfr9⟩ := hpx
    have hG9 : gKH G M0 (kS σ) s H locs := ⟨M2, hG, hX, hK.cs hfr9, hF.tr (q_bd.cs hfr9)⟩
    rw [hcd] at hE9
    rcases hE9 with ⟨hc9, rfl⟩ | ⟨hc9, rfl⟩
    · refine vx_catch (name := "java/lang/IndexOutOfBoundsException") hown [] ⟨0, 5, 6, 41⟩ [⟨0, 5, 10, 16⟩] (by rw [htb]; rfl) (fun z9 hz9 => nomatch hz9) (by decide) (by decide) (hts (.classLink RL 41 "java/lang/IndexOutOfBoundsException") (by decide +kernel)) (va_Nw.use rfl hX.2.2.2.1) hce hcv hcl ?_
      refine lv_astore_n (lv' := [(2, .ref q9), (0, .ref (gad G 152)), (1, .int (iZ a))]) hx hb dL_tryRestore_6 rfl hl (by decide) rfl (fun ls hl => ?_)
      refine lv_ldc (v := iZ (-9999001)) hx hb hown (by rw [show iZ (-9999001) = (-9999001 : Int32) from by decide]; exact hts (.constant RL 43 (-9999001)) (by decide +kernel)) dL_tryRestore_7 ?_
      exact g_iretL (K := kS σ) (post := fun z K1 => z = a_restore σ a ∧ K1 = kS (t_restore σ a)) (z := -9999001) hx hb hr hG9 hlocks ⟨by unfold a_restore; simp [hc9], by unfold t_restore; simp [hc9]⟩ ⟨Nat.le_of_ble_eq_true rfl, Nat.le_of_ble_eq_true rfl⟩ dL_tryRestore_9
    · refine vx_catch (name := "java/lang/IllegalStateException") hown [⟨0, 5, 6, 41⟩] ⟨0, 5, 10, 16⟩ [] (by rw [htb]; rfl) (fun z9 hz9 => by simp only [List.mem_cons, List.not_mem_nil, or_false] at hz9; subst hz9; exact Or.inr ⟨by decide, "java/lang/IndexOutOfBoundsException", hts (.classLink RL 41 "java/lang/IndexOutOfBoundsException") (by decide +kernel), hX.2.2.2.2.2.2.1⟩) (by decide) (by decide) (hts (.classLink RL 16 "java/lang/IllegalStateException") (by decide +kernel)) (va_Nw.use rfl hX.2.2.1) hce hcv hcl ?_
      refine lv_astore_n (lv' := [(2, .ref q9), (0, .ref (gad G 152)), (1, .int (iZ a))]) hx hb dL_tryRestore_10 rfl hl (by decide) rfl (fun ls hl => ?_)
      refine lv_ldc (v := iZ (-9999003)) hx hb hown (by rw [show iZ (-9999003) = (-9999003 : Int32) from by decide]; exact hts (.constant RL 18 (-9999003)) (by decide +kernel)) dL_tryRestore_11 ?_
      exact g_iretL (K := kS σ) (post := fun z K1 => z = a_restore σ a ∧ K1 = kS (t_restore σ a)) (z := -9999003) hx hb hr hG9 hlocks ⟨by unfold a_restore; simp [hc9], by unfold t_restore; simp [hc9]⟩ ⟨Nat.le_of_ble_eq_true rfl, Nat.le_of_ble_eq_true rfl⟩ dL_tryRestore_13
  · obtain ⟨hc9, hz9, hfr9⟩ := hp
    rw [hcd] at hc9
    obtain ⟨o, ho, hm1, hst⟩ := hK.2.1
    have hK9 : q_K M2 (t_restore σ a) := by unfold t_restore; rw [if_pos hc9]; exact hK.back (n1 := 0) ho hm1 (Nat.zero_le _) hfr9.1 (hfr9.2.1.trans hm1) hfr9.2.2.1 hfr9.2.2.2
    exact g_iretL (K := kS (t_restore σ a)) (post := fun z K1 => z = a_restore σ a ∧ K1 = kS (t_restore σ a)) (z := z1) hx hb hr ⟨M2, hG, hX, hK9, hF.tr (fun a9 ha9 => hfr9.2.2.2 a9 (by omega) (by omega))⟩ hlocks ⟨by unfold a_restore; rw [if_pos hc9]; exact hz9, rfl⟩ ⟨Nat.le_of_ble_eq_true rfl, Nat.le_of_ble_eq_true rfl⟩ dL_tryRestore_5
