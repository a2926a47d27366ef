/-! REFUSED, or done: answers and states -/
theorem ax_about_0 {σ : gS} {a : Int} (h : cd_about σ a = 0) : a_about σ a = q_abt σ.1 a := by unfold a_about; rw [if_pos h]
theorem ax_about_1 {σ : gS} {a : Int} (h : cd_about σ a = 1) : a_about σ a = (-9999002) := by unfold a_about; rw [h]; rfl
theorem ax_dog_0 {σ : gS} {a : Int} {b : Int} (h : cd_dog σ a b = 0) : a_dog σ a b = q_dga σ.1 a.toNat b := by unfold a_dog; rw [if_pos h]
theorem ax_dog_1 {σ : gS} {a : Int} {b : Int} (h : cd_dog σ a b = 1) : a_dog σ a b = (-9999001) := by unfold a_dog; rw [h]; rfl
theorem ax_dog_2 {σ : gS} {a : Int} {b : Int} (h : cd_dog σ a b = 2) : a_dog σ a b = (-9999002) := by unfold a_dog; rw [h]; rfl
theorem ax_lost_0 {σ : gS} {a : Int} {b : Int} (h : cd_lost σ a b = 0) : a_lost σ a b = (if q_hs σ.1 a.toNat = 1 then q_lo σ.1 a.toNat b.toNat else -9) := by unfold a_lost; rw [if_pos h]
theorem ax_lost_1 {σ : gS} {a : Int} {b : Int} (h : cd_lost σ a b = 1) : a_lost σ a b = (-9999001) := by unfold a_lost; rw [h]; rfl
theorem ax_order_0 {σ : gS} {a : Int} (h : cd_order σ a = 0) : a_order σ a = q_atk σ.1 a := by unfold a_order; rw [if_pos h]
theorem ax_order_1 {σ : gS} {a : Int} (h : cd_order σ a = 1) : a_order σ a = (-9999002) := by unfold a_order; rw [h]; rfl
theorem ax_owner_0 {σ : gS} {a : Int} (h : cd_owner σ a = 0) : a_owner σ a = q_os σ.1 a := by unfold a_owner; rw [if_pos h]
theorem ax_owner_1 {σ : gS} {a : Int} (h : cd_owner σ a = 1) : a_owner σ a = (-9999002) := by unfold a_owner; rw [h]; rfl
theorem ax_left_0 {σ : gS} {a : Int} (h : cd_left σ a = 0) : a_left σ a = min (q_nwait σ.1) ((σ.1 2 - σ.1 1) / a) := by unfold a_left; rw [if_pos h]
theorem ax_left_1 {σ : gS} {a : Int} (h : cd_left σ a = 1) : a_left σ a = (-9999002) := by unfold a_left; rw [h]; rfl
theorem ax_best_0 {σ : gS} {a : Int} (h : cd_best σ a = 0) : a_best σ a = q_bp σ.1 a.toNat := by unfold a_best; rw [if_pos h]
theorem ax_best_1 {σ : gS} {a : Int} (h : cd_best σ a = 1) : a_best σ a = (-9999001) := by unfold a_best; rw [h]; rfl
theorem ax_may_0 {σ : gS} {a : Int} {b : Int} (h : cd_may σ a b = 0) : a_may σ a b = q_ml σ.1 a.toNat b := by unfold a_may; rw [if_pos h]
theorem ax_may_1 {σ : gS} {a : Int} {b : Int} (h : cd_may σ a b = 1) : a_may σ a b = (-9999001) := by unfold a_may; rw [h]; rfl
theorem ax_may_2 {σ : gS} {a : Int} {b : Int} (h : cd_may σ a b = 2) : a_may σ a b = (-9999002) := by unfold a_may; rw [h]; rfl
theorem ax_script_0 {σ : gS} {a : Int} {v : Int} (h : cd_script σ a v = 0) : a_script σ a v = q_ff (q_cmd v a.toNat) σ.1 a.toNat := by unfold a_script; rw [if_pos h]
theorem ax_script_1 {σ : gS} {a : Int} {v : Int} (h : cd_script σ a v = 1) : a_script σ a v = (-9999002) := by unfold a_script; rw [h]; rfl
theorem ax_simulate_0 {σ : gS} {v : Int} {a : Int} (h : cd_simulate σ v a = 0) : a_simulate σ v a = 1000 * (q_sim σ.1 v a.toNat) 0 + q_sum (q_sim σ.1 v a.toNat) := by unfold a_simulate; rw [if_pos h]
theorem ax_simulate_1 {σ : gS} {v : Int} {a : Int} (h : cd_simulate σ v a = 1) : a_simulate σ v a = (-9999002) := by unfold a_simulate; rw [h]; rfl
theorem ax_enter_0 {σ : gS} {a : Int} {b : Int} (h : cd_enter σ a b = 0) : a_enter σ a b = q_nd σ.1 := by unfold a_enter; rw [if_pos h]
theorem ax_enter_1 {σ : gS} {a : Int} {b : Int} (h : cd_enter σ a b = 1) : a_enter σ a b = (-9999002) := by unfold a_enter; rw [h]; rfl
theorem ax_enter_2 {σ : gS} {a : Int} {b : Int} (h : cd_enter σ a b = 2) : a_enter σ a b = (-9999003) := by unfold a_enter; rw [h]; rfl
theorem t_enter_0 {σ : gS} {a : Int} {b : Int} (h : cd_enter σ a b = 0) : t_enter σ a b = s_act σ (q_ent σ.1 (q_nd σ.1).toNat a b) := by unfold t_enter; rw [if_pos h]
theorem t_enter_no {σ : gS} {a : Int} {b : Int} (h : cd_enter σ a b ≠ 0) : t_enter σ a b = σ := by unfold t_enter; rw [if_neg h]
theorem ok_enter {σ : gS} (hσ : s_ok σ) {a : Int} {b : Int} : s_ok (t_enter σ a b) := by
  by_cases h : cd_enter σ a b = 0
  · rw [t_enter_0 h]; exact hσ.act (p_ent hσ.1 h)
  · rw [t_enter_no h]; exact hσ
theorem ax_withdraw_0 {σ : gS} {a : Int} (h : cd_withdraw σ a = 0) : a_withdraw σ a = q_sa σ.1 a.toNat := by unfold a_withdraw; rw [if_pos h]
theorem ax_withdraw_1 {σ : gS} {a : Int} (h : cd_withdraw σ a = 1) : a_withdraw σ a = (-9999001) := by unfold a_withdraw; rw [h]; rfl
theorem ax_withdraw_2 {σ : gS} {a : Int} (h : cd_withdraw σ a = 2) : a_withdraw σ a = (-9999003) := by unfold a_withdraw; rw [h]; rfl
theorem t_withdraw_0 {σ : gS} {a : Int} (h : cd_withdraw σ a = 0) : t_withdraw σ a = s_act σ (q_gon σ.1 a.toNat) := by unfold t_withdraw; rw [if_pos h]
theorem t_withdraw_no {σ : gS} {a : Int} (h : cd_withdraw σ a ≠ 0) : t_withdraw σ a = σ := by unfold t_withdraw; rw [if_neg h]
theorem ok_withdraw {σ : gS} (hσ : s_ok σ) {a : Int} : s_ok (t_withdraw σ a) := by
  by_cases h : cd_withdraw σ a = 0
  · rw [t_withdraw_0 h]; exact hσ.act (p_gon hσ.1)
  · rw [t_withdraw_no h]; exact hσ
theorem ax_interfere_0 {σ : gS} {a : Int} {b : Int} (h : cd_interfere σ a b = 0) : a_interfere σ a b = q_sc (q_brk σ.1 a.toNat b) a.toNat := by unfold a_interfere; rw [if_pos h]
theorem ax_interfere_1 {σ : gS} {a : Int} {b : Int} (h : cd_interfere σ a b = 1) : a_interfere σ a b = (-9999001) := by unfold a_interfere; rw [h]; rfl
theorem ax_interfere_2 {σ : gS} {a : Int} {b : Int} (h : cd_interfere σ a b = 2) : a_interfere σ a b = (-9999003) := by unfold a_interfere; rw [h]; rfl
theorem t_interfere_0 {σ : gS} {a : Int} {b : Int} (h : cd_interfere σ a b = 0) : t_interfere σ a b = s_act σ (q_brk σ.1 a.toNat b) := by unfold t_interfere; rw [if_pos h]
theorem t_interfere_no {σ : gS} {a : Int} {b : Int} (h : cd_interfere σ a b ≠ 0) : t_interfere σ a b = σ := by unfold t_interfere; rw [if_neg h]
theorem ok_interfere {σ : gS} (hσ : s_ok σ) {a : Int} {b : Int} : s_ok (t_interfere σ a b) := by
  by_cases h : cd_interfere σ a b = 0
  · rw [t_interfere_0 h]; exact hσ.act (p_brk hσ.1 h)
  · rw [t_interfere_no h]; exact hσ
theorem ax_next_0 {σ : gS} {a : Int} (h : cd_next σ a = 0) : a_next σ a = (q_nxt σ.1 a) 0 := by unfold a_next; rw [if_pos h]
theorem ax_next_1 {σ : gS} {a : Int} (h : cd_next σ a = 1) : a_next σ a = (-9999002) := by unfold a_next; rw [h]; rfl
theorem t_next_0 {σ : gS} {a : Int} (h : cd_next σ a = 0) : t_next σ a = s_act σ (q_nxt σ.1 a) := by unfold t_next; rw [if_pos h]
theorem t_next_no {σ : gS} {a : Int} (h : cd_next σ a ≠ 0) : t_next σ a = σ := by unfold t_next; rw [if_neg h]
theorem ok_next {σ : gS} (hσ : s_ok σ) {a : Int} : s_ok (t_next σ a) := by
  by_cases h : cd_next σ a = 0
  · rw [t_next_0 h]; exact hσ.act (p_nxt hσ.1 h)
  · rw [t_next_no h]; exact hσ
theorem ax_rank_0 {σ : gS} {a : Int} (h : cd_rank σ a = 0) : a_rank σ a = q_ct (fun i => decide (q_pl σ.1 i ≠ q_pl (q_srk σ.1 (fun k => q_kd a (5 - k))) i)) (q_nd σ.1).toNat := by unfold a_rank; rw [if_pos h]
theorem ax_rank_1 {σ : gS} {a : Int} (h : cd_rank σ a = 1) : a_rank σ a = (-9999002) := by unfold a_rank; rw [h]; rfl
theorem t_rank_0 {σ : gS} {a : Int} (h : cd_rank σ a = 0) : t_rank σ a = s_act σ (q_srk σ.1 (fun k => q_kd a (5 - k))) := by unfold t_rank; rw [if_pos h]
theorem t_rank_no {σ : gS} {a : Int} (h : cd_rank σ a ≠ 0) : t_rank σ a = σ := by unfold t_rank; rw [if_neg h]
theorem ok_rank {σ : gS} (hσ : s_ok σ) {a : Int} : s_ok (t_rank σ a) := by
  by_cases h : cd_rank σ a = 0
  · rw [t_rank_0 h]; exact hσ.act (p_srk hσ.1 h)
  · rw [t_rank_no h]; exact hσ
theorem ax_draw_0 {σ : gS} {a : Int} {b : Int} (h : cd_draw σ a b = 0) : a_draw σ a b = q_dr σ.1 a.toNat := by unfold a_draw; rw [if_pos h]
theorem ax_draw_1 {σ : gS} {a : Int} {b : Int} (h : cd_draw σ a b = 1) : a_draw σ a b = (-9999001) := by unfold a_draw; rw [h]; rfl
theorem ax_draw_2 {σ : gS} {a : Int} {b : Int} (h : cd_draw σ a b = 2) : a_draw σ a b = (-9999002) := by unfold a_draw; rw [h]; rfl
theorem ax_draw_3 {σ : gS} {a : Int} {b : Int} (h : cd_draw σ a b = 3) : a_draw σ a b = (-9999003) := by unfold a_draw; rw [h]; rfl
theorem t_draw_0 {σ : gS} {a : Int} {b : Int} (h : cd_draw σ a b = 0) : t_draw σ a b = s_act σ (q_sdr σ.1 a.toNat b) := by unfold t_draw; rw [if_pos h]
theorem t_draw_no {σ : gS} {a : Int} {b : Int} (h : cd_draw σ a b ≠ 0) : t_draw σ a b = σ := by unfold t_draw; rw [if_neg h]
theorem ok_draw {σ : gS} (hσ : s_ok σ) {a : Int} {b : Int} : s_ok (t_draw σ a b) := by
  by_cases h : cd_draw σ a b = 0
  · rw [t_draw_0 h]; exact hσ.act (p_sdr hσ.1 h)
  · rw [t_draw_no h]; exact hσ
theorem ax_run_0 {σ : gS} {v : Int} {b : Int} (h : cd_run σ v b = 0) : a_run σ v b = (if q_rz σ.1 b = 1 then q_sc (q_rno σ.1 (q_first σ.1).toNat b (q_dig v)) (q_first σ.1).toNat else -9) := by unfold a_run; rw [if_pos h]
theorem ax_run_1 {σ : gS} {v : Int} {b : Int} (h : cd_run σ v b = 1) : a_run σ v b = (-9999002) := by unfold a_run; rw [h]; rfl
theorem ax_run_2 {σ : gS} {v : Int} {b : Int} (h : cd_run σ v b = 2) : a_run σ v b = (-9999003) := by unfold a_run; rw [h]; rfl
theorem t_run_0 {σ : gS} {v : Int} {b : Int} (h : cd_run σ v b = 0) : t_run σ v b = s_act σ (q_rno σ.1 (q_first σ.1).toNat b (q_dig v)) := by unfold t_run; rw [if_pos h]
theorem t_run_no {σ : gS} {v : Int} {b : Int} (h : cd_run σ v b ≠ 0) : t_run σ v b = σ := by unfold t_run; rw [if_neg h]
theorem ok_run {σ : gS} (hσ : s_ok σ) {v : Int} {b : Int} : s_ok (t_run σ v b) := by
  by_cases h : cd_run σ v b = 0
  · rw [t_run_0 h]; exact hσ.act (p_run hσ.1 h)
  · rw [t_run_no h]; exact hσ
theorem ax_undo_0 {σ : gS} (h : cd_undo σ = 0) : a_undo σ = (σ.2.1 : Int) - 1 := by unfold a_undo; rw [if_pos h]
theorem ax_undo_1 {σ : gS} (h : cd_undo σ = 1) : a_undo σ = (-9999003) := by unfold a_undo; rw [h]; rfl
theorem t_undo_0 {σ : gS} (h : cd_undo σ = 0) : t_undo σ = s_und σ := by unfold t_undo; rw [if_pos h]
theorem t_undo_no {σ : gS} (h : cd_undo σ ≠ 0) : t_undo σ = σ := by unfold t_undo; rw [if_neg h]
theorem ok_undo {σ : gS} (hσ : s_ok σ) : s_ok (t_undo σ) := by
  by_cases h : cd_undo σ = 0
  · rw [t_undo_0 h]; exact hσ.und (by unfold cd_undo at h; split at h <;> omega)
  · rw [t_undo_no h]; exact hσ
theorem ax_save_0 {σ : gS} {a : Int} (h : cd_save σ a = 0) : a_save σ a = q_nrun σ.1 := by unfold a_save; rw [if_pos h]
theorem ax_save_1 {σ : gS} {a : Int} (h : cd_save σ a = 1) : a_save σ a = (-9999001) := by unfold a_save; rw [h]; rfl
theorem t_save_0 {σ : gS} {a : Int} (h : cd_save σ a = 0) : t_save σ a = s_sav σ a.toNat := by unfold t_save; rw [if_pos h]
theorem t_save_no {σ : gS} {a : Int} (h : cd_save σ a ≠ 0) : t_save σ a = σ := by unfold t_save; rw [if_neg h]
theorem ok_save {σ : gS} (hσ : s_ok σ) {a : Int} : s_ok (t_save σ a) := by
  by_cases h : cd_save σ a = 0
  · rw [t_save_0 h]; exact hσ.sav _
  · rw [t_save_no h]; exact hσ
theorem ax_restore_0 {σ : gS} {a : Int} (h : cd_restore σ a = 0) : a_restore σ a = q_nrun (σ.2.2.2.2 a.toNat) := by unfold a_restore; rw [if_pos h]
theorem ax_restore_1 {σ : gS} {a : Int} (h : cd_restore σ a = 1) : a_restore σ a = (-9999001) := by unfold a_restore; rw [h]; rfl
theorem ax_restore_2 {σ : gS} {a : Int} (h : cd_restore σ a = 2) : a_restore σ a = (-9999003) := by unfold a_restore; rw [h]; rfl
theorem t_restore_0 {σ : gS} {a : Int} (h : cd_restore σ a = 0) : t_restore σ a = s_res σ a.toNat := by unfold t_restore; rw [if_pos h]
theorem t_restore_no {σ : gS} {a : Int} (h : cd_restore σ a ≠ 0) : t_restore σ a = σ := by unfold t_restore; rw [if_neg h]
theorem ok_restore {σ : gS} (hσ : s_ok σ) {a : Int} : s_ok (t_restore σ a) := by
  by_cases h : cd_restore σ a = 0
  · rw [t_restore_0 h]
    unfold cd_restore at h
    have h8 : 0 ≤ a ∧ a ≤ 1 := by split at h <;> omega
    rw [if_neg (fun h9 => h9 h8)] at h
    have h7 := (hσ.2.2.2 a.toNat (by omega)).1
    refine hσ.res (by omega) ?_
    split at h <;> omega
  · rw [t_restore_no h]; exact hσ
theorem pv_in (v : Int) : ∀ (p : Nat), 0 ≤ q_pv v p ∧ q_pv v p < 100 ^ p
  | 0 => ⟨Int.le_refl 0, (show (0 : Int) < 1 by decide)⟩
  | p + 1 => by
    obtain ⟨h1, h2⟩ := pv_in v p
    have hw := wth_in p
    have h3 := Int.emod_nonneg (v / ((p : Int) + 1)) (b := q_wth p + 1) (by omega)
    have h4 := Int.emod_lt_of_pos (v / ((p : Int) + 1)) (b := q_wth p + 1) (by omega)
    rw [q_pv, Int.pow_succ]
    omega
theorem pv6 (v : Int) : 0 ≤ q_pv v 6 ∧ q_pv v 6 < 1000000000000 := by
  have h := pv_in v 6
  rwa [show (100 : Int) ^ 6 = 1000000000000 by decide] at h
/-- one act of the law: its answer, and the state behind it -/
def q_acg (σ : gS) (y w : Int) : Int × gS :=
  if w = 0 then (a_enter σ (y % 6) (y / 8 % 99 + 1), t_enter σ (y % 6) (y / 8 % 99 + 1))
  else if w = 1 then (a_withdraw σ (y % q_nd σ.1), t_withdraw σ (y % q_nd σ.1))
  else if w = 2 then (a_interfere σ (y % q_nd σ.1) (y / 16 % 6), t_interfere σ (y % q_nd σ.1) (y / 16 % 6))
  else if w = 3 then (a_interfere σ (y % q_nd σ.1) (y / 16 % 6), t_interfere σ (y % q_nd σ.1) (y / 16 % 6))
  else if w = 4 then (a_next σ (y % 541 + 60), t_next σ (y % 541 + 60))
  else if w = 5 then (a_next σ (y % 541 + 60), t_next σ (y % 541 + 60))
  else if w = 6 then (if y % 2 = 0 then (a_rank σ 342015, t_rank σ 342015) else (a_rank σ 12345, t_rank σ 12345))
  else if w = 7 then (a_draw σ (y % q_nd σ.1) (y / 16 % 99 + 1), t_draw σ (y % q_nd σ.1) (y / 16 % 99 + 1))
  else if w = 8 then (a_undo σ, t_undo σ)
  else if w = 9 then (if y % 2 = 0 then (a_save σ 1, t_save σ 1) else (a_restore σ 1, t_restore σ 1))
  else (a_run σ (q_pv (y / 64) 6) (y % 30 + 1), t_run σ (q_pv (y / 64) 6) (y % 30 + 1))
theorem ok_acg {σ : gS} (hσ : s_ok σ) (y w : Int) : s_ok (q_acg σ y w).2 := by
  unfold q_acg
  (repeat' split)
  · exact ok_enter hσ
  · exact ok_withdraw hσ
  · exact ok_interfere hσ
  · exact ok_interfere hσ
  · exact ok_next hσ
  · exact ok_next hσ
  · exact ok_rank hσ
  · exact ok_rank hσ
  · exact ok_draw hσ
  · exact ok_undo hσ
  · exact ok_save hσ
  · exact ok_restore hσ
  · exact ok_run hσ
theorem acg_run (σ : gS) (y : Int) {w : Int} (h : w < 0 ∨ 9 < w) : q_acg σ y w = (a_run σ (q_pv (y / 64) 6) (y % 30 + 1), t_run σ (q_pv (y / 64) 6) (y % 30 + 1)) := by
  unfold q_acg
  rw [if_neg (by omega), if_neg (by omega), if_neg (by omega), if_neg (by omega), if_neg (by omega), if_neg (by omega), if_neg (by omega), if_neg (by omega), if_neg (by omega), if_neg (by omega)]
