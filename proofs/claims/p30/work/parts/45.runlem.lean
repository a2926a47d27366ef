/-! SO MANY RUNS: one after the other, till it is dark or none is left; then undone -/
def q_du (R : Nat → Int) (m : Int) : Nat := (min (q_nwait R) ((R 2 - R 1) / m)).toNat
theorem du_in {R : Nat → Int} (h : q_inv R) {m : Int} (hm : 1 ≤ m ∧ m ≤ 30) : (q_du R m : Int) = min (q_nwait R) ((R 2 - R 1) / m) ∧ q_du R m ≤ 12 ∧ (q_du R m : Int) ≤ q_nwait R ∧ (q_du R m : Int) * m ≤ R 2 - R 1 ∧ ((q_du R m : Int) = q_nwait R ∨ R 2 - R 1 < ((q_du R m : Int) + 1) * m) := by
  have h1 := nwait_in h
  have h2 := h.2.2.2.1
  have h3 : 0 ≤ (R 2 - R 1) / m := Int.ediv_nonneg (by omega) (by omega)
  have e : (q_du R m : Int) = min (q_nwait R) ((R 2 - R 1) / m) := by unfold q_du; omega
  refine ⟨e, by omega, by omega, ?_, ?_⟩
  · have h4 : (q_du R m : Int) ≤ (R 2 - R 1) / m := by omega
    exact (Int.le_ediv_iff_mul_le (by omega)).mp h4
  · by_cases h5 : (q_du R m : Int) = q_nwait R
    · exact Or.inl h5
    · have h6 : (q_du R m : Int) = (R 2 - R 1) / m := by omega
      rw [h6]
      exact Or.inr (Int.lt_ediv_add_one_mul_self _ (by omega))
def s_ru (σ : gS) (m : Int) : Nat → gS | 0 => σ | k + 1 => s_act (s_ru σ m k) (q_rno (s_ru σ m k).1 (q_first (s_ru σ m k).1).toNat m (q_dig 0))
theorem ru_run {σ : gS} {m : Int} (hm : 1 ≤ m ∧ m ≤ 30) {k : Nat} (h0 : q_ob (s_ru σ m k).1 = 0) : cd_run (s_ru σ m k) 0 m = 0 ∧ t_run (s_ru σ m k) 0 m = s_ru σ m (k + 1) := by
  have hc : cd_run (s_ru σ m k) 0 m = 0 := by unfold cd_run; rw [if_neg (fun h9 => h9 ⟨by decide +kernel, by omega, by omega⟩), if_neg (fun h9 => h9 h0)]
  exact ⟨hc, t_run_0 hc⟩
theorem ru_ok {σ : gS} {m : Int} (hm : 1 ≤ m ∧ m ≤ 30) {k : Nat} (hs : s_ok (s_ru σ m k)) (h0 : q_ob (s_ru σ m k).1 = 0) : s_ok (s_ru σ m (k + 1)) := by
  rw [← (ru_run hm h0).2]; exact ok_run hs
/-- a run that counts, a run in the dark -/
theorem rno_on {R : Nat → Int} (h : q_inv R) (h0 : q_ob R = 0) {m : Int} (hm : R 1 + m ≤ R 2) (L : Nat → Int) : q_rno R (q_first R).toNat m L = q_nr (q_cnt (q_lst R (q_di R 0 : Int)) m) (q_di R 0) L := by
  have h1 := ob0 h h0
  unfold q_rno
  rw [if_neg (by omega), first_di h h1.1, Int.toNat_natCast]
theorem rno_off {R : Nat → Int} (h : q_inv R) (h0 : q_ob R = 0) {m : Int} (hm : R 2 < R 1 + m) (L : Nat → Int) : q_rno R (q_first R).toNat m L = q_drk (q_lst R (q_di R 0 : Int)) := by
  have h1 := ob0 h h0
  unfold q_rno
  rw [if_pos hm, first_di h h1.1, Int.toNat_natCast]
theorem rno_3 {R : Nat → Int} (h : q_inv R) (h0 : q_ob R = 0) (m : Int) (L : Nat → Int) : (q_rno R (q_first R).toNat m L) 3 = (q_di R 0 : Int) := by
  by_cases hm : R 2 < R 1 + m
  · rw [rno_off h h0 hm, q_drk_s3, q_lst_s3]
  · rw [rno_on h h0 (by omega), q_nr_s3, q_cnt_s3, q_lst_s3]
theorem wait_on {R : Nat → Int} (h : q_inv R) (h0 : q_ob R = 0) {m : Int} (L : Nat → Int) : q_nwait R = q_nwait (q_nr (q_cnt (q_lst R (q_di R 0 : Int)) m) (q_di R 0) L) + 1 := by
  have h1 := ob0 h h0
  have h2 := di_in h h1.1
  unfold q_nwait
  rw [q_nr_nd, q_cnt_nd, q_lst_nd]
  have e : ∀ j, q_torun R j = (q_torun (q_nr (q_cnt (q_lst R (q_di R 0 : Int)) m) (q_di R 0) L) j || decide (j = q_di R 0)) := fun j => by
    unfold q_torun
    rw [q_nr_sa, q_cnt_sa, q_lst_sa]
    by_cases hj : j = q_di R 0
    · rw [hj, decide_eq_true (show q_di R 0 = q_di R 0 from rfl), Bool.or_true]
      exact decide_eq_true h2.2
    · rw [if_neg hj, decide_eq_false hj, Bool.or_false]
  rw [q_ct_one (P := q_torun (q_nr (q_cnt (q_lst R (q_di R 0 : Int)) m) (q_di R 0) L)) (Q := q_torun R) (x := q_di R 0) (by
    unfold q_torun
    rw [q_nr_sa, if_pos rfl]
    exact decide_eq_false (by omega)) e, if_pos (by omega)]
theorem ru_facts {σ : gS} (hσ : s_ok σ) {m : Int} (hm : 1 ≤ m ∧ m ≤ 30) : ∀ {k : Nat}, k ≤ q_du σ.1 m → s_ok (s_ru σ m k) ∧ q_nwait (s_ru σ m k).1 = q_nwait σ.1 - (k : Int) ∧ (s_ru σ m k).1 1 = σ.1 1 + (k : Int) * m ∧ (s_ru σ m k).1 2 = σ.1 2 ∧ (s_ru σ m k).1 4 = σ.1 4 + (k : Int)
  | 0, _ => ⟨hσ, by show q_nwait σ.1 = _; omega, by show σ.1 1 = _; rw [show ((0 : Nat) : Int) * m = 0 from Int.zero_mul m]; omega, rfl, by show σ.1 4 = _; omega⟩
  | k + 1, hk => by
    obtain ⟨a1, a2, a3, a4, a5⟩ := ru_facts hσ hm (k := k) (by omega)
    obtain ⟨d1, d2, d3, d4, d5⟩ := du_in hσ.1.1 hm
    have hmul : ((k : Int) + 1) * m ≤ (q_du σ.1 m : Int) * m := Int.mul_le_mul_of_nonneg_right (by omega) (by omega)
    have he : ((k : Int) + 1) * m = (k : Int) * m + m := by rw [Int.add_mul, Int.one_mul]
    have hob : q_ob (s_ru σ m k).1 = 0 := by
      unfold q_ob
      rw [a2, a3, a4, if_neg (by omega), if_neg (by omega)]
    have hon := rno_on a1.1.1 hob (m := m) (by rw [a3, a4]; omega) (q_dig 0)
    have hs1 : (s_ru σ m (k + 1)).1 = q_nr (q_cnt (q_lst (s_ru σ m k).1 (q_di (s_ru σ m k).1 0 : Int)) m) (q_di (s_ru σ m k).1 0) (q_dig 0) := hon
    have hw := wait_on a1.1.1 hob (m := m) (q_dig 0)
    refine ⟨ru_ok hm a1 hob, ?_, ?_, ?_, ?_⟩
    · rw [hs1]; omega
    · rw [hs1, q_nr_s1, q_cnt_s1, q_lst_s1, a3, show ((k + 1 : Nat) : Int) = (k : Int) + 1 by omega, he]; omega
    · rw [hs1, q_nr_s2, q_cnt_s2, q_lst_s2, a4]
    · rw [hs1, q_nr_s4, q_cnt_s4, q_lst_s4, a5]; omega
/-- at the end of the runs that count: one more can begin only in the dark -/
theorem ru_last {σ : gS} (hσ : s_ok σ) {m : Int} (hm : 1 ≤ m ∧ m ≤ 30) (h0 : q_ob (s_ru σ m (q_du σ.1 m)).1 = 0) : s_ok (s_ru σ m (q_du σ.1 m + 1)) ∧ (s_ru σ m (q_du σ.1 m + 1)).1 1 = σ.1 2 ∧ (s_ru σ m (q_du σ.1 m + 1)).1 2 = σ.1 2 ∧ (s_ru σ m (q_du σ.1 m + 1)).1 4 = σ.1 4 + (q_du σ.1 m : Int) ∧ q_ob (s_ru σ m (q_du σ.1 m + 1)).1 ≠ 0 ∧ q_rz (s_ru σ m (q_du σ.1 m)).1 m = 0 := by
  obtain ⟨a1, a2, a3, a4, a5⟩ := ru_facts hσ hm (k := q_du σ.1 m) (Nat.le_refl _)
  obtain ⟨d1, d2, d3, d4, d5⟩ := du_in hσ.1.1 hm
  have he : ((q_du σ.1 m : Int) + 1) * m = (q_du σ.1 m : Int) * m + m := by rw [Int.add_mul, Int.one_mul]
  have hw : q_nwait (s_ru σ m (q_du σ.1 m)).1 ≠ 0 := fun h9 => by unfold q_ob at h0; rw [if_pos h9] at h0; omega
  have hdk : (s_ru σ m (q_du σ.1 m)).1 2 < (s_ru σ m (q_du σ.1 m)).1 1 + m := by rw [a3, a4]; omega
  have hoff := rno_off a1.1.1 h0 hdk (q_dig 0)
  have hs1 : (s_ru σ m (q_du σ.1 m + 1)).1 = q_drk (q_lst (s_ru σ m (q_du σ.1 m)).1 (q_di (s_ru σ m (q_du σ.1 m)).1 0 : Int)) := hoff
  have e1 : (s_ru σ m (q_du σ.1 m + 1)).1 1 = σ.1 2 := by rw [hs1, q_drk_s1, q_lst_s2, a4]
  have e2 : (s_ru σ m (q_du σ.1 m + 1)).1 2 = σ.1 2 := by rw [hs1, q_drk_s2, q_lst_s2, a4]
  refine ⟨ru_ok hm a1 h0, e1, e2, ?_, ?_, ?_⟩
  · rw [hs1, q_drk_s4, q_lst_s4, a5]
  · unfold q_ob
    split
    · omega
    · rw [e1, e2, if_pos (Int.le_refl _)]; omega
  · unfold q_rz; rw [if_pos hdk]
/-- what holds where the loop of the runs stands -/
theorem ru_at {σ : gS} (hσ : s_ok σ) {m : Int} (hm : 1 ≤ m ∧ m ≤ 30) {k : Nat} (hk : k ≤ q_du σ.1 m + 1) (hq : k = q_du σ.1 m + 1 → q_ob (s_ru σ m (q_du σ.1 m)).1 = 0) : s_ok (s_ru σ m k) ∧ (q_ob (s_ru σ m k).1 = 0 → k ≤ q_du σ.1 m) ∧ (q_ob (s_ru σ m k).1 ≠ 0 → q_du σ.1 m ≤ k) ∧ (s_ru σ m k).1 2 = σ.1 2 ∧ (q_du σ.1 m ≤ k → (s_ru σ m k).1 4 = σ.1 4 + (q_du σ.1 m : Int)) ∧ (k = q_du σ.1 m + 1 → (s_ru σ m k).1 1 = σ.1 2) := by
  by_cases h1 : k ≤ q_du σ.1 m
  · obtain ⟨a1, a2, a3, a4, a5⟩ := ru_facts hσ hm h1
    obtain ⟨d1, d2, d3, d4, d5⟩ := du_in hσ.1.1 hm
    refine ⟨a1, fun _ => h1, fun h2 => ?_, a4, fun h2 => by rw [a5]; omega, fun h2 => by omega⟩
    by_cases h3 : q_du σ.1 m ≤ k
    · exact h3
    · exfalso
      have hmul : ((k : Int) + 1) * m ≤ (q_du σ.1 m : Int) * m := Int.mul_le_mul_of_nonneg_right (by omega) (by omega)
      have he : ((k : Int) + 1) * m = (k : Int) * m + m := by rw [Int.add_mul, Int.one_mul]
      apply h2
      unfold q_ob
      rw [a2, a3, a4, if_neg (by omega), if_neg (by omega)]
  · have e : k = q_du σ.1 m + 1 := by omega
    obtain ⟨a1, a2, a3, a4, a5, a6⟩ := ru_last hσ hm (hq e)
    rw [e]
    exact ⟨a1, fun h2 => absurd h2 a5, fun _ => by omega, a3, fun _ => a4, fun _ => a2⟩
/-- the score of the run at k, or none -/
def q_rs (σ : gS) (m : Int) (k : Nat) : Int := if q_rz (s_ru σ m k).1 m = 1 then q_sc (s_ru σ m (k + 1)).1 (q_first (s_ru σ m k).1).toNat else -9
theorem rs_run {σ : gS} {m : Int} (hm : 1 ≤ m ∧ m ≤ 30) {k : Nat} (h0 : q_ob (s_ru σ m k).1 = 0) : a_run (s_ru σ m k) 0 m = q_rs σ m k := by
  rw [ax_run_0 (ru_run hm h0).1]; rfl
theorem rs_in {σ : gS} (hσ : s_ok σ) {m : Int} (hm : 1 ≤ m ∧ m ≤ 30) {k : Nat} (hk : k ≤ q_du σ.1 m) (h0 : q_ob (s_ru σ m k).1 = 0) : (k < q_du σ.1 m ∧ 0 ≤ q_rs σ m k ∧ q_rs σ m k ≤ 100) ∨ (k = q_du σ.1 m ∧ q_rs σ m k = -9) := by
  by_cases h1 : k = q_du σ.1 m
  · right
    refine ⟨h1, ?_⟩
    have h2 := (ru_last hσ hm (by rw [← h1]; exact h0)).2.2.2.2.2
    unfold q_rs
    rw [h1, if_neg (by omega)]
  · left
    obtain ⟨a1, a2, a3, a4, a5⟩ := ru_facts hσ hm hk
    obtain ⟨b1, -⟩ := ru_facts hσ hm (k := k + 1) (by omega)
    obtain ⟨d1, d2, d3, d4, d5⟩ := du_in hσ.1.1 hm
    have hmul : ((k : Int) + 1) * m ≤ (q_du σ.1 m : Int) * m := Int.mul_le_mul_of_nonneg_right (by omega) (by omega)
    have he : ((k : Int) + 1) * m = (k : Int) * m + m := by rw [Int.add_mul, Int.one_mul]
    have h5 := ob0 a1.1.1 h0
    have h6 := di_in a1.1.1 h5.1
    have h7 := first_di a1.1.1 h5.1
    have hnd : q_nd (s_ru σ m (k + 1)).1 = q_nd (s_ru σ m k).1 := q_rno_nd _ _ _ _
    have h8 := sc_in (b1.1.1.2.1 (q_di (s_ru σ m k).1 0) (by rw [hnd]; exact h6.1))
    unfold q_rs
    rw [if_pos (by unfold q_rz; rw [a3, a4, if_neg (by omega)]), h7, Int.toNat_natCast]
    omega
/-! undone -/
def s_un (τ : gS) : Nat → gS | 0 => τ | j + 1 => s_und (s_un τ j)
theorem un_val (τ : gS) : ∀ (j : Nat), (s_un τ j).2.1 = τ.2.1 - j ∧ (s_un τ j).2.2 = τ.2.2
  | 0 => ⟨rfl, rfl⟩
  | j + 1 => by
    obtain ⟨h1, h2⟩ := un_val τ j
    refine ⟨?_, ?_⟩
    · show (s_un τ j).2.1 - 1 = _; omega
    · show (s_un τ j).2.2 = _; exact h2
theorem un_page (τ : gS) (j : Nat) : (s_un τ (j + 1)).1 = τ.2.2.1 (τ.2.1 - j - 1) := by
  obtain ⟨h1, h2⟩ := un_val τ j
  show (s_un τ j).2.2.1 ((s_un τ j).2.1 - 1) = _
  rw [h1, h2]
theorem ru_cnt (σ : gS) (m : Int) (hc : σ.2.1 ≤ 14) : ∀ (k : Nat), k ≤ 14 → k ≤ (s_ru σ m k).2.1 ∧ (s_ru σ m k).2.1 ≤ 14 ∧ ∀ t, t < k → (s_ru σ m k).2.2.1 ((s_ru σ m k).2.1 - 1 - t) = (s_ru σ m (k - 1 - t)).1
  | 0, _ => ⟨Nat.zero_le _, hc, fun t ht => absurd ht (Nat.not_lt_zero _)⟩
  | k + 1, hk => by
    obtain ⟨h1, h2, h3⟩ := ru_cnt σ m hc k (by omega)
    have hrn : q_rn (s_ru σ m k).2.1 = if (s_ru σ m k).2.1 = 14 then 13 else (s_ru σ m k).2.1 := rfl
    refine ⟨?_, ?_, fun t ht => ?_⟩
    · show k + 1 ≤ q_rn (s_ru σ m k).2.1 + 1
      rw [hrn]; split <;> omega
    · show q_rn (s_ru σ m k).2.1 + 1 ≤ 14
      rw [hrn]; split <;> omega
    · show (if q_rn (s_ru σ m k).2.1 + 1 - 1 - t = q_rn (s_ru σ m k).2.1 then (s_ru σ m k).1 else (s_ru σ m k).2.2.1 (if (s_ru σ m k).2.1 = 14 then q_rn (s_ru σ m k).2.1 + 1 - 1 - t + 1 else q_rn (s_ru σ m k).2.1 + 1 - 1 - t)) = _
      by_cases ht0 : t = 0
      · subst ht0
        rw [if_pos (by omega), show k + 1 - 1 - 0 = k by omega]
      · have hlt : t ≤ k := by omega
        have hg : 1 ≤ q_rn (s_ru σ m k).2.1 := by rw [hrn]; split <;> omega
        rw [if_neg (by omega)]
        have e : (if (s_ru σ m k).2.1 = 14 then q_rn (s_ru σ m k).2.1 + 1 - 1 - t + 1 else q_rn (s_ru σ m k).2.1 + 1 - 1 - t) = (s_ru σ m k).2.1 - 1 - (t - 1) := by
          rw [hrn]; (repeat' split) <;> omega
        rw [e, h3 (t - 1) (by omega), show k - 1 - (t - 1) = k + 1 - 1 - t by omega]
theorem un_ok {σ : gS} {m : Int} {k : Nat} (hk : k ≤ 13) (hs : s_ok (s_ru σ m k)) (hc : σ.2.1 ≤ 14) : ∀ {j : Nat}, j ≤ k → s_ok (s_un (s_ru σ m k) j)
  | 0, _ => hs
  | j + 1, hj => by
    have h1 := (ru_cnt σ m hc k (by omega)).1
    exact (un_ok hk hs hc (j := j) (by omega)).und (by rw [(un_val _ j).1]; omega)
theorem un_step {σ : gS} {m : Int} {k : Nat} (hk : k ≤ 13) (hc : σ.2.1 ≤ 14) {j : Nat} (hj : j < k) : t_undo (s_un (s_ru σ m k) j) = s_un (s_ru σ m k) (j + 1) ∧ 0 ≤ a_undo (s_un (s_ru σ m k) j) ∧ a_undo (s_un (s_ru σ m k) j) ≤ 14 := by
  obtain ⟨h1, h2, -⟩ := ru_cnt σ m hc k (by omega)
  have h3 := (un_val (s_ru σ m k) j).1
  have hcd : cd_undo (s_un (s_ru σ m k) j) = 0 := by unfold cd_undo; exact if_neg (by omega)
  refine ⟨t_undo_0 hcd, ?_⟩
  rw [ax_undo_0 hcd]; omega
theorem un_back {σ : gS} {m : Int} {k : Nat} (hk : k ≤ 13) (hc : σ.2.1 ≤ 14) : (s_un (s_ru σ m k) k).1 = σ.1 := by
  cases k with
  | zero => rfl
  | succ k =>
    obtain ⟨h1, h2, h3⟩ := ru_cnt σ m hc (k + 1) (by omega)
    rw [un_page, show (s_ru σ m (k + 1)).2.1 - k - 1 = (s_ru σ m (k + 1)).2.1 - 1 - k by omega, h3 k (by omega), show k + 1 - 1 - k = 0 by omega]
    rfl
/-- how many runs begin; the state behind all -/
def q_nb (σ : gS) (m : Int) : Nat := if q_ob (s_ru σ m (q_du σ.1 m)).1 = 0 then q_du σ.1 m + 1 else q_du σ.1 m
def t_runs (σ : gS) (m : Int) : gS := s_un (s_ru σ m (q_nb σ m)) (q_nb σ m)
theorem nb_le {σ : gS} (hσ : s_ok σ) {m : Int} (hm : 1 ≤ m ∧ m ≤ 30) : q_nb σ m ≤ 13 := by
  have := du_in hσ.1.1 hm
  unfold q_nb; split <;> omega
theorem ok_runs {σ : gS} (hσ : s_ok σ) {m : Int} (hm : 1 ≤ m ∧ m ≤ 30) : s_ok (t_runs σ m) := by
  unfold t_runs
  refine un_ok (nb_le hσ hm) ?_ hσ.2.1 (Nat.le_refl _)
  unfold q_nb
  split
  · next h0 => exact (ru_last hσ hm h0).1
  · exact (ru_facts hσ hm (Nat.le_refl _)).1
theorem runs_page {σ : gS} (hσ : s_ok σ) {m : Int} (hm : 1 ≤ m ∧ m ≤ 30) : (t_runs σ m).1 = σ.1 := un_back (nb_le hσ hm) hσ.2.1
theorem a_left_in {σ : gS} (h : q_inv σ.1) {m : Int} (hm : 1 ≤ m ∧ m ≤ 30) : a_left σ m = (q_du σ.1 m : Int) := by
  have hc : cd_left σ m = 0 := by unfold cd_left; exact if_pos hm
  rw [ax_left_0 hc, (du_in h hm).1]
