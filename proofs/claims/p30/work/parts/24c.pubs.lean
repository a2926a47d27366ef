/-! WHAT the public methods answer: more -/
theorem q_pl_rg {R : Nat → Int} (hn : q_nd R ≤ 12) (i : Nat) : -9 ≤ q_pl R i ∧ q_pl R i ≤ 13 := by
  have h := ct_in (fun j => decide (q_hs R j = 1) && q_bt R j i) (q_nd R).toNat
  unfold q_pl
  split <;> omega
theorem q_bp_in {R : Nat → Int} (hI : q_inv R) {i : Nat} (_ : (i : Int) < q_nd R) : -9 ≤ q_bp R i ∧ q_bp R i ≤ 13 := by
  unfold q_bp
  split
  · exact q_pl_rg (by rw [q_nr_nd]; exact hI.1.2) i
  · exact q_pl_rg hI.1.2 i
theorem q_smw6 : ∀ n, n ≤ 6 → 0 ≤ q_sm q_wth n ∧ q_sm q_wth n ≤ 100 := by decide
theorem q_tw_in {R : Nat → Int} (hI : q_inv R) {i : Nat} (hi : (i : Int) < q_nd R) : 0 ≤ q_tw R i ∧ q_tw R i ≤ 100 := by
  have h0 := dok5 hI i hi
  have h1 : 0 ≤ q_fp R i ∧ q_fp R i ≤ 6 := by unfold q_fp; split <;> omega
  have h2 := q_smw6 (q_fp R i).toNat (by omega)
  have h3 := wth6
  unfold q_tw
  omega
theorem q_ml_step {P : Nat → Bool} {k : Nat} (hk : 0 < k) (h : ¬ P (k - 1) = true) : q_dsc P (k - 1) = if k - 1 = 0 then -9 else q_dsc P (k - 1 - 1) := by
  match k, hk with
  | 1, _ => rw [if_pos rfl]; exact q_dsc_zero h
  | j + 2, _ => rw [if_neg (by omega)]; exact q_dsc_step h
