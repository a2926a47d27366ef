/-! RANKS: six digits, each phase once -/
theorem tdiv10_in (x : Int) : (0 ≤ x → 0 ≤ x.tdiv 10 ∧ x.tdiv 10 ≤ x) ∧ (x ≤ 0 → x ≤ x.tdiv 10 ∧ x.tdiv 10 ≤ 0) := by
  constructor
  · intro h
    rw [Int.tdiv_eq_ediv_of_nonneg h]
    omega
  · intro h
    have h1 : (-x).tdiv 10 = (-x) / 10 := Int.tdiv_eq_ediv_of_nonneg (by omega)
    rw [Int.neg_tdiv] at h1
    omega
def q_rd (v : Int) : Nat → Int | 0 => v | n + 1 => (q_rd v n).tdiv 10
def q_kd (v : Int) (j : Nat) : Int := (q_rd v j).tmod 10
def q_mk (v : Int) : Nat → Nat | 0 => 0 | j + 1 => q_mk v j ||| (if 0 ≤ q_rd v j ∧ q_kd v j < 6 then 2 ^ (q_kd v j).toNat else 0)
def q_isr (v : Int) : Bool := decide (q_mk v 6 = 63 ∧ q_rd v 6 = 0)
theorem q_rd_in (v : Int) : ∀ j, (0 ≤ v → 0 ≤ q_rd v j ∧ q_rd v j ≤ v) ∧ (v ≤ 0 → v ≤ q_rd v j ∧ q_rd v j ≤ 0)
  | 0 => ⟨fun h => ⟨h, Int.le_refl _⟩, fun h => ⟨Int.le_refl _, h⟩⟩
  | j + 1 => by
    have ih := q_rd_in v j
    have h := tdiv10_in (q_rd v j)
    rw [q_rd]
    constructor
    · intro h0; have h1 := ih.1 h0; have h2 := h.1 h1.1; omega
    · intro h0; have h1 := ih.2 h0; have h2 := h.2 h1.2; omega
theorem q_kd_in {v : Int} {j : Nat} (h : 0 ≤ q_rd v j) : q_kd v j = q_rd v j % 10 ∧ 0 ≤ q_kd v j ∧ q_kd v j ≤ 9 := by
  unfold q_kd
  rw [Int.tmod_eq_emod_of_nonneg h]
  omega
theorem q_mk_lt (v : Int) : ∀ j, q_mk v j < 64
  | 0 => by show 0 < 64; decide
  | j + 1 => by
    rw [q_mk]
    refine q_or6 _ (q_mk_lt v j) _ ?_
    split
    · next h => have h1 := q_kd_in h.1; exact q_pw6 _ (by omega)
    · decide
def q_pop (m : Nat) : Nat := m % 2 + m / 2 % 2 + m / 4 % 2 + m / 8 % 2 + m / 16 % 2 + m / 32 % 2
theorem q_pop_or : ∀ m, m < 64 → ∀ q, q < 6 → q_pop (m ||| 2 ^ q) = q_pop m + (if m / 2 ^ q % 2 = 0 then 1 else 0) := by decide +kernel
theorem q_pop_63 : ∀ m, m < 64 → (q_pop m = 6 ↔ m = 63) := by decide +kernel
def q_kb (v : Int) (j : Nat) : Bool := decide (q_kd v j < 6 ∧ q_mk v j / 2 ^ (q_kd v j).toNat % 2 = 0)
theorem q_mk_step {v : Int} (h : 0 ≤ v) (j : Nat) : q_pop (q_mk v (j + 1)) = q_pop (q_mk v j) + (if q_kb v j = true then 1 else 0) := by
  have h0 := ((q_rd_in v j).1 h).1
  have h1 := q_kd_in h0
  rw [q_mk]
  by_cases h6 : q_kd v j < 6
  · rw [if_pos ⟨h0, h6⟩, q_pop_or _ (q_mk_lt v j) _ (by omega)]
    by_cases h7 : q_mk v j / 2 ^ (q_kd v j).toNat % 2 = 0
    · rw [if_pos h7, if_pos (show q_kb v j = true from decide_eq_true ⟨h6, h7⟩)]
    · rw [if_neg h7, if_neg (show ¬ q_kb v j = true from fun h8 => h7 (of_decide_eq_true h8).2)]
  · rw [if_neg (fun h8 => h6 h8.2), Nat.or_zero, if_neg (show ¬ q_kb v j = true from fun h8 => h6 (of_decide_eq_true h8).1)]
    rfl
theorem q_mk_le {v : Int} (h : 0 ≤ v) : ∀ j, q_pop (q_mk v j) ≤ j
  | 0 => by show q_pop 0 ≤ 0; decide
  | j + 1 => by have h1 := q_mk_le h j; rw [q_mk_step h]; split <;> omega
theorem q_mk_bad {v : Int} (h : 0 ≤ v) {i : Nat} (hb : ¬ q_kb v i = true) : ∀ j, i < j → q_pop (q_mk v j) < j
  | 0, h1 => absurd h1 (Nat.not_lt_zero _)
  | j + 1, h1 => by
    rw [q_mk_step h]
    by_cases e : i = j
    · subst e
      have h2 := q_mk_le h i
      rw [if_neg hb]; omega
    · have h2 := q_mk_bad h hb j (by omega)
      split <;> omega
theorem q_mk_all {v : Int} (h : 0 ≤ v) : ∀ j, (∀ i, i < j → q_kb v i = true) → q_pop (q_mk v j) = j
  | 0, _ => by show q_pop 0 = 0; decide
  | j + 1, h1 => by rw [q_mk_step h, q_mk_all h j (fun i hi => h1 i (by omega)), if_pos (h1 j (by omega))]
theorem q_isr_no {v : Int} {i : Nat} (h : 0 ≤ v) (hi : i < 6) (hb : ¬ q_kb v i = true) : ¬ q_isr v = true := fun h9 => by
  have h8 := (of_decide_eq_true h9).1
  have h7 := q_mk_bad h hb 6 hi
  have h6 := (q_pop_63 _ (q_mk_lt v 6)).mpr h8
  omega
theorem q_isr_all {v : Int} (h : 0 ≤ v) (ha : ∀ i, i < 6 → q_kb v i = true) : q_isr v = decide (q_rd v 6 = 0) := by
  have h1 := (q_pop_63 _ (q_mk_lt v 6)).mp (q_mk_all h 6 ha)
  unfold q_isr
  rw [h1]
  simp
theorem q_or1 : ∀ m, m < 2 → ∀ b, b < 2 → m ||| b < 2 := by decide
theorem q_mk_neg {v : Int} (h : v < 0) : ∀ j, q_mk v j < 2
  | 0 => by show 0 < 2; decide
  | j + 1 => by
    rw [q_mk]
    refine q_or1 _ (q_mk_neg h j) _ ?_
    split
    · next h1 =>
      have h2 := (q_rd_in v j).2 (by omega)
      have h3 : q_rd v j = 0 := by omega
      have h4 := (q_kd_in h1.1).1
      rw [h3] at h4
      rw [h4]
      decide
    · decide
theorem q_isr_neg {v : Int} (h : v < 0) : ¬ q_isr v = true := fun h9 => by
  have h8 := (of_decide_eq_true h9).1
  have h7 := q_mk_neg h 6
  omega
theorem q_isr_dig {v : Int} (h : q_isr v = true) : 0 ≤ v ∧ ∀ k, k < 6 → 0 ≤ q_kd v (5 - k) ∧ q_kd v (5 - k) < 6 := by
  have h0 : 0 ≤ v := by
    by_cases h1 : v < 0
    · exact absurd h (q_isr_neg h1)
    · omega
  refine ⟨h0, fun k hk => ?_⟩
  have h1 : q_kb v (5 - k) = true := by
    by_cases h2 : q_kb v (5 - k) = true
    · exact h2
    · exact absurd h (q_isr_no h0 (by omega) h2)
  have h2 := (of_decide_eq_true h1).1
  have h3 := q_kd_in ((q_rd_in v (5 - k)).1 h0).1
  exact ⟨h3.2.1, h2⟩
