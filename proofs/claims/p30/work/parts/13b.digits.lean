theorem cpa_ap (M : Nat → Nat → Int) (d s n a b : Nat) : q_cpa M d s n a b = if a = d ∧ b < n then M s b else M a b := by
  unfold q_cpa
  by_cases h : a = d
  · subst h; by_cases h2 : b < n <;> simp [h2]
  · simp [h]
theorem cpa_off (M : Nat → Nat → Int) {d a : Nat} (s n : Nat) (h : a ≠ d) : q_cpa M d s n a = M a := by unfold q_cpa; exact if_neg h
theorem cpa_in (M : Nat → Nat → Int) (d s : Nat) {n b : Nat} (h : b < n) : q_cpa M d s n d b = M s b := by unfold q_cpa; rw [if_pos rfl]; exact if_pos h
/-- what is left of a number when n pairs of digits are off; the digits of a phase -/
def q_rst (v : Int) : Nat → Int | 0 => v | n + 1 => q_rst v n / 100
def q_dig (v : Int) (p : Nat) : Int := q_rst v (5 - p) % 100
theorem q_rst_in {v : Int} (h : 0 ≤ v) : ∀ (n : Nat), 0 ≤ q_rst v n ∧ q_rst v n ≤ v
  | 0 => ⟨h, Int.le_refl _⟩
  | n + 1 => by have := q_rst_in h n; rw [q_rst]; omega
theorem q_dig_in (v : Int) (p : Nat) : 0 ≤ q_dig v p ∧ q_dig v p < 100 := by unfold q_dig; omega
/-- points that may be lost -/
def q_pts (v : Int) : Prop := (0 ≤ v ∧ v ≤ 999999999999) ∧ ∀ p : Nat, p < 6 → q_dig v p ≤ q_wth p
