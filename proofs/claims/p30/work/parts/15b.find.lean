def q_first (R : Nat → Int) : Int := if q_orn R = 0 then -9 else q_orf R 0
def q_atk (R : Nat → Int) (k : Int) : Int := if 0 ≤ k ∧ k < (q_orn R : Int) then q_orf R k.toNat else -9
def q_fnd (f : Nat → Int) (d : Int) : Nat → Int | 0 => -9 | n + 1 => if q_fnd f d n = -9 then (if f n = d then (n : Int) else -9) else q_fnd f d n
theorem q_fnd_no {f : Nat → Int} {d : Int} : ∀ {n : Nat}, (∀ j, j < n → f j ≠ d) → q_fnd f d n = -9
  | 0, _ => rfl
  | n + 1, h => by rw [q_fnd, q_fnd_no (fun j hj => h j (by omega)), if_pos rfl, if_neg (h n (by omega))]
theorem q_fnd_hit {f : Nat → Int} {d : Int} {k : Nat} (hk : f k = d) (hno : ∀ j, j < k → f j ≠ d) : ∀ {n : Nat}, k < n → q_fnd f d n = (k : Int)
  | 0, h => absurd h (Nat.not_lt_zero _)
  | n + 1, h => by
    rw [q_fnd]
    by_cases h1 : k = n
    · subst h1; rw [q_fnd_no hno, if_pos rfl, if_pos hk]
    · rw [q_fnd_hit hk hno (show k < n by omega), if_neg (by omega)]
def q_pio (R : Nat → Int) (d : Int) : Int := q_fnd (q_orf R) d (q_orn R)
theorem q_orn_le {R : Nat → Int} (h : q_inv R) : q_orn R ≤ 12 ∧ (q_orn R : Int) ≤ q_nd R := by
  have h1 := (q_ord_ok R h.1.1 (q_nd R).toNat).1
  have h2 := h.1
  unfold q_orn; omega
theorem q_orf_in {R : Nat → Int} (h : q_inv R) {k : Nat} (hk : k < q_orn R) : 0 ≤ q_orf R k ∧ q_orf R k < q_nd R ∧ q_torun R (q_orf R k).toNat = true := (q_ord_ok R h.1.1 (q_nd R).toNat).2.1 k hk
/-- a new page -/
def q_new : Nat → Int := fun k => if k = 2 then 300 else if k = 3 then -9 else if 8 ≤ k ∧ k < 14 then (k : Int) - 8 else 0
/-- alike, as far as a page goes -/
def q_same (P P' : Nat → Int) : Prop := ∀ k, k < 146 → P k = P' k
