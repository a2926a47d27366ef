/-! REHEARSALS OF THE CLASS: commands of a script, rounds from a seed -/
theorem q_ifd {C : Prop} [Decidable C] : (if C then (1 : Int) else 0) = (if decide C = true then 1 else 0) := by by_cases h : C <;> simp [h]
theorem q_tr_rh {M M1 : Nat → Nat → Int} {t : Nat} {R : Nat → Int} (h : q_tr M t R) (h2 : q_rh M M1) (ht : t + 8 ≤ 16 ∨ (24 ≤ t ∧ t + 8 ≤ 159) ∨ 163 ≤ t) : q_tr M1 t R := by
  have e : ∀ r, r < 8 → M1 (t + r) = M (t + r) := fun r hr => h2 _ (by omega) (by omega)
  have e0 : M1 t = M t := e 0 (by omega)
  unfold q_tr
  rw [e0, e 1 (by omega), e 2 (by omega), e 3 (by omega), e 4 (by omega), e 5 (by omega), e 6 (by omega), e 7 (by omega)]
  exact h
def q_r4 (s : Int) : Nat → Int | 0 => s | j + 1 => q_r4 s j / 10000
def q_cmd (s : Int) (n k : Nat) : Int := q_r4 s (n - 1 - k) % 10000
def q_p4 : Nat → Int | 0 => 1 | j + 1 => 10000 * q_p4 j
theorem q_r4_in {s : Int} (h : 0 ≤ s) : ∀ (j : Nat), 0 ≤ q_r4 s j ∧ q_r4 s j ≤ s
  | 0 => ⟨h, Int.le_refl _⟩
  | j + 1 => by have := q_r4_in h j; rw [q_r4]; omega
theorem q_cmd_in (s : Int) (n k : Nat) : 0 ≤ q_cmd s n k ∧ q_cmd s n k < 10000 := by unfold q_cmd; omega
theorem q_r4_0 {s : Int} (h : 0 ≤ s) {n : Nat} (hn : 1 ≤ n ∧ n ≤ 4) : q_r4 s n = 0 ↔ s < q_p4 n := by
  have : n = 1 ∨ n = 2 ∨ n = 3 ∨ n = 4 := by omega
  rcases this with rfl | rfl | rfl | rfl <;> (simp only [q_r4, q_p4]; omega)
theorem q_p4_in {n : Nat} (hn : n ≤ 4) : 1 ≤ q_p4 n ∧ q_p4 n ≤ 10000000000000000 := by
  have : n = 0 ∨ n = 1 ∨ n = 2 ∨ n = 3 ∨ n = 4 := by omega
  rcases this with rfl | rfl | rfl | rfl | rfl <;> (simp only [q_p4]; omega)
theorem q_p4_div {n : Nat} (hn : n < 4) : q_p4 (n + 1) / 10000 = q_p4 n := by rw [q_p4]; omega
/-- the page behind k commands; the first command that fails -/
def q_run (C : Nat → Int) (R : Nat → Int) : Nat → Nat → Int | 0 => R | k + 1 => q_dop (q_run C R k) (C k / 1000) (C k % 1000)
def q_okc (C : Nat → Int) (R : Nat → Int) (k : Nat) : Bool := q_doz (q_run C R k) (C k / 1000) (C k % 1000)
def q_ff (C : Nat → Int) (R : Nat → Int) : Nat → Int | 0 => -9 | n + 1 => if q_ff C R n = -9 then (if q_okc C R n = true then -9 else (n : Int)) else q_ff C R n
theorem q_ff_no {C R : Nat → Int} : ∀ {n : Nat}, (∀ j, j < n → q_okc C R j = true) → q_ff C R n = -9
  | 0, _ => rfl
  | n + 1, h => by rw [q_ff, q_ff_no (fun j hj => h j (by omega)), if_pos rfl, if_pos (h n (by omega))]
theorem q_ff_hit {C R : Nat → Int} {k : Nat} (hk : ¬ q_okc C R k = true) (hno : ∀ j, j < k → q_okc C R j = true) : ∀ {n : Nat}, k < n → q_ff C R n = (k : Int)
  | 0, h => absurd h (Nat.not_lt_zero _)
  | n + 1, h => by
    rw [q_ff]
    by_cases h1 : k = n
    · subst h1; rw [q_ff_no hno, if_pos rfl, if_neg hk]
    · rw [q_ff_hit hk hno (show k < n by omega), if_neg (by omega)]
theorem inv_run {C R : Nat → Int} (hI : q_inv R) : ∀ (k : Nat), (∀ j, j < k → q_okc C R j = true) → q_inv (q_run C R k)
  | 0, _ => hI
  | k + 1, h => by
    rw [q_run]
    exact inv_dop (inv_run hI k (fun j hj => h j (by omega))) (by omega) (h k (by omega))
/-- rounds from a seed -/
def q_lcg (s : Int) : Nat → Int | 0 => s | k + 1 => 6364136223846793005 * q_lcg s k + 1442695040888963407
def q_sim (R : Nat → Int) (s : Int) : Nat → Nat → Int | 0 => R | k + 1 => q_rnd (q_sim R s k) (q_up31 (q_lcg s (k + 1)))
theorem inv_sim {R : Nat → Int} (hI : q_inv R) (s : Int) : ∀ (k : Nat), q_inv (q_sim R s k)
  | 0 => hI
  | k + 1 => inv_rnd (inv_sim hI s k) (q_up31_in _).1
