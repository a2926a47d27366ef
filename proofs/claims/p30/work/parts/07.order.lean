/-! THE ORDER: the best dog of a state among those not placed, by owner and draw; the row step by step -/
def q_inr (f : Nat → Int) (i : Int) : Nat → Bool
  | 0 => false
  | n + 1 => q_inr f i n || decide (f n = i)
theorem q_inr_congr {f g : Nat → Int} (i : Int) : ∀ {n : Nat}, (∀ k, k < n → f k = g k) → q_inr f i n = q_inr g i n
  | 0, _ => rfl
  | n + 1, h => by rw [q_inr, q_inr, q_inr_congr i (fun k hk => h k (by omega)), h n (by omega)]
theorem q_inr_yes {f : Nat → Int} {i : Int} {k : Nat} (h : f k = i) : ∀ {n : Nat}, k < n → q_inr f i n = true
  | 0, hk => absurd hk (Nat.not_lt_zero _)
  | n + 1, hk => by
    rw [q_inr]
    by_cases h1 : k = n
    · subst h1; simp [h]
    · rw [q_inr_yes h (show k < n by omega)]; rfl
theorem q_inr_no {f : Nat → Int} {i : Int} : ∀ {n : Nat}, (∀ k, k < n → f k ≠ i) → q_inr f i n = false
  | 0, _ => rfl
  | n + 1, h => by rw [q_inr, q_inr_no (fun k hk => h k (by omega))]; simp [h n (by omega)]
def q_nx2 (R : Nat → Int) (pl : Nat → Bool) (st o : Int) : Nat → Int × Int
  | 0 => (-9, -9)
  | n + 1 => if pl n = false ∧ q_sa R n = st then
      (if (q_nx2 R pl st o n).1 < 0 ∨ q_dr R n < q_dr R (q_nx2 R pl st o n).1.toNat then (n : Int) else (q_nx2 R pl st o n).1,
       if q_ow R n ≠ o ∧ ((q_nx2 R pl st o n).2 < 0 ∨ q_dr R n < q_dr R (q_nx2 R pl st o n).2.toNat) then (n : Int) else (q_nx2 R pl st o n).2)
    else q_nx2 R pl st o n
theorem q_nx2_congr {R : Nat → Int} {pl pl' : Nat → Bool} {st o : Int} : ∀ {n : Nat}, (∀ k, k < n → pl k = pl' k) → q_nx2 R pl st o n = q_nx2 R pl' st o n
  | 0, _ => rfl
  | n + 1, h => by rw [q_nx2, q_nx2, q_nx2_congr (fun k hk => h k (by omega)), h n (by omega)]
/-- what both of the best are: none, or a dog not placed, of that state -/
def q_nok (R : Nat → Int) (pl : Nat → Bool) (st : Int) (n : Nat) (z : Int) : Prop := z = -9 ∨ ∃ i : Nat, i < n ∧ z = (i : Int) ∧ pl i = false ∧ q_sa R i = st
theorem q_nok.mono {R : Nat → Int} {pl : Nat → Bool} {st : Int} {n : Nat} {z : Int} (h : q_nok R pl st n z) : q_nok R pl st (n + 1) z := by
  rcases h with h | ⟨i, a, b, c⟩
  · exact Or.inl h
  · exact Or.inr ⟨i, by omega, b, c⟩
theorem q_nx2_ok {R : Nat → Int} {pl : Nat → Bool} {st o : Int} : ∀ (n : Nat), q_nok R pl st n (q_nx2 R pl st o n).1 ∧ q_nok R pl st n (q_nx2 R pl st o n).2
  | 0 => ⟨Or.inl rfl, Or.inl rfl⟩
  | n + 1 => by
    have ih := q_nx2_ok (R := R) (pl := pl) (st := st) (o := o) n
    rw [q_nx2]
    split
    · next h =>
      constructor
      · dsimp only
        split
        · exact Or.inr ⟨n, by omega, rfl, h.1, h.2⟩
        · exact ih.1.mono
      · dsimp only
        split
        · exact Or.inr ⟨n, by omega, rfl, h.1, h.2⟩
        · exact ih.2.mono
    · exact ⟨ih.1.mono, ih.2.mono⟩
theorem q_nx2_in {R : Nat → Int} {pl : Nat → Bool} {st o : Int} (n : Nat) : ((q_nx2 R pl st o n).1 = -9 ∨ (0 ≤ (q_nx2 R pl st o n).1 ∧ (q_nx2 R pl st o n).1 < n)) ∧ ((q_nx2 R pl st o n).2 = -9 ∨ (0 ≤ (q_nx2 R pl st o n).2 ∧ (q_nx2 R pl st o n).2 < n)) := by
  obtain ⟨h1, h2⟩ := q_nx2_ok (R := R) (pl := pl) (st := st) (o := o) n
  constructor
  · rcases h1 with h | ⟨i, a, b, c⟩
    · exact Or.inl h
    · exact Or.inr (by omega)
  · rcases h2 with h | ⟨i, a, b, c⟩
    · exact Or.inl h
    · exact Or.inr (by omega)
theorem q_nx2_rg {R : Nat → Int} {pl : Nat → Bool} {st o : Int} (n : Nat) : (-9 ≤ (q_nx2 R pl st o n).1 ∧ (q_nx2 R pl st o n).1 < n) ∧ (-9 ≤ (q_nx2 R pl st o n).2 ∧ (q_nx2 R pl st o n).2 < n) := by
  have h := q_nx2_in (R := R) (pl := pl) (st := st) (o := o) n
  omega
theorem dok5 {R : Nat → Int} (h : q_inv R) (k : Nat) (hk : (k : Int) < q_nd R) : (0 ≤ q_ow R k ∧ q_ow R k < 6) ∧ (1 ≤ q_dr R k ∧ q_dr R k ≤ 99) ∧ (0 ≤ q_sa R k ∧ q_sa R k ≤ 3) ∧ (0 ≤ q_hs R k ∧ q_hs R k ≤ 1) ∧ (0 ≤ q_fr R k ∧ q_fr R k ≤ 6) := by
  have := dok h k hk
  exact ⟨this.1, this.2.1, this.2.2.1, this.2.2.2.1, this.2.2.2.2.1⟩
theorem q_nx2_no {R : Nat → Int} {pl : Nat → Bool} {st o : Int} : ∀ (n : Nat), (q_nx2 R pl st o n).1 = -9 → ∀ i, i < n → q_sa R i = st → pl i = true
  | 0, _ => fun i hi => absurd hi (Nat.not_lt_zero _)
  | n + 1, h => by
    intro i hi hs
    rw [q_nx2] at h
    have hin := q_nx2_in (R := R) (pl := pl) (st := st) (o := o) n
    split at h
    · next hc =>
      dsimp only at h
      split at h
      · omega
      · next hn => exact absurd (Or.inl (by omega)) hn
    · next hc =>
      by_cases h1 : i = n
      · subst h1
        cases hp : pl i with
        | true => rfl
        | false => exact absurd ⟨hp, hs⟩ hc
      · exact q_nx2_no n h i (by omega) hs
theorem q_nx2_two {R : Nat → Int} {pl : Nat → Bool} {st o : Int} : ∀ (n : Nat), (q_nx2 R pl st o n).1 = -9 → (q_nx2 R pl st o n).2 = -9
  | 0, _ => rfl
  | n + 1, h => by
    rw [q_nx2] at h ⊢
    have hin := q_nx2_in (R := R) (pl := pl) (st := st) (o := o) n
    split at h
    · next hc =>
      dsimp only at h
      split at h
      · omega
      · next hn => exact absurd (Or.inl (by omega)) hn
    · next hc => rw [if_neg hc]; exact q_nx2_two n h
def q_nx (R : Nat → Int) (pl : Nat → Bool) (st o : Int) : Int := if (q_nx2 R pl st o (q_nd R).toNat).2 = -9 then (q_nx2 R pl st o (q_nd R).toNat).1 else (q_nx2 R pl st o (q_nd R).toNat).2
theorem q_nx_congr {R : Nat → Int} {pl pl' : Nat → Bool} {st o : Int} (h : ∀ k : Nat, (k : Int) < q_nd R → pl k = pl' k) : q_nx R pl st o = q_nx R pl' st o := by
  unfold q_nx; rw [q_nx2_congr (fun k hk => h k (by omega))]
theorem q_nx_ok {R : Nat → Int} {pl : Nat → Bool} {st o : Int} : q_nok R pl st (q_nd R).toNat (q_nx R pl st o) := by
  have h := q_nx2_ok (R := R) (pl := pl) (st := st) (o := o) (q_nd R).toNat
  unfold q_nx; split
  · exact h.1
  · exact h.2
theorem q_nx_no {R : Nat → Int} {pl : Nat → Bool} {st o : Int} (h : q_nx R pl st o = -9) : ∀ i : Nat, (i : Int) < q_nd R → q_sa R i = st → pl i = true := by
  intro i hi hs
  unfold q_nx at h
  split at h
  · exact q_nx2_no _ h i (by omega) hs
  · next h1 => exact absurd h h1
theorem q_nx_none {R : Nat → Int} {pl : Nat → Bool} {st o : Int} (h : ∀ i : Nat, (i : Int) < q_nd R → q_sa R i = st → pl i = true) : q_nx R pl st o = -9 := by
  rcases q_nx_ok (R := R) (pl := pl) (st := st) (o := o) with h1 | ⟨i, a, b, c, d⟩
  · exact h1
  · rw [h i (by omega) d] at c; cases c
def q_stp (R f : Nat → Int) (n : Nat) (o : Int) : Int := if q_nx R (fun i => q_inr f i n) 0 o = -9 then q_nx R (fun i => q_inr f i n) 2 o else q_nx R (fun i => q_inr f i n) 0 o
/-- the row after k steps: what stands in it, how many, the owner behind whom the next is sought -/
def q_ord (R : Nat → Int) : Nat → (Nat → Int) × Nat × Int
  | 0 => (fun _ => 0, 0, q_lw R)
  | k + 1 => if q_stp R (q_ord R k).1 (q_ord R k).2.1 (q_ord R k).2.2 = -9 then q_ord R k
    else (q_up (q_ord R k).1 (q_ord R k).2.1 (q_stp R (q_ord R k).1 (q_ord R k).2.1 (q_ord R k).2.2), (q_ord R k).2.1 + 1, q_ow R (q_stp R (q_ord R k).1 (q_ord R k).2.1 (q_ord R k).2.2).toNat)
def q_orf (R : Nat → Int) : Nat → Int := (q_ord R (q_nd R).toNat).1
def q_orn (R : Nat → Int) : Nat := (q_ord R (q_nd R).toNat).2.1
theorem q_stp_ok {R f : Nat → Int} {n : Nat} {o : Int} : q_stp R f n o = -9 ∨ ∃ i : Nat, (i : Int) < q_nd R ∧ q_stp R f n o = (i : Int) ∧ q_inr f i n = false ∧ (q_sa R i = 0 ∨ q_sa R i = 2) := by
  unfold q_stp
  split
  · rcases q_nx_ok (R := R) (pl := fun i => q_inr f i n) (st := 2) (o := o) with h | ⟨i, a, b, c, d⟩
    · exact Or.inl h
    · exact Or.inr ⟨i, by omega, b, c, Or.inr d⟩
  · rcases q_nx_ok (R := R) (pl := fun i => q_inr f i n) (st := 0) (o := o) with h | ⟨i, a, b, c, d⟩
    · exact Or.inl h
    · exact Or.inr ⟨i, by omega, b, c, Or.inl d⟩
theorem q_ct_one {P Q : Nat → Bool} {x : Nat} (hx : P x = false) (hq : ∀ i, Q i = (P i || decide (i = x))) : ∀ (n : Nat), q_ct Q n = q_ct P n + (if x < n then 1 else 0)
  | 0 => rfl
  | n + 1 => by
    rw [q_ct, q_ct, q_ct_one hx hq n, hq n]
    by_cases h : n = x
    · subst h; rw [hx]; simp
    · rw [show decide (n = x) = false from decide_eq_false h, Bool.or_false]
      generalize (if P n = true then (1 : Int) else 0) = e9
      by_cases h1 : x < n
      · rw [if_pos h1, if_pos (show x < n + 1 by omega)]; omega
      · rw [if_neg h1, if_neg (show ¬ x < n + 1 by omega)]; omega
theorem q_inr_up {f : Nat → Int} {n : Nat} {x : Int} (i : Int) : q_inr (q_up f n x) i (n + 1) = (q_inr f i n || decide (i = x)) := by
  rw [q_inr, up_eq, q_inr_congr (g := f) i (fun k hk => up_ne _ _ (by omega))]
  congr 1
  by_cases h : x = i
  · simp [h]
  · simp [h, Ne.symm h]
/-- what holds of the row at each step -/
theorem q_ord_ok (R : Nat → Int) (h0 : 0 ≤ q_nd R) : ∀ (k : Nat), (q_ord R k).2.1 ≤ k ∧ (∀ j, j < (q_ord R k).2.1 → 0 ≤ (q_ord R k).1 j ∧ (q_ord R k).1 j < q_nd R ∧ q_torun R ((q_ord R k).1 j).toNat = true) ∧ q_ct (fun i => q_inr (q_ord R k).1 i (q_ord R k).2.1) (q_nd R).toNat = (q_ord R k).2.1
  | 0 => ⟨Nat.le_refl 0, fun j hj => absurd hj (Nat.not_lt_zero _), by
      show q_ct (fun i => q_inr _ i 0) _ = 0
      have : ∀ n, q_ct (fun i : Nat => q_inr (fun _ => 0) (i : Int) 0) n = 0 := by
        intro n; induction n with
        | zero => rfl
        | succ n ih => rw [q_ct, ih]; rfl
      exact this _⟩
  | k + 1 => by
    obtain ⟨a, b, c⟩ := q_ord_ok R h0 k
    rw [q_ord]
    split
    · exact ⟨by omega, b, c⟩
    · next hs =>
      rcases q_stp_ok (R := R) (f := (q_ord R k).1) (n := (q_ord R k).2.1) (o := (q_ord R k).2.2) with h | ⟨i, h1, h2, h3, h4⟩
      · exact absurd h hs
      · refine ⟨by dsimp only; omega, fun j hj => ?_, ?_⟩
        · dsimp only at hj ⊢
          by_cases hj2 : j = (q_ord R k).2.1
          · rw [hj2, up_eq, h2]
            refine ⟨by omega, h1, ?_⟩
            unfold q_torun
            exact decide_eq_true (by simpa using h4)
          · rw [up_ne _ _ hj2]
            exact b j (by omega)
        · dsimp only
          rw [q_ct_one (P := fun i => q_inr (q_ord R k).1 i (q_ord R k).2.1) (x := i) h3 (fun j => ?_) _, c, if_pos (by omega)]
          · omega
          · rw [q_inr_up, h2]
            congr 1
            by_cases hji : j = i
            · simp [hji]
            · simp [hji]; omega
theorem q_ord_stay {R : Nat → Int} {k : Nat} (h : q_stp R (q_ord R k).1 (q_ord R k).2.1 (q_ord R k).2.2 = -9) : ∀ (j : Nat), q_ord R (k + j) = q_ord R k
  | 0 => rfl
  | j + 1 => by
    have ih := q_ord_stay h j
    show q_ord R ((k + j) + 1) = _
    rw [q_ord, ih, if_pos h]
