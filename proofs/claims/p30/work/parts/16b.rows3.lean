theorem q_ct_lt {P : Nat → Bool} {x : Nat} (hx : P x = false) : ∀ {n : Nat}, x < n → q_ct P n < n
  | 0, h => absurd h (Nat.not_lt_zero _)
  | n + 1, h => by
    rw [q_ct]
    by_cases h1 : x = n
    · subst h1; rw [hx, if_neg (by decide)]; have := ct_in P x; omega
    · have := q_ct_lt hx (n := n) (by omega); split <;> omega
theorem q_ord_room {R : Nat → Int} (h0 : 0 ≤ q_nd R) {k : Nat} (h : q_stp R (q_ord R k).1 (q_ord R k).2.1 (q_ord R k).2.2 ≠ -9) : ((q_ord R k).2.1 : Int) < q_nd R := by
  rcases q_stp_ok (R := R) (f := (q_ord R k).1) (n := (q_ord R k).2.1) (o := (q_ord R k).2.2) with h1 | ⟨i, h1, -, h3, -⟩
  · exact absurd h1 h
  · have h4 := (q_ord_ok R h0 k).2.2
    have h5 := q_ct_lt (P := fun i => q_inr (q_ord R k).1 i (q_ord R k).2.1) h3 (n := (q_nd R).toNat) (by omega)
    omega
theorem q_stp_of {R f : Nat → Int} {n : Nat} {o st : Int} (hs : st = 0 ∨ st = 2) (h0 : st = 2 → q_nx R (fun i => q_inr f i n) 0 o = -9) (hx : q_nx R (fun i => q_inr f i n) st o ≠ -9) : q_stp R f n o = q_nx R (fun i => q_inr f i n) st o := by
  unfold q_stp
  rcases hs with rfl | rfl
  · rw [if_neg hx]
  · rw [if_pos (h0 rfl)]
theorem q_nx_keep {R f g : Nat → Int} {n : Nat} {st o o' x : Int} (hg : ∀ i : Int, q_inr g i (n + 1) = (q_inr f i n || decide (i = x))) (h : q_nx R (fun i => q_inr f i n) st o = -9) : q_nx R (fun i => q_inr g i (n + 1)) st o' = -9 :=
  q_nx_none (fun i hi hs => by have := q_nx_no h i hi hs; show q_inr g i (n + 1) = true; rw [hg, this]; rfl)
