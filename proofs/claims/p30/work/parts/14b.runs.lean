/-- a run let on a page: too late, or counted -/
def q_rz (R : Nat → Int) (mi : Int) : Int := if R 2 < R 1 + mi then 0 else 1
def q_rno (R : Nat → Int) (i : Nat) (mi : Int) (L : Nat → Int) : Nat → Int := if R 2 < R 1 + mi then q_drk (q_lst R (i : Int)) else q_nr (q_cnt (q_lst R (i : Int)) mi) i L
theorem q_nr_congr (R : Nat → Int) (i : Nat) {L L' : Nat → Int} (h : ∀ p, p < 6 → L p = L' p) : q_nr R i L = q_nr R i L' := by
  funext k
  unfold q_nr
  (repeat' split) <;> first | rfl | (exact h _ (by omega))
theorem q_rno_congr (R : Nat → Int) (i : Nat) (mi : Int) {L L' : Nat → Int} (h : ∀ p, p < 6 → L p = L' p) : q_rno R i mi L = q_rno R i mi L' := by
  unfold q_rno; rw [q_nr_congr _ i h]
theorem inv_rno {R : Nat → Int} {i : Nat} {mi : Int} {L : Nat → Int} (h : q_inv R) (hi : (i : Int) < q_nd R) (hm : 1 ≤ mi) (hL : ∀ p : Nat, p < 6 → 0 ≤ L p ∧ L p ≤ q_wth p) : q_inv (q_rno R i mi L) := by
  have h1 : q_inv (q_lst R (i : Int)) := inv_lst h (by omega)
  unfold q_rno
  split
  · exact inv_drk h1
  · exact inv_nr (inv_cnt h1 (by rw [q_lst_s1, q_lst_s2]; omega)) hL
theorem q_ord_next {R : Nat → Int} {k : Nat} {x : Int} (hx : q_stp R (q_ord R k).1 (q_ord R k).2.1 (q_ord R k).2.2 = x) (h : x ≠ -9) : q_ord R (k + 1) = (q_up (q_ord R k).1 (q_ord R k).2.1 x, (q_ord R k).2.1 + 1, q_ow R x.toNat) := by
  rw [q_ord, hx, if_neg h]
theorem q_lw_in {R : Nat → Int} (h : q_inv R) : -9 ≤ q_lw R ∧ q_lw R ≤ 5 := by
  unfold q_lw
  split
  · have := dok5 h (R 3).toNat (by omega); omega
  · omega
theorem q_ord_ow {R : Nat → Int} (h : q_inv R) : ∀ (k : Nat), -9 ≤ (q_ord R k).2.2 ∧ (q_ord R k).2.2 ≤ 5
  | 0 => q_lw_in h
  | k + 1 => by
    have ih := q_ord_ow h k
    rw [q_ord]
    split
    · exact ih
    · rcases q_stp_ok (R := R) (f := (q_ord R k).1) (n := (q_ord R k).2.1) (o := (q_ord R k).2.2) with h1 | ⟨i, h1, h2, -, -⟩
      · next hs => exact absurd h1 hs
      · dsimp only; rw [h2]; have := dok5 h i h1; simp only [Int.toNat_natCast]; omega
theorem tr_wr {M : Nat → Nat → Int} {t : Nat} {R : Nat → Int} (h : q_tr M t R) {k j : Nat} {v : Int} (hk : k < t ∨ t + 8 ≤ k) : q_tr (q_wr M k j v) t R :=
  q_tr_off h (lo := k) (hi := k + 1) (q_off.wr (q_off.rf _ _ _) (Nat.le_refl _) (Nat.lt_succ_self _)) (by omega)
theorem q_nx_rg {R : Nat → Int} {pl : Nat → Bool} {st o : Int} : q_nx R pl st o = -9 ∨ (0 ≤ q_nx R pl st o ∧ q_nx R pl st o < q_nd R) := by
  rcases q_nx_ok (R := R) (pl := pl) (st := st) (o := o) with h | ⟨i, a, b, c⟩
  · exact Or.inl h
  · exact Or.inr (by omega)
