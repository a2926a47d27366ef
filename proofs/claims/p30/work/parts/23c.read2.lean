/-! THE TEXT AND ITS READERS: more -/
theorem q_wr_self {M : Nat → Nat → Int} {k j : Nat} {v : Int} (h : M k j = v) : q_wr M k j v = M := by
  funext a b
  rw [wr_ap]
  split
  · next e => rw [e.1, e.2]; exact h.symm
  · rfl
theorem q_fre_yes {R : Nat → Int} {d : Int} (h : 1 ≤ d ∧ d ≤ 99) (h2 : q_dn R d (-9) (q_nd R).toNat = false) : q_fre R d = true := by
  unfold q_fre; rw [h2, decide_eq_true h]; rfl
theorem q_fre_out {R : Nat → Int} {d : Int} (h : ¬ (1 ≤ d ∧ d ≤ 99)) : ¬ q_fre R d = true := by
  unfold q_fre; rw [decide_eq_false h]; simp
theorem q_fre_dn {R : Nat → Int} {d : Int} (h : q_dn R d (-9) (q_nd R).toNat = true) : ¬ q_fre R d = true := by
  unfold q_fre; rw [h]; simp
theorem q_fre_no {R : Nat → Int} {d : Int} {i : Nat} (hi : (i : Int) < q_nd R) (hd : q_dr R i = d) : ¬ q_fre R d = true :=
  q_fre_dn (q_dn_yes (by omega) hd (by omega))
theorem q_go_bad {T : Nat → Int} {n f s : Nat} {R : Nat → Int} (hf : 0 < f) (h : s < n ∧ T s = 100) (h2 : ¬ q_dg T n (s + 1) R = 3) : q_go T n f s R = (false, s + 1 + q_dg T n (s + 1) R, R) := by
  cases f with
  | zero => omega
  | succ f => rw [q_go, if_pos h, if_neg h2]
theorem q_go_yes {T : Nat → Int} {n f s : Nat} {R : Nat → Int} (hf : 0 < f) (h : s < n ∧ T s = 100) (h2 : q_dg T n (s + 1) R = 3) : q_go T n f s R = q_go T n (f - 1) (s + 4) (q_dgp T n (s + 1) R) := by
  cases f with
  | zero => omega
  | succ f => rw [q_go, if_pos h, if_pos h2]; rfl
theorem q_go_no {T : Nat → Int} {n f s : Nat} {R : Nat → Int} (h : f = 0 ∨ ¬ (s < n ∧ T s = 100)) : q_go T n f s R = q_tl T n s R := by
  cases f with
  | zero => rfl
  | succ f => rw [q_go, if_neg (h.resolve_left (by omega))]
theorem q_tr_sun {M : Nat → Nat → Int} {R : Nat → Int} {v : Int} (h : q_tr M 8 R) : q_tr (q_wr M 8 10 v) 8 (q_sun R v) := by
  obtain ⟨r0, rd, rk9, r8, r9, r10, r11, r12, r13, r14, rb⟩ := h
  have e : ∀ k, k ≠ 2 → q_sun R v k = R k := fun k hk => up_ne _ _ hk
  have end_ : q_nd (q_sun R v) = q_nd R := e 7 (by decide)
  refine ⟨?_, fun i hi => ?_, fun k hk => ?_, ?_, ?_, ?_, ?_, ?_, ?_, ?_, fun j hj => ?_⟩
  · rw [wr_ne _ _ _ (by decide), end_]; exact r0
  · rw [end_] at hi
    obtain ⟨d1, d2, d3, d4, d5, d6⟩ := rd i hi
    rw [wr_off _ _ _ (show 8 + 1 ≠ 8 by decide), wr_off _ _ _ (show 8 + 2 ≠ 8 by decide), wr_off _ _ _ (show 8 + 3 ≠ 8 by decide), wr_off _ _ _ (show 8 + 4 ≠ 8 by decide), wr_off _ _ _ (show 8 + 5 ≠ 8 by decide)]
    rw [show q_ow (q_sun R v) i = q_ow R i from e _ (by omega), show q_dr (q_sun R v) i = q_dr R i from e _ (by omega), show q_sa (q_sun R v) i = q_sa R i from e _ (by omega), show q_hs (q_sun R v) i = q_hs R i from e _ (by omega), show q_fr (q_sun R v) i = q_fr R i from e _ (by omega)]
    refine ⟨d1, d2, d3, d4, d5, fun hh p hp => ?_⟩
    rw [wr_off _ _ _ (show 8 + 6 ≠ 8 by decide), show q_ls (q_sun R v) i p = q_ls R i p from e _ (by omega)]
    exact d6 hh p hp
  · rw [wr_off _ _ _ (show 8 + 7 ≠ 8 by decide)]
    unfold q_rk
    rw [e _ (by omega)]
    exact rk9 k hk
  · rw [wr_ne _ _ _ (by decide), e 0 (by decide)]; exact r8
  · rw [wr_ne _ _ _ (by decide), e 1 (by decide)]; exact r9
  · rw [wr_eq]; exact (up_eq _ _ _).symm
  · rw [wr_ne _ _ _ (by decide), e 3 (by decide)]; exact r11
  · rw [wr_ne _ _ _ (by decide), e 4 (by decide)]; exact r12
  · rw [wr_ne _ _ _ (by decide), e 5 (by decide)]; exact r13
  · rw [wr_ne _ _ _ (by decide), e 6 (by decide)]; exact r14
  · rw [wr_off _ _ _ (show 8 + 4 ≠ 8 by decide)]; exact rb j hj
theorem q_tr_srk {M M1 : Nat → Nat → Int} {R f : Nat → Int} (h : q_tr M 8 R) (ho : ∀ a, a ≠ 15 → a ≠ 167 → M1 a = M a) (hr : ∀ j : Nat, j < 6 → M1 15 j = f j) : q_tr M1 8 (q_srk R f) := by
  obtain ⟨r0, rd, rk9, r8, r9, r10, r11, r12, r13, r14, rb⟩ := h
  have e0 : M1 8 = M 8 := ho 8 (by decide) (by decide)
  have e1 : M1 (8 + 1) = M (8 + 1) := ho _ (by decide) (by decide)
  have e2 : M1 (8 + 2) = M (8 + 2) := ho _ (by decide) (by decide)
  have e3 : M1 (8 + 3) = M (8 + 3) := ho _ (by decide) (by decide)
  have e4 : M1 (8 + 4) = M (8 + 4) := ho _ (by decide) (by decide)
  have e5 : M1 (8 + 5) = M (8 + 5) := ho _ (by decide) (by decide)
  have e6 : M1 (8 + 6) = M (8 + 6) := ho _ (by decide) (by decide)
  refine ⟨?_, fun i hi => ?_, fun k hk => ?_, ?_, ?_, ?_, ?_, ?_, ?_, ?_, fun j hj => ?_⟩
  · rw [e0, q_srk_nd]; exact r0
  · rw [q_srk_nd] at hi
    obtain ⟨d1, d2, d3, d4, d5, d6⟩ := rd i hi
    rw [e1, e2, e3, e4, e5, q_srk_ow, q_srk_dr, q_srk_sa, q_srk_hs, q_srk_fr]
    refine ⟨d1, d2, d3, d4, d5, fun hh p hp => ?_⟩
    rw [e6, q_srk_ls _ _ _ _ hp]
    exact d6 hh p hp
  · rw [q_srk_rk _ _ _ hk]
    exact hr k hk
  · rw [e0, q_srk_s0]; exact r8
  · rw [e0, q_srk_s1]; exact r9
  · rw [e0, q_srk_s2]; exact r10
  · rw [e0, q_srk_s3]; exact r11
  · rw [e0, q_srk_s4]; exact r12
  · rw [e0, q_srk_s5]; exact r13
  · rw [e0, q_srk_s6]; exact r14
  · rw [e4]; exact rb j hj
theorem q_tr_new {M M1 : Nat → Nat → Int} {t : Nat} (h : (M1 t 0 = 0 ∧ M1 t 8 = 0 ∧ M1 t 9 = 0 ∧ M1 t 10 = 300 ∧ M1 t 11 = -9 ∧ M1 t 12 = 0 ∧ M1 t 13 = 0 ∧ M1 t 14 = 0) ∧ (∀ k : Nat, k < 6 → M1 (t + 7) k = (k : Int)) ∧ (∀ r : Nat, 1 ≤ r → r < 7 → M1 (t + r) = M (t + r))) (hbo : ∀ j : Nat, j < 12 → 0 ≤ M (t + 4) j ∧ M (t + 4) j ≤ 1) : q_tr M1 t q_new := by
  obtain ⟨⟨a0, a8, a9, a10, a11, a12, a13, a14⟩, b, c⟩ := h
  refine ⟨a0, fun i hi => absurd hi (by show ¬ ((i : Int) < 0); omega), fun k hk => ?_, a8, a9, a10, a11, a12, a13, a14, fun j hj => ?_⟩
  · rw [b k hk]
    unfold q_rk q_new
    rw [if_neg (by omega), if_neg (by omega), if_pos (by omega)]
    omega
  · rw [c 4 (by decide) (by decide)]; exact hbo j hj
theorem q_dg_le (T : Nat → Int) (n s : Nat) (R : Nat → Int) : q_dg T n s R ≤ 3 := by unfold q_dg; (repeat' split) <;> omega
theorem q_sn_le (T : Nat → Int) (n s : Nat) : q_sn T n s ≤ 3 := by unfold q_sn; (repeat' split) <;> omega
theorem q_tl_le (T : Nat → Int) (n s : Nat) (R : Nat → Int) : (q_tl T n s R).2.1 ≤ s + 7 := by
  have h := q_pre_le (q_rkb T n (s + 1)) 6
  unfold q_tl q_rn6
  (repeat' split) <;> dsimp only <;> omega
theorem q_go_le (T : Nat → Int) (n : Nat) : ∀ (f s : Nat) (R : Nat → Int), (q_go T n f s R).2.1 ≤ s + 4 * f + 7
  | 0, s, R => by have h := q_tl_le T n s R; rw [q_go]; omega
  | f + 1, s, R => by
    have h1 := q_go_le T n f (s + 4) (q_dgp T n (s + 1) R)
    have h2 := q_tl_le T n s R
    have h3 := q_dg_le T n (s + 1) R
    rw [q_go]
    split
    · split
      · omega
      · dsimp only; omega
    · omega
theorem q_rdt_in (T : Nat → Int) (n : Nat) : (q_rdt T n).2.1 ≤ 100 := by
  have h1 := q_go_le T n 12 4 (q_sun q_new (q_sv T n 1))
  have h2 := q_sn_le T n 1
  unfold q_rdt
  split
  · split
    · omega
    · dsimp only; omega
  · exact Nat.zero_le _
