/-! THE ORDER: who stands at a place of the row, and why -/
theorem ord_grow (R : Nat → Int) (j : Nat) : ∀ (d : Nat), (q_ord R j).2.1 ≤ (q_ord R (j + d)).2.1 ∧ ∀ t, t < (q_ord R j).2.1 → (q_ord R (j + d)).1 t = (q_ord R j).1 t
  | 0 => ⟨Nat.le_refl _, fun _ _ => rfl⟩
  | d + 1 => by
    obtain ⟨h1, h2⟩ := ord_grow R j d
    have e : q_ord R (j + (d + 1)) = q_ord R ((j + d) + 1) := rfl
    rw [e, q_ord]
    split
    · exact ⟨h1, h2⟩
    · refine ⟨?_, fun t ht => ?_⟩
      · dsimp only; omega
      · dsimp only; rw [up_ne _ _ (by omega)]; exact h2 t ht
theorem ord_move {R : Nat → Int} (h : q_inv R) {j : Nat} (hj : j < q_orn R) : q_stp R (q_ord R j).1 (q_ord R j).2.1 (q_ord R j).2.2 ≠ -9 := by
  intro h9
  have h0 := (q_ord_ok R h.1.1 j).1
  have hle := q_orn_le h
  have e : q_ord R (j + ((q_nd R).toNat - j)) = q_ord R j := q_ord_stay h9 _
  rw [show j + ((q_nd R).toNat - j) = (q_nd R).toNat by omega] at e
  unfold q_orn at hj
  rw [e] at hj
  omega
theorem ord_len {R : Nat → Int} (h : q_inv R) : ∀ {j : Nat}, j ≤ q_orn R → (q_ord R j).2.1 = j
  | 0, _ => rfl
  | j + 1, hj => by
    have ih := ord_len h (j := j) (by omega)
    rw [q_ord_next rfl (ord_move h (by omega))]
    dsimp only; omega
theorem ord_at {R : Nat → Int} (h : q_inv R) {j t : Nat} (hj : j ≤ q_orn R) (ht : t < j) : (q_ord R j).1 t = q_orf R t := by
  have hle := q_orn_le h
  have g := (ord_grow R j ((q_nd R).toNat - j)).2 t (by rw [ord_len h hj]; exact ht)
  rw [show j + ((q_nd R).toNat - j) = (q_nd R).toNat by omega] at g
  exact g.symm
theorem ord_stp {R : Nat → Int} (h : q_inv R) {j : Nat} (hj : j < q_orn R) : q_stp R (q_ord R j).1 j (q_ord R j).2.2 = q_orf R j := by
  have e := ord_at h (j := j + 1) (t := j) (by omega) (by omega)
  rw [q_ord_next rfl (ord_move h hj), ord_len h (by omega)] at e
  dsimp only at e
  rw [up_eq] at e
  exact e
/-- the dog at a place; the owner behind whom it is sought; who stands there already, as bits -/
def q_di (R : Nat → Int) (k : Nat) : Nat := (q_orf R k).toNat
def q_hd (R : Nat → Int) : Nat → Int | 0 => q_lw R | k + 1 => q_ow R (q_di R k)
def q_mkb (R : Nat → Int) : Nat → Nat | 0 => 0 | k + 1 => q_mkb R k ||| 2 ^ q_di R k
theorem di_eq {R : Nat → Int} (h : q_inv R) {k : Nat} (hk : k < q_orn R) : q_orf R k = (q_di R k : Int) := by
  have h1 := q_orf_in h hk
  unfold q_di; omega
theorem di_in {R : Nat → Int} (h : q_inv R) {k : Nat} (hk : k < q_orn R) : (q_di R k : Int) < q_nd R ∧ (q_sa R (q_di R k) = 0 ∨ q_sa R (q_di R k) = 2) := by
  have h1 := q_orf_in h hk
  refine ⟨?_, ?_⟩
  · unfold q_di; omega
  · have h2 := h1.2.2
    unfold q_torun at h2
    exact of_decide_eq_true h2
theorem ord_own {R : Nat → Int} (h : q_inv R) : ∀ {j : Nat}, j ≤ q_orn R → (q_ord R j).2.2 = q_hd R j
  | 0, _ => rfl
  | j + 1, hj => by
    have e := ord_stp h (j := j) (by omega)
    rw [q_ord_next rfl (ord_move h (by omega)), ord_len h (by omega), e]
    rfl
theorem hd_in {R : Nat → Int} (h : q_inv R) {k : Nat} (hk : k ≤ q_orn R) : -9 ≤ q_hd R k ∧ q_hd R k ≤ 5 := by
  rw [← ord_own h hk]; exact q_ord_ow h k
theorem di_free {R : Nat → Int} (h : q_inv R) {k : Nat} (hk : k < q_orn R) : q_inr (q_ord R k).1 (q_di R k : Int) k = false ∧ q_stp R (q_ord R k).1 k (q_hd R k) = (q_di R k : Int) := by
  have e := ord_stp h hk
  rw [ord_own h (by omega), di_eq h hk] at e
  refine ⟨?_, e⟩
  rcases q_stp_ok (R := R) (f := (q_ord R k).1) (n := k) (o := q_hd R k) with h1 | ⟨i, h1, h2, h3, h4⟩
  · omega
  · rw [← e, h2]; exact h3
theorem di_ne {R : Nat → Int} (h : q_inv R) {a b : Nat} (hab : a < b) (hb : b < q_orn R) : q_di R a ≠ q_di R b := by
  intro e
  have h1 := (di_free h hb).1
  rw [q_inr_yes (k := a) (by rw [ord_at h (by omega) hab, di_eq h (by omega), e]) hab] at h1
  cases h1
theorem ct_congr {P Q : Nat → Bool} : ∀ {n : Nat}, (∀ k, k < n → P k = Q k) → q_ct P n = q_ct Q n
  | 0, _ => rfl
  | n + 1, h => by rw [q_ct, q_ct, ct_congr (fun k hk => h k (by omega)), h n (by omega)]
theorem inr_ex {f : Nat → Int} {i : Int} : ∀ {n : Nat}, q_inr f i n = true → ∃ k, k < n ∧ f k = i
  | 0, h => by cases h
  | n + 1, h => by
    rw [q_inr, Bool.or_eq_true] at h
    rcases h with h | h
    · obtain ⟨k, a, b⟩ := inr_ex h; exact ⟨k, by omega, b⟩
    · exact ⟨n, by omega, of_decide_eq_true h⟩
/-- all that wait stand in the row -/
theorem orn_wait {R : Nat → Int} (h : q_inv R) : (q_orn R : Int) = q_nwait R := by
  have hle := q_orn_le h
  have hok := q_ord_ok R h.1.1 (q_nd R).toNat
  have hc : q_ct (fun i => q_inr (q_orf R) (i : Int) (q_orn R)) (q_nd R).toNat = (q_orn R : Int) := hok.2.2
  rw [← hc]
  unfold q_nwait
  refine ct_congr (fun i hi => ?_)
  by_cases h1 : q_inr (q_orf R) (i : Int) (q_orn R) = true
  · obtain ⟨k, hk, e⟩ := inr_ex h1
    have h2 := (q_orf_in h hk).2.2
    rw [e, Int.toNat_natCast] at h2
    rw [h1, h2]
  · have h1 : q_inr (q_orf R) (i : Int) (q_orn R) = false := by cases h9 : q_inr (q_orf R) (i : Int) (q_orn R) with | true => exact absurd h9 h1 | false => rfl
    rw [h1]
    -- not in the row: the row is full, or stuck
    by_cases hn : q_orn R < (q_nd R).toNat
    · have hst : q_stp R (q_ord R (q_orn R)).1 (q_ord R (q_orn R)).2.1 (q_ord R (q_orn R)).2.2 = -9 := by
        by_cases h9 : q_stp R (q_ord R (q_orn R)).1 (q_ord R (q_orn R)).2.1 (q_ord R (q_orn R)).2.2 = -9
        · exact h9
        · exfalso
          have e := q_ord_next (k := q_orn R) rfl h9
          have g := (ord_grow R (q_orn R + 1) ((q_nd R).toNat - (q_orn R + 1))).1
          rw [show q_orn R + 1 + ((q_nd R).toNat - (q_orn R + 1)) = (q_nd R).toNat by omega, e] at g
          have g2 : (q_ord R (q_nd R).toNat).2.1 = q_orn R := rfl
          rw [g2, ord_len h (Nat.le_refl _)] at g
          dsimp only at g; omega
      rw [ord_len h (Nat.le_refl _)] at hst
      have hfr : q_inr (q_ord R (q_orn R)).1 (i : Int) (q_orn R) = false := by rw [← h1]; exact q_inr_congr _ (fun k hk => ord_at h (Nat.le_refl _) hk)
      unfold q_stp at hst
      split at hst
      · next h0 =>
        cases ht : q_torun R i with
        | false => rfl
        | true =>
          unfold q_torun at ht
          rcases of_decide_eq_true ht with h5 | h5
          · have := q_nx_no h0 i (by omega) h5; rw [hfr] at this; cases this
          · have := q_nx_no hst i (by omega) h5; rw [hfr] at this; cases this
      · next h0 => exact absurd hst h0
    · exfalso
      -- as many in the row as dogs: then each stands in it
      have hall : ∀ {P : Nat → Bool} {n : Nat}, q_ct P n = (n : Int) → ∀ k, k < n → P k = true := by
        intro P n
        induction n with
        | zero => intro _ k hk; omega
        | succ n ih =>
          intro hn k hk
          have hb := ct_in P n
          rw [q_ct] at hn
          by_cases hp : P n = true
          · rw [if_pos hp] at hn
            by_cases e : k = n
            · rw [e]; exact hp
            · exact ih (by omega) k (by omega)
          · rw [if_neg hp] at hn; omega
      have h3 := hall (P := fun i => q_inr (q_orf R) (i : Int) (q_orn R)) (n := (q_nd R).toNat) (by rw [hc]; omega) i hi
      rw [h1] at h3; cases h3
theorem atk_di {R : Nat → Int} (h : q_inv R) {k : Nat} (hk : k < q_orn R) : q_atk R (k : Int) = (q_di R k : Int) := by
  unfold q_atk; rw [if_pos (by omega), Int.toNat_natCast, di_eq h hk]
theorem atk_past (R : Nat → Int) : q_atk R (q_orn R : Int) = -9 := by unfold q_atk; rw [if_neg (by omega)]
theorem pio_di {R : Nat → Int} (h : q_inv R) {k : Nat} (hk : k < q_orn R) : q_pio R (q_di R k : Int) = (k : Int) := by
  unfold q_pio
  refine q_fnd_hit (di_eq h hk) (fun j hj => ?_) hk
  rw [di_eq h (by omega)]
  have := di_ne h hj hk
  omega
theorem mk_bits {R : Nat → Int} (h : q_inv R) : ∀ {k : Nat}, k ≤ q_orn R → q_mkb R k < 4096 ∧ ∀ j, (∀ t, t < k → q_di R t ≠ j) → q_mkb R k / 2 ^ j % 2 = 0
  | 0, _ => ⟨(show (0 : Nat) < 4096 by decide), fun j _ => by show 0 / 2 ^ j % 2 = 0; rw [Nat.zero_div]⟩
  | k + 1, hk => by
    obtain ⟨h1, h2⟩ := mk_bits h (k := k) (by omega)
    have h3 := di_in h (k := k) (by omega)
    have h4 := h.1
    refine ⟨q_or12 h1 (by omega), fun j hj => ?_⟩
    show (q_mkb R k ||| 2 ^ q_di R k) / 2 ^ j % 2 = 0
    rw [q_bit_or, if_neg (fun e => hj k (by omega) e.symm)]
    exact h2 j (fun t ht => hj t (by omega))
theorem mk_lt {R : Nat → Int} (h : q_inv R) {k : Nat} (hk : k ≤ q_orn R) : q_mkb R k < 4096 := (mk_bits h hk).1
theorem mk_bit {R : Nat → Int} (h : q_inv R) {k : Nat} (hk : k < q_orn R) : q_mkb R k / 2 ^ q_di R k % 2 = 0 := (mk_bits h (by omega)).2 _ (fun t ht => di_ne h ht hk)
/-- the best of a state: none is drawn before it -/
theorem nx2_min {R : Nat → Int} {pl : Nat → Bool} {st o : Int} : ∀ (n : Nat), (∀ x, x < n → pl x = false → q_sa R x = st → 0 ≤ (q_nx2 R pl st o n).1 ∧ q_dr R (q_nx2 R pl st o n).1.toNat ≤ q_dr R x) ∧ (∀ x, x < n → pl x = false → q_sa R x = st → q_ow R x ≠ o → 0 ≤ (q_nx2 R pl st o n).2 ∧ q_dr R (q_nx2 R pl st o n).2.toNat ≤ q_dr R x) ∧ (0 ≤ (q_nx2 R pl st o n).2 → q_ow R (q_nx2 R pl st o n).2.toNat ≠ o)
  | 0 => ⟨fun x hx => absurd hx (Nat.not_lt_zero _), fun x hx => absurd hx (Nat.not_lt_zero _), fun h => absurd (show (0 : Int) ≤ -9 from h) (by decide)⟩
  | n + 1 => by
    obtain ⟨i1, i2, i3⟩ := nx2_min (R := R) (pl := pl) (st := st) (o := o) n
    have hin := q_nx2_in (R := R) (pl := pl) (st := st) (o := o) n
    rw [q_nx2]
    by_cases hc : pl n = false ∧ q_sa R n = st
    · rw [if_pos hc]
      generalize (q_nx2 R pl st o n).1 = A at *
      generalize (q_nx2 R pl st o n).2 = B at *
      refine ⟨fun x hx hp hs => ?_, fun x hx hp hs ho => ?_, fun h0 => ?_⟩
      · dsimp only
        by_cases hA : A < 0 ∨ q_dr R n < q_dr R A.toNat
        · rw [if_pos hA, Int.toNat_natCast]
          refine ⟨by omega, ?_⟩
          by_cases e : x = n
          · rw [e]; exact Int.le_refl _
          · have g := i1 x (by omega) hp hs; omega
        · rw [if_neg hA]
          by_cases e : x = n
          · rw [e]; omega
          · exact i1 x (by omega) hp hs
      · dsimp only
        by_cases hB : q_ow R n ≠ o ∧ (B < 0 ∨ q_dr R n < q_dr R B.toNat)
        · rw [if_pos hB, Int.toNat_natCast]
          refine ⟨by omega, ?_⟩
          by_cases e : x = n
          · rw [e]; exact Int.le_refl _
          · have g := i2 x (by omega) hp hs ho; omega
        · rw [if_neg hB]
          by_cases e : x = n
          · rw [e] at ho ⊢
            have h9 : ¬ (B < 0 ∨ q_dr R n < q_dr R B.toNat) := fun h9 => hB ⟨ho, h9⟩
            omega
          · exact i2 x (by omega) hp hs ho
      · dsimp only at h0 ⊢
        by_cases hB : q_ow R n ≠ o ∧ (B < 0 ∨ q_dr R n < q_dr R B.toNat)
        · rw [if_pos hB, Int.toNat_natCast]; exact hB.1
        · rw [if_neg hB] at h0 ⊢; exact i3 h0
    · rw [if_neg hc]
      refine ⟨fun x hx hp hs => ?_, fun x hx hp hs ho => ?_, i3⟩
      · by_cases e : x = n
        · rw [e] at hp hs; exact absurd ⟨hp, hs⟩ hc
        · exact i1 x (by omega) hp hs
      · by_cases e : x = n
        · rw [e] at hp hs; exact absurd ⟨hp, hs⟩ hc
        · exact i2 x (by omega) hp hs ho
/-- the dog that is taken and another one of its state that could have been -/
theorem nx_pick {R : Nat → Int} (h : q_inv R) {pl : Nat → Bool} {st o : Int} {i j : Nat} (hi : q_nx R pl st o = (i : Int)) (hjn : (j : Int) < q_nd R) (hne : i ≠ j) (hp : pl j = false) (hs : q_sa R j = st) : (q_ow R i = o ∧ q_ow R j = o ∧ q_dr R i < q_dr R j) ∨ (q_ow R i ≠ o ∧ q_ow R j ≠ o ∧ q_dr R i < q_dr R j) ∨ (q_ow R i ≠ o ∧ q_ow R j = o) := by
  have hin := q_nx2_in (R := R) (pl := pl) (st := st) (o := o) (q_nd R).toNat
  have hok := q_nx2_ok (R := R) (pl := pl) (st := st) (o := o) (q_nd R).toNat
  obtain ⟨m1, m2, m3⟩ := nx2_min (R := R) (pl := pl) (st := st) (o := o) (q_nd R).toNat
  have hdr : (i : Int) < q_nd R → q_dr R i ≠ q_dr R j := fun h1 h2 => hne (h.2.2.2.2.2.2 i j h1 hjn h2)
  unfold q_nx at hi
  generalize (q_nx2 R pl st o (q_nd R).toNat).1 = A at *
  generalize (q_nx2 R pl st o (q_nd R).toNat).2 = B at *
  by_cases hB : B = -9
  · rw [if_pos hB] at hi
    have hj : q_ow R j = o := by
      by_cases h9 : q_ow R j = o
      · exact h9
      · have := (m2 j (by omega) hp hs h9).1; omega
    have hA := m1 j (by omega) hp hs
    rw [hi, Int.toNat_natCast] at hA
    have hid : (i : Int) < q_nd R := by omega
    have hio : q_ow R i = o := by
      by_cases h9 : q_ow R i = o
      · exact h9
      · rcases hok.1 with h8 | ⟨x, hx, e, hpx, hsx⟩
        · omega
        · have hxi : x = i := by omega
          rw [hxi] at hpx hsx
          have := (m2 i (by omega) hpx hsx h9).1; omega
    have := hdr hid
    exact Or.inl ⟨hio, hj, by omega⟩
  · rw [if_neg hB] at hi
    have hid : (i : Int) < q_nd R := by omega
    have hio := m3 (by omega)
    rw [hi, Int.toNat_natCast] at hio
    by_cases hj : q_ow R j = o
    · exact Or.inr (Or.inr ⟨hio, hj⟩)
    · have h2 := m2 j (by omega) hp hs hj
      rw [hi, Int.toNat_natCast] at h2
      have := hdr hid
      exact Or.inr (Or.inl ⟨hio, hj, by omega⟩)
theorem ord_pick {R : Nat → Int} (h : q_inv R) {k q : Nat} (hkq : k < q) (hq : q < q_orn R) : q_sa R (q_di R k) ≤ q_sa R (q_di R q) ∧ (q_sa R (q_di R k) ≠ q_sa R (q_di R q) ∨ (q_ow R (q_di R k) = q_hd R k ∧ q_ow R (q_di R q) = q_hd R k ∧ q_dr R (q_di R k) < q_dr R (q_di R q)) ∨ (q_ow R (q_di R k) ≠ q_hd R k ∧ q_ow R (q_di R q) ≠ q_hd R k ∧ q_dr R (q_di R k) < q_dr R (q_di R q)) ∨ (q_ow R (q_di R k) ≠ q_hd R k ∧ q_ow R (q_di R q) = q_hd R k)) := by
  have hk : k < q_orn R := by omega
  obtain ⟨f1, f2⟩ := di_free h hk
  have hj := di_in h hq
  have hne := di_ne h hkq hq
  have hfj : q_inr (q_ord R k).1 (q_di R q : Int) k = false := q_inr_no (fun t ht e => by
    rw [ord_at h (by omega) ht, di_eq h (by omega)] at e
    exact di_ne h (a := t) (b := q) (by omega) hq (by omega))
  unfold q_stp at f2
  by_cases h0 : q_nx R (fun i => q_inr (q_ord R k).1 (i : Int) k) 0 (q_hd R k) = -9
  · rw [if_pos h0] at f2
    have hj2 : q_sa R (q_di R q) = 2 := by
      rcases hj.2 with h1 | h1
      · have := q_nx_no h0 (q_di R q) hj.1 h1; rw [hfj] at this; cases this
      · exact h1
    have hi2 : q_sa R (q_di R k) = 2 := by
      rcases q_nx_ok (R := R) (pl := fun i => q_inr (q_ord R k).1 (i : Int) k) (st := 2) (o := q_hd R k) with h1 | ⟨x, -, e, -, hs⟩
      · omega
      · have : x = q_di R k := by omega
        rw [← this]; exact hs
    refine ⟨by omega, Or.inr (nx_pick h f2 hj.1 hne hfj hj2)⟩
  · rw [if_neg h0] at f2
    have hi0 : q_sa R (q_di R k) = 0 := by
      rcases q_nx_ok (R := R) (pl := fun i => q_inr (q_ord R k).1 (i : Int) k) (st := 0) (o := q_hd R k) with h1 | ⟨x, -, e, -, hs⟩
      · omega
      · have : x = q_di R k := by omega
        rw [← this]; exact hs
    rcases hj.2 with h1 | h1
    · exact ⟨by omega, Or.inr (nx_pick h f2 hj.1 hne hfj h1)⟩
    · exact ⟨by omega, Or.inl (by omega)⟩
theorem dog_lw {σ : gS} (h : q_inv σ.1) (h3 : σ.1 3 ≠ -9) : a_dog σ (σ.1 3) 0 = q_lw σ.1 := by
  have h6 := h.2.2.2.2.2.1
  have e : σ.1 3 = ((σ.1 3).toNat : Int) := by omega
  have h1 := a_dog_0 (σ := σ) (i := (σ.1 3).toNat) (by omega)
  rw [← e] at h1
  rw [h1]; unfold q_lw; rw [if_pos (by omega)]
theorem lw_none {R : Nat → Int} (h3 : R 3 = -9) : q_lw R = -9 := by unfold q_lw; rw [if_neg (by omega)]
