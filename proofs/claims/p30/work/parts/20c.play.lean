/-! WHAT REHEARSALS DO: points, rounds, commands; the first dog to run -/
def q_rt (v : Int) : Nat → Int | 0 => v | n + 1 => (q_rt v n).tdiv 100
theorem tdiv_in (a : Int) : (0 ≤ a → 0 ≤ a.tdiv 100 ∧ a.tdiv 100 ≤ a) ∧ (a ≤ 0 → a ≤ a.tdiv 100 ∧ a.tdiv 100 ≤ 0) := by
  constructor
  · intro h; rw [Int.tdiv_eq_ediv_of_nonneg h]; omega
  · intro h
    have h1 : (-a).tdiv 100 = (-a) / 100 := Int.tdiv_eq_ediv_of_nonneg (by omega)
    rw [Int.neg_tdiv] at h1
    omega
theorem tmod_in (a : Int) : -100 < a.tmod 100 ∧ a.tmod 100 < 100 := by
  rcases Int.le_total 0 a with h | h
  · rw [Int.tmod_eq_emod_of_nonneg h]; omega
  · have h1 : (-a).tmod 100 = (-a) % 100 := Int.tmod_eq_emod_of_nonneg (by omega)
    rw [Int.neg_tmod] at h1
    omega
theorem q_rt_in (v : Int) : ∀ (n : Nat), (0 ≤ v → 0 ≤ q_rt v n ∧ q_rt v n ≤ v) ∧ (v ≤ 0 → v ≤ q_rt v n ∧ q_rt v n ≤ 0)
  | 0 => ⟨fun h => ⟨h, Int.le_refl _⟩, fun h => ⟨Int.le_refl _, h⟩⟩
  | n + 1 => by
    have ih := q_rt_in v n
    have h := tdiv_in (q_rt v n)
    rw [q_rt]
    constructor
    · intro h0; have h1 := ih.1 h0; have h2 := h.1 h1.1; omega
    · intro h0; have h1 := ih.2 h0; have h2 := h.2 h1.2; omega
theorem q_rt_eq {v : Int} (h : 0 ≤ v) : ∀ (n : Nat), q_rt v n = q_rst v n
  | 0 => rfl
  | n + 1 => by
    rw [q_rt, q_rst, q_rt_eq h n, Int.tdiv_eq_ediv_of_nonneg (q_rst_in h n).1]
def q_ptb (v : Int) : Nat → Bool | 0 => decide (0 ≤ v ∧ v ≤ 999999999999) | n + 1 => q_ptb v n && decide ((q_rt v n).tmod 100 ≤ q_wth (5 - n))
theorem q_ptb_iff (v : Int) : ∀ (n : Nat), n ≤ 6 → (q_ptb v n = true ↔ (0 ≤ v ∧ v ≤ 999999999999) ∧ ∀ p : Nat, 6 - n ≤ p → p < 6 → q_dig v p ≤ q_wth p)
  | 0, _ => by
    rw [q_ptb, decide_eq_true_iff]
    exact ⟨fun h => ⟨h, fun p h1 h2 => by omega⟩, fun h => h.1⟩
  | n + 1, hn => by
    rw [q_ptb, Bool.and_eq_true, q_ptb_iff v n (by omega), decide_eq_true_iff]
    constructor
    · rintro ⟨⟨h1, h2⟩, h3⟩
      refine ⟨h1, fun p h4 h5 => ?_⟩
      by_cases e : p = 5 - n
      · subst e
        rw [q_rt_eq h1.1, Int.tmod_eq_emod_of_nonneg (q_rst_in h1.1 n).1] at h3
        unfold q_dig
        rw [show 5 - (5 - n) = n by omega]
        exact h3
      · exact h2 p (by omega) h5
    · rintro ⟨h1, h2⟩
      refine ⟨⟨h1, fun p h4 h5 => h2 p (by omega) h5⟩, ?_⟩
      have h3 := h2 (5 - n) (by omega) (by omega)
      unfold q_dig at h3
      rw [show 5 - (5 - n) = n by omega] at h3
      rw [q_rt_eq h1.1, Int.tmod_eq_emod_of_nonneg (q_rst_in h1.1 n).1]
      exact h3
theorem q_ptb_pts (v : Int) : q_ptb v 6 = true ↔ q_pts v := by
  rw [q_ptb_iff v 6 (Nat.le_refl 6)]
  exact ⟨fun h => ⟨h.1, fun p hp => h.2 p (by omega) hp⟩, fun h => ⟨h.1, fun p _ hp => h.2 p hp⟩⟩
/-- points made of a drawn number -/
def q_pbn (v : Int) : Nat → Int | 0 => 0 | n + 1 => 100 * q_pbn v n + v % (q_wth n + 1)
def q_pb (v : Int) : Int := q_pbn v 6
theorem q_wmod (v : Int) (n : Nat) : 0 ≤ v % (q_wth n + 1) ∧ v % (q_wth n + 1) ≤ q_wth n := by
  have h := wth_in n
  have h1 := Int.emod_nonneg v (b := q_wth n + 1) (by omega)
  have h2 := Int.emod_lt_of_pos v (b := q_wth n + 1) (by omega)
  omega
theorem q_pbn_in (v : Int) : (0 ≤ q_pbn v 0 ∧ q_pbn v 0 < 1) ∧ (0 ≤ q_pbn v 1 ∧ q_pbn v 1 < 100) ∧ (0 ≤ q_pbn v 2 ∧ q_pbn v 2 < 10000) ∧ (0 ≤ q_pbn v 3 ∧ q_pbn v 3 < 1000000) ∧ (0 ≤ q_pbn v 4 ∧ q_pbn v 4 < 100000000) ∧ (0 ≤ q_pbn v 5 ∧ q_pbn v 5 < 10000000000) ∧ (0 ≤ q_pbn v 6 ∧ q_pbn v 6 < 1000000000000) := by
  have h0 := q_wmod v 0
  have h1 := q_wmod v 1
  have h2 := q_wmod v 2
  have h3 := q_wmod v 3
  have h4 := q_wmod v 4
  have h5 := q_wmod v 5
  have g0 := wth_in 0
  have g1 := wth_in 1
  have g2 := wth_in 2
  have g3 := wth_in 3
  have g4 := wth_in 4
  have g5 := wth_in 5
  have e0 : q_pbn v 0 = 0 := rfl
  have e1 : q_pbn v 1 = 100 * q_pbn v 0 + v % (q_wth 0 + 1) := rfl
  have e2 : q_pbn v 2 = 100 * q_pbn v 1 + v % (q_wth 1 + 1) := rfl
  have e3 : q_pbn v 3 = 100 * q_pbn v 2 + v % (q_wth 2 + 1) := rfl
  have e4 : q_pbn v 4 = 100 * q_pbn v 3 + v % (q_wth 3 + 1) := rfl
  have e5 : q_pbn v 5 = 100 * q_pbn v 4 + v % (q_wth 4 + 1) := rfl
  have e6 : q_pbn v 6 = 100 * q_pbn v 5 + v % (q_wth 5 + 1) := rfl
  omega
theorem q_pbn_div (v : Int) (n : Nat) (hn : n < 6) : q_pbn v (n + 1) / 100 = q_pbn v n ∧ q_pbn v (n + 1) % 100 = v % (q_wth n + 1) := by
  have h := q_wmod v n
  have g := wth_in n
  rw [q_pbn]; omega
theorem q_pb_dig (v : Int) (p : Nat) (hp : p < 6) : q_dig (q_pb v) p = v % (q_wth p + 1) := by
  have h : ∀ n, n ≤ 5 → q_rst (q_pb v) n = q_pbn v (6 - n) := by
    intro n
    induction n with
    | zero => intro _; rfl
    | succ n ih =>
      intro hn
      rw [q_rst, ih (by omega), show 6 - n = (5 - n) + 1 by omega, (q_pbn_div v (5 - n) (by omega)).1, show 6 - (n + 1) = 5 - n by omega]
  unfold q_dig
  rw [h _ (by omega), show 6 - (5 - p) = p + 1 by omega]
  exact (q_pbn_div v p hp).2
theorem q_same_dig (f : Int) (hf : 0 ≤ f ∧ f ≤ 9) (p : Nat) (hp : p < 6) : q_dig (10101010101 * f) p = f := by
  have h9 : f = 0 ∨ f = 1 ∨ f = 2 ∨ f = 3 ∨ f = 4 ∨ f = 5 ∨ f = 6 ∨ f = 7 ∨ f = 8 ∨ f = 9 := by omega
  revert p
  rcases h9 with rfl | rfl | rfl | rfl | rfl | rfl | rfl | rfl | rfl | rfl <;> decide
/-- the first dog -/
theorem q_ord_mono (R : Nat → Int) (k : Nat) : ∀ (j : Nat), (q_ord R k).2.1 ≤ (q_ord R (k + j)).2.1
  | 0 => Nat.le_refl _
  | j + 1 => by
    have ih := q_ord_mono R k j
    show _ ≤ (q_ord R ((k + j) + 1)).2.1
    rw [q_ord]
    split
    · exact ih
    · dsimp only; omega
theorem q_ct_ex {P : Nat → Bool} : ∀ {n : Nat}, q_ct P n ≠ 0 → ∃ i, i < n ∧ P i = true
  | 0, h => absurd rfl h
  | n + 1, h => by
    by_cases h1 : P n = true
    · exact ⟨n, Nat.lt_succ_self _, h1⟩
    · rw [q_ct, if_neg h1] at h
      obtain ⟨i, a, b⟩ := q_ct_ex (P := P) (n := n) (by omega)
      exact ⟨i, by omega, b⟩
theorem q_first_ok {R : Nat → Int} (hI : q_inv R) : q_first R = -9 ∨ (0 ≤ q_first R ∧ q_first R < q_nd R ∧ q_torun R (q_first R).toNat = true) := by
  unfold q_first
  split
  · exact Or.inl rfl
  · exact Or.inr (q_orf_in hI (by omega))
theorem q_first_in {R : Nat → Int} (hI : q_inv R) (h : q_nwait R ≠ 0) : 0 ≤ q_first R ∧ q_first R < q_nd R ∧ q_torun R (q_first R).toNat = true := by
  rcases q_first_ok hI with h1 | h1
  · exfalso
    have hnd := hI.1
    unfold q_nwait at h
    obtain ⟨i, hi, ht⟩ := q_ct_ex h
    have hi' : (i : Int) < q_nd R := by omega
    have h0 : q_orn R = 0 := by
      unfold q_first at h1
      split at h1
      · assumption
      · next h2 => have := q_orf_in hI (k := 0) (by omega); omega
    have hs : q_stp R (q_ord R 0).1 (q_ord R 0).2.1 (q_ord R 0).2.2 = -9 := by
      by_cases h3 : q_stp R (q_ord R 0).1 (q_ord R 0).2.1 (q_ord R 0).2.2 = -9
      · exact h3
      · exfalso
        have h4 := q_ord_next (R := R) (k := 0) rfl h3
        have h5 : (q_ord R (0 + 1)).2.1 = (q_ord R 0).2.1 + 1 := by rw [h4]
        have h6 := q_ord_mono R (0 + 1) ((q_nd R).toNat - 1)
        rw [show 0 + 1 + ((q_nd R).toNat - 1) = (q_nd R).toNat by omega] at h6
        unfold q_orn at h0
        omega
    unfold q_torun at ht
    have ht := of_decide_eq_true ht
    unfold q_stp at hs
    split at hs
    · next h0' =>
      rcases ht with h7 | h7
      · have := q_nx_no h0' i hi' h7; cases this
      · have := q_nx_no hs i hi' h7; cases this
    · next h0' => exact h0' hs
  · exact h1
theorem q_ob_wait {R : Nat → Int} (h : q_ob R = 0) : q_nwait R ≠ 0 := by
  unfold q_ob at h
  split at h
  · omega
  · assumption
theorem q_ob_in (R : Nat → Int) : q_ob R = 0 ∨ q_ob R = 1 ∨ q_ob R = 2 := by
  unfold q_ob; (repeat' split) <;> omega
theorem q_atk_in {R : Nat → Int} (hI : q_inv R) (k : Int) : q_atk R k = -9 ∨ (0 ≤ q_atk R k ∧ q_atk R k < q_nd R) := by
  unfold q_atk
  split
  · have := q_orf_in hI (k := k.toNat) (by omega); omega
  · exact Or.inl rfl
theorem q_pl_in (R : Nat → Int) (i : Nat) : q_pl R i = -9 ∨ 1 ≤ q_pl R i := by
  unfold q_pl
  have := ct_in (fun j => decide (q_hs R j = 1) && q_bt R j i) (q_nd R).toNat
  split <;> omega
/-- a round -/
def q_rnd (R : Nat → Int) (r : Int) : Nat → Int := if q_ob R = 2 then q_nxt R (60 + r / 8 % 541) else if q_ob R = 0 then q_rno R (q_first R).toNat (1 + r / 8 % 30) (fun p => r / 256 % (q_wth p + 1)) else if 0 < q_nd R ∧ q_sa R (r / 8 % q_nd R).toNat = 1 then q_brk R (r / 8 % q_nd R).toNat (r / 128 % 6) else R
theorem q_rmod {R : Nat → Int} (h : 0 < q_nd R) (r : Int) : 0 ≤ r / 8 % q_nd R ∧ r / 8 % q_nd R < q_nd R := ⟨Int.emod_nonneg _ (by omega), Int.emod_lt_of_pos _ h⟩
theorem inv_rnd {R : Nat → Int} {r : Int} (hI : q_inv R) (hr : 0 ≤ r) : q_inv (q_rnd R r) := by
  unfold q_rnd
  split
  · exact inv_nxt hI (by omega)
  · split
    · next h => have h1 := q_first_in hI (q_ob_wait h); exact inv_rno hI (by omega) (by omega) (fun p hp => q_wmod _ p)
    · split
      · next h =>
        have h1 := q_rmod h.1 r
        have h2 := dok hI (r / 8 % q_nd R).toNat (by omega)
        exact inv_brk hI (h2.2.2.2.2.2.2 h.2) (by omega)
      · exact hI
/-- a command -/
def q_doz (R : Nat → Int) (h t : Int) : Bool :=
  if h = 1 then decide (1 ≤ t % 100 ∧ t % 100 ≤ 30 ∧ q_ob R = 0 ∧ q_rz R (t % 100) = 1) else if h = 2 then decide (t / 100 = 0 ∧ t % 100 < q_nd R ∧ q_sa R (t % 100).toNat ≠ 3) else if h = 3 then decide (t / 100 ≤ 5 ∧ t % 100 < q_nd R ∧ q_sa R (t % 100).toNat = 1) else if h = 4 then decide (60 ≤ t ∧ t ≤ 600) else if h = 5 then decide (t / 100 = 0 ∧ q_atk R (t % 100 / 10) = t % 100 % 10) else if h = 6 then decide (t % 100 < q_nd R ∧ 0 < t / 100 ∧ q_pl R (t % 100).toNat = t / 100) else if h = 7 then decide (t ≤ R 1) else if h = 8 then decide (t / 100 = 0 ∧ q_nwait R = t % 100) else if h = 9 then decide (t < 10 ∧ q_ob R = t) else false
def q_dop (R : Nat → Int) (h t : Int) : Nat → Int :=
  if h = 1 then q_rno R (q_first R).toNat (t % 100) (fun _ => t / 100) else if h = 2 then q_gon R (t % 100).toNat else if h = 3 then q_brk R (t % 100).toNat (t / 100) else if h = 4 then q_nxt R t else R
theorem q_doz_1 (R : Nat → Int) (t : Int) : q_doz R 1 t = decide (1 ≤ t % 100 ∧ t % 100 ≤ 30 ∧ q_ob R = 0 ∧ q_rz R (t % 100) = 1) := by unfold q_doz; rw [if_pos rfl]
theorem q_doz_2 (R : Nat → Int) (t : Int) : q_doz R 2 t = decide (t / 100 = 0 ∧ t % 100 < q_nd R ∧ q_sa R (t % 100).toNat ≠ 3) := by unfold q_doz; rw [if_neg (by decide), if_pos rfl]
theorem q_doz_3 (R : Nat → Int) (t : Int) : q_doz R 3 t = decide (t / 100 ≤ 5 ∧ t % 100 < q_nd R ∧ q_sa R (t % 100).toNat = 1) := by unfold q_doz; rw [if_neg (by decide), if_neg (by decide), if_pos rfl]
theorem q_doz_4 (R : Nat → Int) (t : Int) : q_doz R 4 t = decide (60 ≤ t ∧ t ≤ 600) := by unfold q_doz; rw [if_neg (by decide), if_neg (by decide), if_neg (by decide), if_pos rfl]
theorem q_doz_5 (R : Nat → Int) (t : Int) : q_doz R 5 t = decide (t / 100 = 0 ∧ q_atk R (t % 100 / 10) = t % 100 % 10) := by unfold q_doz; rw [if_neg (by decide), if_neg (by decide), if_neg (by decide), if_neg (by decide), if_pos rfl]
theorem q_doz_6 (R : Nat → Int) (t : Int) : q_doz R 6 t = decide (t % 100 < q_nd R ∧ 0 < t / 100 ∧ q_pl R (t % 100).toNat = t / 100) := by unfold q_doz; rw [if_neg (by decide), if_neg (by decide), if_neg (by decide), if_neg (by decide), if_neg (by decide), if_pos rfl]
theorem q_doz_7 (R : Nat → Int) (t : Int) : q_doz R 7 t = decide (t ≤ R 1) := by unfold q_doz; rw [if_neg (by decide), if_neg (by decide), if_neg (by decide), if_neg (by decide), if_neg (by decide), if_neg (by decide), if_pos rfl]
theorem q_doz_8 (R : Nat → Int) (t : Int) : q_doz R 8 t = decide (t / 100 = 0 ∧ q_nwait R = t % 100) := by unfold q_doz; rw [if_neg (by decide), if_neg (by decide), if_neg (by decide), if_neg (by decide), if_neg (by decide), if_neg (by decide), if_neg (by decide), if_pos rfl]
theorem q_doz_9 (R : Nat → Int) (t : Int) : q_doz R 9 t = decide (t < 10 ∧ q_ob R = t) := by unfold q_doz; rw [if_neg (by decide), if_neg (by decide), if_neg (by decide), if_neg (by decide), if_neg (by decide), if_neg (by decide), if_neg (by decide), if_neg (by decide), if_pos rfl]
theorem q_doz_0 (R : Nat → Int) (h t : Int) (h1 : h < 1 ∨ 9 < h) : q_doz R h t = false := by unfold q_doz; rw [if_neg (by omega), if_neg (by omega), if_neg (by omega), if_neg (by omega), if_neg (by omega), if_neg (by omega), if_neg (by omega), if_neg (by omega), if_neg (by omega)]
theorem q_dop_1 (R : Nat → Int) (t : Int) : q_dop R 1 t = q_rno R (q_first R).toNat (t % 100) (fun _ => t / 100) := by unfold q_dop; rw [if_pos rfl]
theorem q_dop_2 (R : Nat → Int) (t : Int) : q_dop R 2 t = q_gon R (t % 100).toNat := by unfold q_dop; rw [if_neg (by decide), if_pos rfl]
theorem q_dop_3 (R : Nat → Int) (t : Int) : q_dop R 3 t = q_brk R (t % 100).toNat (t / 100) := by unfold q_dop; rw [if_neg (by decide), if_neg (by decide), if_pos rfl]
theorem q_dop_4 (R : Nat → Int) (t : Int) : q_dop R 4 t = q_nxt R t := by unfold q_dop; rw [if_neg (by decide), if_neg (by decide), if_neg (by decide), if_pos rfl]
theorem q_dop_5 (R : Nat → Int) (h t : Int) (hh : h < 1 ∨ 4 < h) : q_dop R h t = R := by unfold q_dop; rw [if_neg (by omega), if_neg (by omega), if_neg (by omega), if_neg (by omega)]
theorem inv_dop {R : Nat → Int} {h t : Int} (hI : q_inv R) (ht : 0 ≤ t ∧ t < 1000) (hz : q_doz R h t = true) : q_inv (q_dop R h t) := by
  by_cases h1 : h = 1
  · subst h1
    rw [q_doz_1] at hz
    have hz := of_decide_eq_true hz
    have h2 := q_first_in hI (q_ob_wait hz.2.2.1)
    rw [q_dop_1]
    exact inv_rno hI (by omega) (by omega) (fun p hp => by have := wth_in p; omega)
  by_cases h2 : h = 2
  · subst h2; rw [q_dop_2]; exact inv_gon hI
  by_cases h3 : h = 3
  · subst h3
    rw [q_doz_3] at hz
    have hz := of_decide_eq_true hz
    rw [q_dop_3]
    have h4 := dok hI (t % 100).toNat (by omega)
    exact inv_brk hI (h4.2.2.2.2.2.2 hz.2.2) (by omega)
  by_cases h4 : h = 4
  · subst h4
    rw [q_doz_4] at hz
    have hz := of_decide_eq_true hz
    rw [q_dop_4]
    exact inv_nxt hI hz
  · rw [q_dop_5 R h t (by omega)]; exact hI
/-- frames -/
def q_rh (M M1 : Nat → Nat → Int) : Prop := ∀ a, (a < 16 ∨ 24 ≤ a) → (a < 159 ∨ 163 ≤ a) → M1 a = M a
theorem q_rh.rf (M : Nat → Nat → Int) : q_rh M M := fun _ _ _ => rfl
theorem q_rh.tr {M M1 M2 : Nat → Nat → Int} (h : q_rh M M1) (h2 : q_rh M1 M2) : q_rh M M2 := fun a h3 h4 => (h2 a h3 h4).trans (h a h3 h4)
theorem q_rh.off {M M1 M2 : Nat → Nat → Int} {lo hi : Nat} (h : q_rh M M1) (h2 : q_off M1 M2 lo hi) (hr : (16 ≤ lo ∧ hi ≤ 24) ∨ (159 ≤ lo ∧ hi ≤ 163)) : q_rh M M2 := fun a h3 h4 => (h2 a (by omega)).trans (h a h3 h4)
theorem q_rh.wr {M M1 : Nat → Nat → Int} {k j : Nat} {v : Int} (h : q_rh M M1) (hr : (16 ≤ k ∧ k < 24) ∨ (159 ≤ k ∧ k < 163)) : q_rh M (q_wr M1 k j v) := fun a h3 h4 => (wr_off _ _ _ (by omega)).trans (h a h3 h4)
def q_rf (M M1 : Nat → Nat → Int) : Prop := (∀ a, a ≠ 169 → a ≠ 173 → a ≠ 177 → M1 a = M a) ∧ ∀ b : Nat, b ≠ 12 → M1 169 b = M 169 b
theorem q_rf.rf (M : Nat → Nat → Int) : q_rf M M := ⟨fun _ _ _ _ => rfl, fun _ _ => rfl⟩
theorem q_rf.tr {M M1 M2 : Nat → Nat → Int} (h : q_rf M M1) (h2 : q_rf M1 M2) : q_rf M M2 := ⟨fun a h3 h4 h5 => (h2.1 a h3 h4 h5).trans (h.1 a h3 h4 h5), fun b hb => (h2.2 b hb).trans (h.2 b hb)⟩
theorem q_rf.lay {M M1 M2 : Nat → Nat → Int} (h : q_rf M M1) (h1 : ∀ a, a ≠ 169 → a ≠ 177 → M2 a = M1 a) (h2 : ∀ b : Nat, b ≠ 12 → M2 169 b = M1 169 b) : q_rf M M2 := ⟨fun a h3 h4 h5 => (h1 a h3 h5).trans (h.1 a h3 h4 h5), fun b hb => (h2 b hb).trans (h.2 b hb)⟩
theorem q_rf.set {M M1 : Nat → Nat → Int} {P : Nat → Int} (h : q_rf M M1) : q_rf M (q_set M1 173 P) := ⟨fun a h3 h4 h5 => (q_set_off _ _ h4).trans (h.1 a h3 h4 h5), fun b hb => by rw [q_set_off _ _ (by decide)]; exact h.2 b hb⟩
theorem q_rf.wr {M M1 : Nat → Nat → Int} {j : Nat} {v : Int} (h : q_rf M M1) : q_rf M (q_wr M1 173 j v) := ⟨fun a h3 h4 h5 => (wr_off _ _ _ h4).trans (h.1 a h3 h4 h5), fun b hb => by rw [wr_off _ _ _ (by decide)]; exact h.2 b hb⟩
