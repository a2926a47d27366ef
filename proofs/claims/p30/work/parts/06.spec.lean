/-! THE SPEC: a page of whole numbers, as both sides have it: 0 day, 1 minute, 2 sunset, 3 last, 4 runs, 5 dark, 6 breaks, 7 dogs, 8.. rank, 14.. dogs, eleven places each -/
def q_nd (R : Nat → Int) : Int := R 7
def q_ow (R : Nat → Int) (i : Nat) : Int := R (14 + 11 * i)
def q_dr (R : Nat → Int) (i : Nat) : Int := R (14 + 11 * i + 1)
def q_sa (R : Nat → Int) (i : Nat) : Int := R (14 + 11 * i + 2)
def q_hs (R : Nat → Int) (i : Nat) : Int := R (14 + 11 * i + 3)
def q_fr (R : Nat → Int) (i : Nat) : Int := R (14 + 11 * i + 4)
def q_ls (R : Nat → Int) (i p : Nat) : Int := R (14 + 11 * i + 5 + p)
def q_rk (R : Nat → Int) (k : Nat) : Int := R (8 + k)
/-- what a dog's places may hold -/
def q_dogok (R : Nat → Int) (i : Nat) : Prop := (0 ≤ q_ow R i ∧ q_ow R i < 6) ∧ (1 ≤ q_dr R i ∧ q_dr R i ≤ 99) ∧ (0 ≤ q_sa R i ∧ q_sa R i ≤ 3) ∧ (0 ≤ q_hs R i ∧ q_hs R i ≤ 1) ∧ (0 ≤ q_fr R i ∧ q_fr R i ≤ 6) ∧ (∀ p : Nat, p < 6 → 0 ≤ q_ls R i p ∧ q_ls R i p ≤ q_wth p) ∧ (q_sa R i = 2 → q_hs R i = 1) ∧ (q_sa R i = 1 → q_hs R i = 1)
def q_inv (R : Nat → Int) : Prop := (0 ≤ q_nd R ∧ q_nd R ≤ 12) ∧ (∀ i : Nat, (i : Int) < q_nd R → q_dogok R i) ∧ (∀ k : Nat, k < 6 → 0 ≤ q_rk R k ∧ q_rk R k < 6) ∧ (0 ≤ R 1 ∧ R 1 ≤ R 2) ∧ (60 ≤ R 2 ∧ R 2 ≤ 600) ∧ (R 3 = -9 ∨ (0 ≤ R 3 ∧ R 3 < q_nd R)) ∧ (∀ i j : Nat, (i : Int) < q_nd R → (j : Int) < q_nd R → q_dr R i = q_dr R j → i = j)
theorem dok {R : Nat → Int} (h : q_inv R) (k : Nat) : (k : Int) < q_nd R → (0 ≤ q_ow R k ∧ q_ow R k < 6) ∧ (1 ≤ q_dr R k ∧ q_dr R k ≤ 99) ∧ (0 ≤ q_sa R k ∧ q_sa R k ≤ 3) ∧ (0 ≤ q_hs R k ∧ q_hs R k ≤ 1) ∧ (0 ≤ q_fr R k ∧ q_fr R k ≤ 6) ∧ (q_sa R k = 2 → q_hs R k = 1) ∧ (q_sa R k = 1 → q_hs R k = 1) := fun hk => by
  obtain ⟨a, b, c, d, e, f, g, i⟩ := h.2.1 k hk
  exact ⟨a, b, c, d, e, g, i⟩
/-- trial t of the class shows page R -/
def q_tr (M : Nat → Nat → Int) (t : Nat) (R : Nat → Int) : Prop := M t 0 = q_nd R ∧ (∀ i : Nat, (i : Int) < q_nd R → M (t + 1) i = q_ow R i ∧ M (t + 2) i = q_dr R i ∧ M (t + 3) i = q_sa R i ∧ M (t + 4) i = q_hs R i ∧ M (t + 5) i = q_fr R i ∧ (q_hs R i = 1 → ∀ p : Nat, p < 6 → M (t + 6) (6 * i + p) = q_ls R i p)) ∧ (∀ k : Nat, k < 6 → M (t + 7) k = q_rk R k) ∧ M t 8 = R 0 ∧ M t 9 = R 1 ∧ M t 10 = R 2 ∧ M t 11 = R 3 ∧ M t 12 = R 4 ∧ M t 13 = R 5 ∧ M t 14 = R 6 ∧ (∀ j : Nat, j < 12 → 0 ≤ M (t + 4) j ∧ M (t + 4) j ≤ 1)
theorem tr_nd {M : Nat → Nat → Int} {t : Nat} {R : Nat → Int} (h : q_tr M t R) : M t 0 = q_nd R := h.1
theorem tr_ow {M : Nat → Nat → Int} {t : Nat} {R : Nat → Int} (h : q_tr M t R) {i : Nat} (hi : (i : Int) < q_nd R) : M (t + 1) i = q_ow R i := (h.2.1 i hi).1
theorem tr_dr {M : Nat → Nat → Int} {t : Nat} {R : Nat → Int} (h : q_tr M t R) {i : Nat} (hi : (i : Int) < q_nd R) : M (t + 2) i = q_dr R i := (h.2.1 i hi).2.1
theorem tr_sa {M : Nat → Nat → Int} {t : Nat} {R : Nat → Int} (h : q_tr M t R) {i : Nat} (hi : (i : Int) < q_nd R) : M (t + 3) i = q_sa R i := (h.2.1 i hi).2.2.1
theorem tr_hs {M : Nat → Nat → Int} {t : Nat} {R : Nat → Int} (h : q_tr M t R) {i : Nat} (hi : (i : Int) < q_nd R) : M (t + 4) i = q_hs R i := (h.2.1 i hi).2.2.2.1
theorem tr_fr {M : Nat → Nat → Int} {t : Nat} {R : Nat → Int} (h : q_tr M t R) {i : Nat} (hi : (i : Int) < q_nd R) : M (t + 5) i = q_fr R i := (h.2.1 i hi).2.2.2.2.1
theorem tr_ls {M : Nat → Nat → Int} {t : Nat} {R : Nat → Int} (h : q_tr M t R) {i p : Nat} (hi : (i : Int) < q_nd R) (hh : q_hs R i = 1) (hp : p < 6) : M (t + 6) (6 * i + p) = q_ls R i p := (h.2.1 i hi).2.2.2.2.2 hh p hp
theorem tr_rk {M : Nat → Nat → Int} {t : Nat} {R : Nat → Int} (h : q_tr M t R) {k : Nat} (hk : k < 6) : M (t + 7) k = q_rk R k := h.2.2.1 k hk
theorem tr_s8 {M : Nat → Nat → Int} {t : Nat} {R : Nat → Int} (h : q_tr M t R) : M t 8 = R 0 := h.2.2.2.1
theorem tr_s9 {M : Nat → Nat → Int} {t : Nat} {R : Nat → Int} (h : q_tr M t R) : M t 9 = R 1 := h.2.2.2.2.1
theorem tr_s10 {M : Nat → Nat → Int} {t : Nat} {R : Nat → Int} (h : q_tr M t R) : M t 10 = R 2 := h.2.2.2.2.2.1
theorem tr_s11 {M : Nat → Nat → Int} {t : Nat} {R : Nat → Int} (h : q_tr M t R) : M t 11 = R 3 := h.2.2.2.2.2.2.1
theorem tr_s12 {M : Nat → Nat → Int} {t : Nat} {R : Nat → Int} (h : q_tr M t R) : M t 12 = R 4 := h.2.2.2.2.2.2.2.1
theorem tr_s13 {M : Nat → Nat → Int} {t : Nat} {R : Nat → Int} (h : q_tr M t R) : M t 13 = R 5 := h.2.2.2.2.2.2.2.2.1
theorem tr_s14 {M : Nat → Nat → Int} {t : Nat} {R : Nat → Int} (h : q_tr M t R) : M t 14 = R 6 := h.2.2.2.2.2.2.2.2.2.1
theorem tr_bo {M : Nat → Nat → Int} {t : Nat} {R : Nat → Int} (h : q_tr M t R) {j : Nat} (hj : j < 12) : 0 ≤ M (t + 4) j ∧ M (t + 4) j ≤ 1 := h.2.2.2.2.2.2.2.2.2.2 j hj
theorem wth_in (p : Nat) : 10 ≤ q_wth p ∧ q_wth p ≤ 30 := by unfold q_wth; (repeat' split) <;> omega
/-- what dog i lost in phase p -/
def q_lo (R : Nat → Int) (i p : Nat) : Int := if q_fr R i ≤ (p : Int) then q_wth p else q_ls R i p
theorem lo_in {R : Nat → Int} {i p : Nat} (h : q_dogok R i) (hp : p < 6) : 0 ≤ q_lo R i p ∧ q_lo R i p ≤ q_wth p := by
  have h1 := h.2.2.2.2.2.1 p hp
  have h2 := wth_in p
  unfold q_lo; split <;> omega
/-- sums and counts up to n -/
def q_sm (f : Nat → Int) : Nat → Int | 0 => 0 | n + 1 => q_sm f n + f n
def q_ct (P : Nat → Bool) : Nat → Int | 0 => 0 | n + 1 => q_ct P n + (if P n = true then 1 else 0)
theorem ct_in (P : Nat → Bool) (n : Nat) : 0 ≤ q_ct P n ∧ q_ct P n ≤ n := by
  induction n with
  | zero => exact ⟨Int.le_refl 0, Int.le_refl 0⟩
  | succ n ih => rw [q_ct]; split <;> omega
theorem sm_in {f : Nat → Int} {a b : Int} {n : Nat} (h : ∀ k, k < n → a ≤ f k ∧ f k ≤ b) : n * a ≤ q_sm f n ∧ q_sm f n ≤ n * b := by
  induction n with
  | zero => simp [q_sm]
  | succ n ih =>
    have h1 := ih (fun k hk => h k (by omega))
    have h2 := h n (by omega)
    have e1 : ((n + 1 : Nat) : Int) * a = n * a + a := by rw [Int.natCast_add, Int.add_mul]; simp
    have e2 : ((n + 1 : Nat) : Int) * b = n * b + b := by rw [Int.natCast_add, Int.add_mul]; simp
    rw [q_sm, e1, e2]; omega
/-- dog i's points -/
def q_sc (R : Nat → Int) (i : Nat) : Int := if q_hs R i = 1 then 100 - q_sm (q_lo R i) 6 else 0
theorem lo6 {R : Nat → Int} {i : Nat} (h : q_dogok R i) {n : Nat} (hn : n ≤ 6) : 0 ≤ q_sm (q_lo R i) n ∧ q_sm (q_lo R i) n ≤ q_sm q_wth n := by
  induction n with
  | zero => exact ⟨Int.le_refl 0, Int.le_refl 0⟩
  | succ n ih =>
    have h1 := ih (by omega)
    have h2 := lo_in h (p := n) (by omega)
    rw [q_sm, q_sm]; omega
theorem wth6 : q_sm q_wth 6 = 100 := by decide
theorem sc_in {R : Nat → Int} {i : Nat} (h : q_dogok R i) : 0 ≤ q_sc R i ∧ q_sc R i ≤ 100 := by
  have h1 := lo6 h (n := 6) (by omega)
  rw [wth6] at h1
  unfold q_sc; split <;> omega
/-- is to run -/
def q_torun (R : Nat → Int) (i : Nat) : Bool := decide (q_sa R i = 0 ∨ q_sa R i = 2)
def q_nwait (R : Nat → Int) : Int := q_ct (q_torun R) (q_nd R).toNat
def q_nrun (R : Nat → Int) : Int := q_ct (fun i => decide (q_hs R i = 1)) (q_nd R).toNat
def q_ngone (R : Nat → Int) : Int := q_ct (fun i => decide (q_sa R i = 3)) (q_nd R).toNat
theorem q_smw : ∀ n, n < 6 → q_sm q_wth n ≤ 90 := by decide
/-- the phase at place k of the rank -/
def q_rkn (R : Nat → Int) (k : Nat) : Nat := (q_rk R k).toNat
theorem q_rkn_eq {R : Nat → Int} (h : q_inv R) {k : Nat} (hk : k < 6) : q_rk R k = (q_rkn R k : Int) ∧ q_rkn R k < 6 := by
  have h1 := h.2.2.1 k hk
  unfold q_rkn; omega
/-- a tie, from place 6 - n on -/
def q_ti (R : Nat → Int) (a b : Nat) : Nat → Bool
  | 0 => false
  | n + 1 => if q_lo R a (q_rkn R (5 - n)) = q_lo R b (q_rkn R (5 - n)) then q_ti R a b n else decide (q_lo R a (q_rkn R (5 - n)) < q_lo R b (q_rkn R (5 - n)))
theorem q_ti_step (R : Nat → Int) (a b : Nat) {k : Nat} (hk : k < 6) : q_ti R a b (6 - k) = if q_lo R a (q_rkn R k) = q_lo R b (q_rkn R k) then q_ti R a b (6 - (k + 1)) else decide (q_lo R a (q_rkn R k) < q_lo R b (q_rkn R k)) := by
  rw [show 6 - k = (5 - k) + 1 by omega, q_ti, show 5 - (5 - k) = k by omega, show 6 - (k + 1) = 5 - k by omega]
def q_bt (R : Nat → Int) (a b : Nat) : Bool := if q_sc R a = q_sc R b then q_ti R a b 6 else decide (q_sc R b < q_sc R a)
theorem q_bt_eq {R : Nat → Int} {a b : Nat} (h : q_sc R a = q_sc R b) : q_bt R a b = q_ti R a b 6 := by unfold q_bt; exact if_pos h
theorem q_bt_ne {R : Nat → Int} {a b : Nat} (h : ¬ q_sc R a = q_sc R b) : q_bt R a b = decide (q_sc R b < q_sc R a) := by unfold q_bt; exact if_neg h
/-- dog i's place -/
def q_pl (R : Nat → Int) (i : Nat) : Int := if q_hs R i = 1 then 1 + q_ct (fun j => decide (q_hs R j = 1) && q_bt R j i) (q_nd R).toNat else -9
/-- why no run can begin -/
def q_ob (R : Nat → Int) : Int := if q_nwait R = 0 then 1 else if R 2 ≤ R 1 then 2 else 0
/-- the owner that ran last -/
def q_lw (R : Nat → Int) : Int := if 0 ≤ R 3 ∧ R 3 < q_nd R then q_ow R (R 3).toNat else -9
def q_sum (R : Nat → Int) : Int := q_sm (q_sc R) (q_nd R).toNat
/-- an owner's best two -/
def q_b2 (R : Nat → Int) (o : Int) : Nat → Int × Int
  | 0 => (0, 0)
  | n + 1 => if q_ow R n = o then (max (q_b2 R o n).1 (q_sc R n), max (q_b2 R o n).2 (min (q_b2 R o n).1 (q_sc R n))) else q_b2 R o n
def q_os (R : Nat → Int) (o : Int) : Int := (q_b2 R o (q_nd R).toNat).1 + (q_b2 R o (q_nd R).toNat).2
theorem q_b2_in {R : Nat → Int} (h : q_inv R) (o : Int) {n : Nat} (hn : (n : Int) ≤ q_nd R) : 0 ≤ (q_b2 R o n).2 ∧ (q_b2 R o n).2 ≤ (q_b2 R o n).1 ∧ (q_b2 R o n).1 ≤ 100 := by
  induction n with
  | zero => simp [q_b2]
  | succ n ih =>
    have h1 := ih (by omega)
    have h2 := sc_in (h.2.1 n (by omega))
    rw [q_b2]
    split
    · dsimp only; omega
    · exact h1
def q_ab (R : Nat → Int) (s : Int) : Int := q_ct (fun j => decide (s < q_sc R j)) (q_nd R).toNat
/-- is ahead in the standing -/
def q_ah (R : Nat → Int) (a b : Nat) : Bool := q_bt R a b || (!q_bt R b a && decide (q_dr R a < q_dr R b))
def q_ahn (R : Nat → Int) (i : Nat) : Int := q_ct (fun j => decide (q_hs R j = 1) && q_ah R j i) (q_nd R).toNat
/-- among the first dogs, another than b, one has the draw d -/
def q_dn (R : Nat → Int) (d b : Int) : Nat → Bool
  | 0 => false
  | n + 1 => q_dn R d b n || (decide ((n : Int) ≠ b) && decide (q_dr R n = d))
theorem q_dn_no {R : Nat → Int} {d b : Int} : ∀ {n : Nat}, (∀ i : Nat, i < n → (i : Int) ≠ b → q_dr R i ≠ d) → q_dn R d b n = false
  | 0, _ => rfl
  | n + 1, h => by
    rw [q_dn, q_dn_no (fun i hi => h i (by omega))]
    by_cases h1 : (n : Int) = b
    · simp [h1]
    · simp [h n (by omega) h1]
theorem q_dn_yes {R : Nat → Int} {d b : Int} {i : Nat} (hb : (i : Int) ≠ b) (hd : q_dr R i = d) : ∀ {n : Nat}, i < n → q_dn R d b n = true
  | 0, h => absurd h (Nat.not_lt_zero _)
  | n + 1, h => by
    rw [q_dn]
    by_cases h1 : i = n
    · subst h1; simp [hb, hd]
    · rw [q_dn_yes hb hd (by omega)]; rfl
