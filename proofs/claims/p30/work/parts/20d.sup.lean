/-! A FAULTLESS RUN SUPPOSED -/
def q_sup (R : Nat → Int) (i : Nat) : Nat → Int := fun k => if k = 14 + 11 * i + 3 then 1 else if k = 14 + 11 * i + 4 then 6 else if 14 + 11 * i + 5 ≤ k ∧ k < 14 + 11 * i + 11 ∧ q_fp R i ≤ ((k - (14 + 11 * i + 5) : Nat) : Int) then 0 else R k
theorem q_sup_nd (R : Nat → Int) (i : Nat) : q_nd (q_sup R i) = q_nd R := by
  unfold q_sup q_nd
  (try simp only [q_up, reduceIte, Nat.reduceEqDiff]) <;> (repeat' split) <;> first | omega | (exfalso; omega) | (congr 1; omega) | (congr 1; done) | rfl
theorem q_sup_ow (R : Nat → Int) (i : Nat) (j : Nat) : q_ow (q_sup R i) j = q_ow R j := by
  unfold q_sup q_ow
  (try simp only [q_up, reduceIte, Nat.reduceEqDiff]) <;> (repeat' split) <;> first | omega | (exfalso; omega) | (congr 1; omega) | (congr 1; done) | rfl
theorem q_sup_dr (R : Nat → Int) (i : Nat) (j : Nat) : q_dr (q_sup R i) j = q_dr R j := by
  unfold q_sup q_dr
  (try simp only [q_up, reduceIte, Nat.reduceEqDiff]) <;> (repeat' split) <;> first | omega | (exfalso; omega) | (congr 1; omega) | (congr 1; done) | rfl
theorem q_sup_sa (R : Nat → Int) (i : Nat) (j : Nat) : q_sa (q_sup R i) j = q_sa R j := by
  unfold q_sup q_sa
  (try simp only [q_up, reduceIte, Nat.reduceEqDiff]) <;> (repeat' split) <;> first | omega | (exfalso; omega) | (congr 1; omega) | (congr 1; done) | rfl
theorem q_sup_hs (R : Nat → Int) (i : Nat) (j : Nat) : q_hs (q_sup R i) j = if j = i then 1 else q_hs R j := by
  unfold q_sup q_hs
  (try simp only [q_up, reduceIte, Nat.reduceEqDiff]) <;> (repeat' split) <;> first | omega | (exfalso; omega) | (congr 1; omega) | (congr 1; done) | rfl
theorem q_sup_fr (R : Nat → Int) (i : Nat) (j : Nat) : q_fr (q_sup R i) j = if j = i then 6 else q_fr R j := by
  unfold q_sup q_fr
  (try simp only [q_up, reduceIte, Nat.reduceEqDiff]) <;> (repeat' split) <;> first | omega | (exfalso; omega) | (congr 1; omega) | (congr 1; done) | rfl
theorem q_sup_ls (R : Nat → Int) (i : Nat) (j p : Nat) (hp : p < 6) : q_ls (q_sup R i) j p = if j = i ∧ q_fp R i ≤ (p : Int) then 0 else q_ls R j p := by
  unfold q_sup q_ls
  (try simp only [q_up, reduceIte, Nat.reduceEqDiff]) <;> (repeat' split) <;> first | omega | (exfalso; omega) | (congr 1; omega) | (congr 1; done) | rfl
theorem q_sup_rk (R : Nat → Int) (i : Nat) (k : Nat) (hk : k < 6) : q_rk (q_sup R i) k = q_rk R k := by
  unfold q_sup q_rk
  (try simp only [q_up, reduceIte, Nat.reduceEqDiff]) <;> (repeat' split) <;> first | omega | (exfalso; omega) | (congr 1; omega) | (congr 1; done) | rfl
theorem q_sup_s0 (R : Nat → Int) (i : Nat) : (q_sup R i) 0 = R 0 := by
  unfold q_sup 
  (try simp only [q_up, reduceIte, Nat.reduceEqDiff]) <;> (repeat' split) <;> first | omega | (exfalso; omega) | (congr 1; omega) | (congr 1; done) | rfl
theorem q_sup_s1 (R : Nat → Int) (i : Nat) : (q_sup R i) 1 = R 1 := by
  unfold q_sup 
  (try simp only [q_up, reduceIte, Nat.reduceEqDiff]) <;> (repeat' split) <;> first | omega | (exfalso; omega) | (congr 1; omega) | (congr 1; done) | rfl
theorem q_sup_s2 (R : Nat → Int) (i : Nat) : (q_sup R i) 2 = R 2 := by
  unfold q_sup 
  (try simp only [q_up, reduceIte, Nat.reduceEqDiff]) <;> (repeat' split) <;> first | omega | (exfalso; omega) | (congr 1; omega) | (congr 1; done) | rfl
theorem q_sup_s3 (R : Nat → Int) (i : Nat) : (q_sup R i) 3 = R 3 := by
  unfold q_sup 
  (try simp only [q_up, reduceIte, Nat.reduceEqDiff]) <;> (repeat' split) <;> first | omega | (exfalso; omega) | (congr 1; omega) | (congr 1; done) | rfl
theorem q_sup_s4 (R : Nat → Int) (i : Nat) : (q_sup R i) 4 = R 4 := by
  unfold q_sup 
  (try simp only [q_up, reduceIte, Nat.reduceEqDiff]) <;> (repeat' split) <;> first | omega | (exfalso; omega) | (congr 1; omega) | (congr 1; done) | rfl
theorem q_sup_s5 (R : Nat → Int) (i : Nat) : (q_sup R i) 5 = R 5 := by
  unfold q_sup 
  (try simp only [q_up, reduceIte, Nat.reduceEqDiff]) <;> (repeat' split) <;> first | omega | (exfalso; omega) | (congr 1; omega) | (congr 1; done) | rfl
theorem q_sup_s6 (R : Nat → Int) (i : Nat) : (q_sup R i) 6 = R 6 := by
  unfold q_sup 
  (try simp only [q_up, reduceIte, Nat.reduceEqDiff]) <;> (repeat' split) <;> first | omega | (exfalso; omega) | (congr 1; omega) | (congr 1; done) | rfl
theorem inv_sup {R : Nat → Int} {i : Nat} (h : q_inv R)  : q_inv (q_sup R i) := by
  obtain ⟨h1, h2, h3, h4, h5, h6, h7⟩ := h
  refine ⟨?_, fun j hj => ?_, fun k hk => ?_, ?_, ?_, ?_, fun j k hj hk he => ?_⟩
  · rw [q_sup_nd]; omega
  · rw [q_sup_nd] at hj; unfold q_dogok; rw [q_sup_ow, q_sup_dr, q_sup_sa, q_sup_hs, q_sup_fr]
    obtain ⟨a1, a2, a3, a4, a5, f7, a6, a8⟩ := h2 j hj
    refine ⟨?_, ?_, ?_, ?_, ?_, fun p hp => ?_, ?_, ?_⟩
    · (repeat' split) <;> omega
    · (repeat' split) <;> omega
    · (repeat' split) <;> omega
    · (repeat' split) <;> omega
    · (repeat' split) <;> omega
    · rw [q_sup_ls _ i j p hp]; have f9 := f7 p hp; (repeat' split) <;> omega
    · (repeat' split) <;> omega
    · (repeat' split) <;> omega
  · rw [q_sup_rk _ i k hk]; exact h3 k hk
  · rw [q_sup_s1, q_sup_s2]; omega
  · rw [q_sup_s2]; omega
  · rw [q_sup_s3, q_sup_nd]; omega
  · rw [q_sup_nd] at hj hk; rw [q_sup_dr, q_sup_dr] at he; exact h7 j k hj hk he
/-- pages whose dogs have the same losses have the same places -/
theorem q_sm_congr {f g : Nat → Int} : ∀ {n : Nat}, (∀ k, k < n → f k = g k) → q_sm f n = q_sm g n
  | 0, _ => rfl
  | n + 1, h => by rw [q_sm, q_sm, q_sm_congr (fun k hk => h k (by omega)), h n (by omega)]
theorem q_ct_congr {P P' : Nat → Bool} : ∀ {n : Nat}, (∀ k, k < n → P k = P' k) → q_ct P n = q_ct P' n
  | 0, _ => rfl
  | n + 1, h => by rw [q_ct, q_ct, q_ct_congr (fun k hk => h k (by omega)), h n (by omega)]
def q_alk (R R' : Nat → Int) : Prop := q_nd R = q_nd R' ∧ (∀ j : Nat, (j : Int) < q_nd R → q_hs R j = q_hs R' j ∧ ∀ p : Nat, p < 6 → q_lo R j p = q_lo R' j p) ∧ ∀ k : Nat, k < 6 → q_rk R k = q_rk R' k
theorem q_alk_sc {R R' : Nat → Int} (h : q_alk R R') {j : Nat} (hj : (j : Int) < q_nd R) : q_sc R j = q_sc R' j := by
  unfold q_sc
  rw [(h.2.1 j hj).1, q_sm_congr (h.2.1 j hj).2]
theorem q_alk_ti {R R' : Nat → Int} (hI : q_inv R) (h : q_alk R R') {a b : Nat} (ha : (a : Int) < q_nd R) (hb : (b : Int) < q_nd R) : ∀ (n : Nat), q_ti R a b n = q_ti R' a b n
  | 0 => rfl
  | n + 1 => by
    have h1 := q_rkn_eq hI (k := 5 - n) (by omega)
    have h2 : q_rkn R' (5 - n) = q_rkn R (5 - n) := by unfold q_rkn; rw [h.2.2 (5 - n) (by omega)]
    rw [q_ti, q_ti, h2, (h.2.1 a ha).2 _ h1.2, (h.2.1 b hb).2 _ h1.2, q_alk_ti hI h ha hb n]
theorem q_alk_bt {R R' : Nat → Int} (hI : q_inv R) (h : q_alk R R') {a b : Nat} (ha : (a : Int) < q_nd R) (hb : (b : Int) < q_nd R) : q_bt R a b = q_bt R' a b := by
  unfold q_bt
  rw [q_alk_sc h ha, q_alk_sc h hb, q_alk_ti hI h ha hb]
theorem q_alk_pl {R R' : Nat → Int} (hI : q_inv R) (h : q_alk R R') {i : Nat} (hi : (i : Int) < q_nd R) : q_pl R i = q_pl R' i := by
  have hnd := hI.1
  unfold q_pl
  rw [(h.2.1 i hi).1, ← h.1]
  rw [q_ct_congr (P' := fun j => decide (q_hs R' j = 1) && q_bt R' j i) (fun k hk => by rw [(h.2.1 k (by omega)).1, q_alk_bt hI h (show (k : Int) < q_nd R by omega) hi])]
theorem q_sup_alk (R : Nat → Int) (i : Nat) : q_alk (q_sup R i) (q_nr R i (fun _ => 0)) := by
  refine ⟨by rw [q_sup_nd, q_nr_nd], fun j hj => ⟨by rw [q_sup_hs, q_nr_hs], fun p hp => ?_⟩, fun k hk => by rw [q_sup_rk _ _ _ hk, q_nr_rk _ _ _ _ hk]⟩
  unfold q_lo
  rw [q_sup_fr, q_nr_fr, q_sup_ls _ _ _ _ hp, q_nr_ls _ _ _ _ _ hp]
/-- the best place that a dog may still take -/
def q_bp (R : Nat → Int) (i : Nat) : Int := if q_torun R i = true then q_pl (q_nr R i (fun _ => 0)) i else q_pl R i
theorem q_bp_sup {R : Nat → Int} (hI : q_inv R) {i : Nat} (hi : (i : Int) < q_nd R) : q_pl (q_sup R i) i = q_pl (q_nr R i (fun _ => 0)) i :=
  q_alk_pl (inv_sup hI) (q_sup_alk R i) (by rw [q_sup_nd]; exact hi)
theorem q_rz_in (R : Nat → Int) (mi : Int) : q_rz R mi = 0 ∨ q_rz R mi = 1 := by unfold q_rz; split <;> omega
