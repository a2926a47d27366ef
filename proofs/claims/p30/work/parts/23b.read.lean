/-! THE TEXT AND ITS READERS -/
def q_dgt (T : Nat → Int) (n s : Nat) : Int := if s < n ∧ 48 ≤ T s ∧ T s ≤ 57 then T s - 48 else -9
theorem q_dgt_in (T : Nat → Int) (n s : Nat) : q_dgt T n s = -9 ∨ (0 ≤ q_dgt T n s ∧ q_dgt T n s ≤ 9 ∧ s < n ∧ T s = q_dgt T n s + 48) := by
  unfold q_dgt; split
  · next h => exact Or.inr ⟨by omega, by omega, h.1, by omega⟩
  · exact Or.inl rfl
theorem q_dgt_pos {T : Nat → Int} {n s : Nat} (h1 : s < n) (h2 : 48 ≤ T s) (h3 : T s ≤ 57) : q_dgt T n s = T s - 48 := if_pos ⟨h1, h2, h3⟩
theorem q_dgt_neg {T : Nat → Int} {n s : Nat} (h : ¬ (s < n ∧ 48 ≤ T s ∧ T s ≤ 57)) : q_dgt T n s = -9 := if_neg h
/-- the sunset: how many of its digits are allowed -/
def q_sn (T : Nat → Int) (n s : Nat) : Nat :=
  if ¬ (0 ≤ q_dgt T n s ∧ q_dgt T n s ≤ 6) then 0 else if ¬ (0 ≤ q_dgt T n (s + 1) ∧ (q_dgt T n s = 0 → 6 ≤ q_dgt T n (s + 1)) ∧ (q_dgt T n s = 6 → q_dgt T n (s + 1) = 0)) then 1 else if ¬ (0 ≤ q_dgt T n (s + 2) ∧ (q_dgt T n s = 6 → q_dgt T n (s + 2) = 0)) then 2 else 3
def q_sv (T : Nat → Int) (n s : Nat) : Int := 100 * q_dgt T n s + 10 * q_dgt T n (s + 1) + q_dgt T n (s + 2)
theorem q_sn_0 {T : Nat → Int} {n s : Nat} (h : ¬ (0 ≤ q_dgt T n s ∧ q_dgt T n s ≤ 6)) : q_sn T n s = 0 := if_pos h
theorem q_sn_1 {T : Nat → Int} {n s : Nat} (h : 0 ≤ q_dgt T n s ∧ q_dgt T n s ≤ 6) (h1 : ¬ (0 ≤ q_dgt T n (s + 1) ∧ (q_dgt T n s = 0 → 6 ≤ q_dgt T n (s + 1)) ∧ (q_dgt T n s = 6 → q_dgt T n (s + 1) = 0))) : q_sn T n s = 1 := by
  unfold q_sn; rw [if_neg (fun h9 => h9 h), if_pos h1]
theorem q_sn_2 {T : Nat → Int} {n s : Nat} (h : 0 ≤ q_dgt T n s ∧ q_dgt T n s ≤ 6) (h1 : 0 ≤ q_dgt T n (s + 1) ∧ (q_dgt T n s = 0 → 6 ≤ q_dgt T n (s + 1)) ∧ (q_dgt T n s = 6 → q_dgt T n (s + 1) = 0)) (h2 : ¬ (0 ≤ q_dgt T n (s + 2) ∧ (q_dgt T n s = 6 → q_dgt T n (s + 2) = 0))) : q_sn T n s = 2 := by
  unfold q_sn; rw [if_neg (fun h9 => h9 h), if_neg (fun h9 => h9 h1), if_pos h2]
theorem q_sn_3 {T : Nat → Int} {n s : Nat} (h : 0 ≤ q_dgt T n s ∧ q_dgt T n s ≤ 6) (h1 : 0 ≤ q_dgt T n (s + 1) ∧ (q_dgt T n s = 0 → 6 ≤ q_dgt T n (s + 1)) ∧ (q_dgt T n s = 6 → q_dgt T n (s + 1) = 0)) (h2 : 0 ≤ q_dgt T n (s + 2) ∧ (q_dgt T n s = 6 → q_dgt T n (s + 2) = 0)) : q_sn T n s = 3 := by
  unfold q_sn; rw [if_neg (fun h9 => h9 h), if_neg (fun h9 => h9 h1), if_neg (fun h9 => h9 h2)]
theorem q_sn_ok {T : Nat → Int} {n s : Nat} (h : q_sn T n s = 3) : (60 ≤ q_sv T n s ∧ q_sv T n s ≤ 600) ∧ s + 3 ≤ n := by
  have h0 := q_dgt_in T n s
  have h1 := q_dgt_in T n (s + 1)
  have h2 := q_dgt_in T n (s + 2)
  unfold q_sn at h
  split at h
  · omega
  · split at h
    · omega
    · split at h
      · omega
      · next a b c =>
        have a := Classical.not_not.mp a
        have b := Classical.not_not.mp b
        have c := Classical.not_not.mp c
        unfold q_sv
        omega
/-- a draw that is free; ten of which one is -/
def q_fre (R : Nat → Int) (d : Int) : Bool := decide (1 ≤ d ∧ d ≤ 99) && !(q_dn R d (-9) (q_nd R).toNat)
def q_any (P : Nat → Bool) : Nat → Bool | 0 => false | n + 1 => q_any P n || P n
def q_opn (R : Nat → Int) (t : Int) : Bool := q_any (fun k => q_fre R (10 * t + (k : Int))) 10
theorem q_any_yes {P : Nat → Bool} {k : Nat} (h : P k = true) : ∀ {n : Nat}, k < n → q_any P n = true
  | 0, hk => absurd hk (Nat.not_lt_zero _)
  | n + 1, hk => by
    rw [q_any]
    by_cases e : k = n
    · subst e; rw [h, Bool.or_true]
    · rw [q_any_yes h (show k < n by omega), Bool.true_or]
theorem q_any_no {P : Nat → Bool} : ∀ {n : Nat}, (∀ k, k < n → P k = false) → q_any P n = false
  | 0, _ => rfl
  | n + 1, h => by rw [q_any, q_any_no (fun k hk => h k (by omega)), h n (by omega)]; rfl
/-- a dog: how many of its digits are allowed -/
def q_dg (T : Nat → Int) (n s : Nat) (R : Nat → Int) : Nat :=
  if ¬ (0 ≤ q_dgt T n s ∧ q_dgt T n s ≤ 5) then 0 else if ¬ (0 ≤ q_dgt T n (s + 1) ∧ q_opn R (q_dgt T n (s + 1)) = true) then 1 else if ¬ (0 ≤ q_dgt T n (s + 2) ∧ q_fre R (10 * q_dgt T n (s + 1) + q_dgt T n (s + 2)) = true) then 2 else 3
theorem q_dg_0 {T R : Nat → Int} {n s : Nat} (h : ¬ (0 ≤ q_dgt T n s ∧ q_dgt T n s ≤ 5)) : q_dg T n s R = 0 := if_pos h
theorem q_dg_1 {T R : Nat → Int} {n s : Nat} (h : 0 ≤ q_dgt T n s ∧ q_dgt T n s ≤ 5) (h1 : ¬ (0 ≤ q_dgt T n (s + 1) ∧ q_opn R (q_dgt T n (s + 1)) = true)) : q_dg T n s R = 1 := by
  unfold q_dg; rw [if_neg (fun h9 => h9 h), if_pos h1]
theorem q_dg_2 {T R : Nat → Int} {n s : Nat} (h : 0 ≤ q_dgt T n s ∧ q_dgt T n s ≤ 5) (h1 : 0 ≤ q_dgt T n (s + 1) ∧ q_opn R (q_dgt T n (s + 1)) = true) (h2 : ¬ (0 ≤ q_dgt T n (s + 2) ∧ q_fre R (10 * q_dgt T n (s + 1) + q_dgt T n (s + 2)) = true)) : q_dg T n s R = 2 := by
  unfold q_dg; rw [if_neg (fun h9 => h9 h), if_neg (fun h9 => h9 h1), if_pos h2]
theorem q_dg_3 {T R : Nat → Int} {n s : Nat} (h : 0 ≤ q_dgt T n s ∧ q_dgt T n s ≤ 5) (h1 : 0 ≤ q_dgt T n (s + 1) ∧ q_opn R (q_dgt T n (s + 1)) = true) (h2 : 0 ≤ q_dgt T n (s + 2) ∧ q_fre R (10 * q_dgt T n (s + 1) + q_dgt T n (s + 2)) = true) : q_dg T n s R = 3 := by
  unfold q_dg; rw [if_neg (fun h9 => h9 h), if_neg (fun h9 => h9 h1), if_neg (fun h9 => h9 h2)]
def q_dgp (T : Nat → Int) (n s : Nat) (R : Nat → Int) : Nat → Int := q_ent R (q_nd R).toNat (q_dgt T n s) (10 * q_dgt T n (s + 1) + q_dgt T n (s + 2))
theorem q_dg_ok {T R : Nat → Int} {n s : Nat} (h : q_dg T n s R = 3) : (0 ≤ q_dgt T n s ∧ q_dgt T n s ≤ 5) ∧ q_fre R (10 * q_dgt T n (s + 1) + q_dgt T n (s + 2)) = true ∧ s + 3 ≤ n := by
  have h2 := q_dgt_in T n (s + 2)
  unfold q_dg at h
  split at h
  · omega
  · split at h
    · omega
    · split at h
      · omega
      · next a b c =>
        have a := Classical.not_not.mp a
        have c := Classical.not_not.mp c
        exact ⟨a, c.2, by omega⟩
theorem q_dn_of {R : Nat → Int} {d b : Int} : ∀ {n : Nat}, q_dn R d b n = false → ∀ i : Nat, i < n → (i : Int) ≠ b → q_dr R i ≠ d := by
  intro n h i hi hb hd
  rw [q_dn_yes hb hd hi] at h
  cases h
theorem inv_dgp {T R : Nat → Int} {n s : Nat} (hI : q_inv R) (hn : q_nd R < 12) (h : q_dg T n s R = 3) : q_inv (q_dgp T n s R) := by
  obtain ⟨h1, h2, -⟩ := q_dg_ok h
  unfold q_fre at h2
  rw [Bool.and_eq_true] at h2
  have h3 := of_decide_eq_true h2.1
  have h4 : q_dn R (10 * q_dgt T n (s + 1) + q_dgt T n (s + 2)) (-9) (q_nd R).toNat = false := by
    have := h2.2; simpa using this
  have hnd := hI.1
  unfold q_dgp
  exact inv_ent hI (by omega) (by omega) h1 h3 (fun j hj => q_dn_of h4 j hj (by omega))
/-- the rank: how many of its digits are allowed -/
def q_pre (P : Nat → Bool) : Nat → Nat | 0 => 0 | n + 1 => if q_pre P n = n then (if P n = true then n + 1 else n) else q_pre P n
theorem q_pre_all {P : Nat → Bool} : ∀ {n : Nat}, (∀ j, j < n → P j = true) → q_pre P n = n
  | 0, _ => rfl
  | n + 1, h => by rw [q_pre, q_pre_all (fun j hj => h j (by omega)), if_pos rfl, if_pos (h n (by omega))]
theorem q_pre_hit {P : Nat → Bool} {k : Nat} (hk : ¬ P k = true) (hno : ∀ j, j < k → P j = true) : ∀ {n : Nat}, k < n → q_pre P n = k
  | 0, h => absurd h (Nat.not_lt_zero _)
  | n + 1, h => by
    rw [q_pre]
    by_cases h1 : k = n
    · subst h1; rw [q_pre_all hno, if_pos rfl, if_neg hk]
    · rw [q_pre_hit hk hno (show k < n by omega), if_neg (by omega)]
theorem q_pre_le (P : Nat → Bool) : ∀ (n : Nat), q_pre P n ≤ n
  | 0 => Nat.le_refl 0
  | n + 1 => by have := q_pre_le P n; rw [q_pre]; (repeat' split) <;> omega
theorem q_pre_ok {P : Nat → Bool} : ∀ {n : Nat}, q_pre P n = n → ∀ j, j < n → P j = true
  | 0, _ => fun j hj => absurd hj (Nat.not_lt_zero _)
  | n + 1, h => fun j hj => by
    have h1 := q_pre_le P n
    rw [q_pre] at h
    split at h
    · next h2 =>
      split at h
      · next h3 =>
        by_cases e : j = n
        · subst e; exact h3
        · exact q_pre_ok h2 j (by omega)
      · omega
    · omega
def q_msk (f : Nat → Int) : Nat → Nat | 0 => 0 | k + 1 => q_msk f k ||| 2 ^ (f k).toNat
theorem q_msk_in {f : Nat → Int} : ∀ {k : Nat}, (∀ j, j < k → 0 ≤ f j ∧ f j < 6) → q_msk f k < 64
  | 0, _ => by show 0 < 64; decide
  | k + 1, h => by rw [q_msk]; exact q_or6 _ (q_msk_in (fun j hj => h j (by omega))) _ (q_pw6 _ (by have := h k (by omega); omega))
/-- place k of the rank that begins at s -/
def q_rkd (T : Nat → Int) (n s k : Nat) : Int := q_dgt T n (s + k)
def q_rkb (T : Nat → Int) (n s k : Nat) : Bool := decide ((0 ≤ q_rkd T n s k ∧ q_rkd T n s k ≤ 5) ∧ q_msk (q_rkd T n s) k / 2 ^ (q_rkd T n s k).toNat % 2 = 0)
def q_rn6 (T : Nat → Int) (n s : Nat) : Nat := q_pre (q_rkb T n s) 6
theorem q_rkb_in {T : Nat → Int} {n s k : Nat} (h : ∀ j, j < k → q_rkb T n s j = true) : ∀ j, j < k → 0 ≤ q_rkd T n s j ∧ q_rkd T n s j < 6 := fun j hj => by
  have h1 := h j hj
  unfold q_rkb at h1
  have h2 := of_decide_eq_true h1
  omega
theorem q_rn6_ok {T : Nat → Int} {n s : Nat} (h : q_rn6 T n s = 6) : (∀ k, k < 6 → 0 ≤ q_rkd T n s k ∧ q_rkd T n s k < 6) ∧ s + 6 ≤ n := by
  have h1 := q_rkb_in (q_pre_ok (P := q_rkb T n s) h)
  refine ⟨h1, ?_⟩
  have h2 := h1 5 (by decide)
  unfold q_rkd at h2
  have h3 := q_dgt_in T n (s + 5)
  omega
/-- the whole text: whether it is read, up to where, the page -/
def q_tl (T : Nat → Int) (n s : Nat) (R : Nat → Int) : Bool × Nat × (Nat → Int) :=
  if s < n ∧ T s = 114 then (if q_rn6 T n (s + 1) = 6 then (true, s + 7, q_srk R (q_rkd T n (s + 1))) else (false, s + 1 + q_rn6 T n (s + 1), R)) else (true, s, R)
def q_go (T : Nat → Int) (n : Nat) : Nat → Nat → (Nat → Int) → Bool × Nat × (Nat → Int)
  | 0, s, R => q_tl T n s R
  | f + 1, s, R => if s < n ∧ T s = 100 then (if q_dg T n (s + 1) R = 3 then q_go T n f (s + 4) (q_dgp T n (s + 1) R) else (false, s + 1 + q_dg T n (s + 1) R, R)) else q_tl T n s R
def q_sun (R : Nat → Int) (v : Int) : Nat → Int := q_up R 2 v
def q_rdt (T : Nat → Int) (n : Nat) : Bool × Nat × (Nat → Int) :=
  if 0 < n ∧ T 0 = 84 then (if q_sn T n 1 = 3 then q_go T n 12 4 (q_sun q_new (q_sv T n 1)) else (false, 1 + q_sn T n 1, q_new)) else (false, 0, q_new)
def q_err (T : Nat → Int) (n : Nat) : Int := if (q_rdt T n).1 = true ∧ n ≤ (q_rdt T n).2.1 then -9 else (q_rdt T n).2.1
theorem q_new_inv : q_inv q_new := by
  refine ⟨by decide, fun i hi => ?_, fun k hk => ?_, by decide, by decide, by decide, fun i j hi hj _ => ?_⟩
  · exact absurd hi (by show ¬ ((i : Int) < 0); omega)
  · show 0 ≤ q_new (8 + k) ∧ q_new (8 + k) < 6
    unfold q_new
    rw [if_neg (by omega), if_neg (by omega), if_pos (by omega)]
    omega
  · exact absurd hi (by show ¬ ((i : Int) < 0); omega)
theorem inv_sun {R : Nat → Int} {v : Int} (h : q_inv R) (h1 : R 1 = 0) (hv : 60 ≤ v ∧ v ≤ 600) : q_inv (q_sun R v) := by
  have e : ∀ k, k ≠ 2 → q_sun R v k = R k := fun k hk => up_ne _ _ hk
  obtain ⟨a1, a2, a3, a4, a5, a6, a7⟩ := h
  have end_ : q_nd (q_sun R v) = q_nd R := e 7 (by decide)
  have edr : ∀ i : Nat, q_dr (q_sun R v) i = q_dr R i := fun i => e _ (by omega)
  refine ⟨by rw [end_]; exact a1, fun i hi => ?_, fun k hk => ?_, ?_, ?_, ?_, fun i j hi hj hd => ?_⟩
  · rw [end_] at hi
    have b := a2 i hi
    unfold q_dogok q_ow q_dr q_sa q_hs q_fr q_ls at b ⊢
    rw [e _ (by omega), e _ (by omega), e _ (by omega), e _ (by omega), e _ (by omega)]
    refine ⟨b.1, b.2.1, b.2.2.1, b.2.2.2.1, b.2.2.2.2.1, fun p hp => ?_, b.2.2.2.2.2.2.1, b.2.2.2.2.2.2.2⟩
    rw [e _ (by omega)]
    exact b.2.2.2.2.2.1 p hp
  · have := a3 k hk
    unfold q_rk at this ⊢
    rw [e _ (by omega)]; exact this
  · rw [e 1 (by decide), h1]; show 0 ≤ 0 ∧ 0 ≤ q_up R 2 v 2; rw [up_eq]; omega
  · show 60 ≤ q_up R 2 v 2 ∧ q_up R 2 v 2 ≤ 600; rw [up_eq]; exact hv
  · rw [e 3 (by decide), end_]; exact a6
  · rw [end_] at hi hj; rw [edr, edr] at hd; exact a7 i j hi hj hd
theorem q_tl_ok {T R : Nat → Int} {n s : Nat} (hI : q_inv R) (hs : s ≤ n) (h : (q_tl T n s R).1 = true) : q_inv (q_tl T n s R).2.2 ∧ (q_tl T n s R).2.1 ≤ n := by
  unfold q_tl at h ⊢
  split at h
  · next c1 =>
    rw [if_pos c1]
    split at h
    · next c2 =>
      rw [if_pos c2]
      have h3 := q_rn6_ok c2
      exact ⟨inv_srk hI h3.1, by dsimp only; omega⟩
    · cases h
  · next c1 => rw [if_neg c1]; exact ⟨hI, hs⟩
theorem q_go_ok {T : Nat → Int} {n : Nat} : ∀ (f s : Nat) {R : Nat → Int}, q_inv R → s ≤ n → q_nd R + (f : Int) = 12 → (q_go T n f s R).1 = true → q_inv (q_go T n f s R).2.2 ∧ (q_go T n f s R).2.1 ≤ n
  | 0, s, R, hI, hs, _, h => q_tl_ok hI hs h
  | f + 1, s, R, hI, hs, hf, h => by
    rw [q_go] at h ⊢
    split at h
    · next c1 =>
      rw [if_pos c1]
      split at h
      · next c2 =>
        rw [if_pos c2]
        have h3 := q_dg_ok c2
        exact q_go_ok f (s + 4) (inv_dgp hI (by omega) c2) (by omega) (by unfold q_dgp; rw [q_ent_nd]; omega) h
      · cases h
    · next c1 => rw [if_neg c1]; exact q_tl_ok hI hs h
theorem q_rdt_ok {T : Nat → Int} {n : Nat} (h : (q_rdt T n).1 = true) : q_inv (q_rdt T n).2.2 ∧ (q_rdt T n).2.1 ≤ n := by
  unfold q_rdt at h ⊢
  split at h
  · next c1 =>
    rw [if_pos c1]
    split at h
    · next c2 =>
      rw [if_pos c2]
      have h3 := q_sn_ok c2
      exact q_go_ok 12 4 (inv_sun q_new_inv rfl h3.1) (by omega) rfl h
    · cases h
  · cases h
/-- frames of the readers -/
def q_fx (M M1 : Nat → Nat → Int) : Prop := (∀ a, a ≠ 167 → (a < 8 ∨ 16 ≤ a) → M1 a = M a) ∧ ∀ b : Nat, b ≠ 2 → M1 167 b = M 167 b
theorem q_fx.rf (M : Nat → Nat → Int) : q_fx M M := ⟨fun _ _ _ => rfl, fun _ _ => rfl⟩
theorem q_fx.tr {M M1 M2 : Nat → Nat → Int} (h : q_fx M M1) (h2 : q_fx M1 M2) : q_fx M M2 := ⟨fun a h3 h4 => (h2.1 a h3 h4).trans (h.1 a h3 h4), fun b hb => (h2.2 b hb).trans (h.2 b hb)⟩
theorem q_fx.wr {M M1 : Nat → Nat → Int} {v : Int} (h : q_fx M M1) : q_fx M (q_wr M1 167 2 v) := ⟨fun a h3 h4 => (wr_off _ _ _ h3).trans (h.1 a h3 h4), fun b hb => (wr_ne _ _ _ hb).trans (h.2 b hb)⟩
theorem q_fx.wt {M M1 : Nat → Nat → Int} {k j : Nat} {v : Int} (h : q_fx M M1) (hk : 8 ≤ k ∧ k < 16) : q_fx M (q_wr M1 k j v) := ⟨fun a h3 h4 => (wr_off _ _ _ (by omega)).trans (h.1 a h3 h4), fun b hb => by rw [wr_off _ _ _ (by omega)]; exact h.2 b hb⟩
theorem q_fx.off {M M1 M2 : Nat → Nat → Int} (h : q_fx M M1) (h2 : q_off M1 M2 8 16) : q_fx M M2 := ⟨fun a h3 h4 => (h2 a h4).trans (h.1 a h3 h4), fun b hb => by rw [h2 167 (by omega)]; exact h.2 b hb⟩
def q_fm (M M1 : Nat → Nat → Int) : Prop := (∀ a, a ≠ 169 → a ≠ 171 → M1 a = M a) ∧ ∀ b : Nat, b ≠ 3 → M1 169 b = M 169 b
theorem q_fm.rf (M : Nat → Nat → Int) : q_fm M M := ⟨fun _ _ _ => rfl, fun _ _ => rfl⟩
theorem q_fm.tr {M M1 M2 : Nat → Nat → Int} (h : q_fm M M1) (h2 : q_fm M1 M2) : q_fm M M2 := ⟨fun a h3 h4 => (h2.1 a h3 h4).trans (h.1 a h3 h4), fun b hb => (h2.2 b hb).trans (h.2 b hb)⟩
theorem q_fm.wr {M M1 : Nat → Nat → Int} {v : Int} (h : q_fm M M1) : q_fm M (q_wr M1 169 3 v) := ⟨fun a h3 h4 => (wr_off _ _ _ h3).trans (h.1 a h3 h4), fun b hb => (wr_ne _ _ _ hb).trans (h.2 b hb)⟩
theorem q_fm.wp {M M1 : Nat → Nat → Int} {j : Nat} {v : Int} (h : q_fm M M1) : q_fm M (q_wr M1 171 j v) := ⟨fun a h3 h4 => (wr_off _ _ _ h4).trans (h.1 a h3 h4), fun b hb => by rw [wr_off _ _ _ (by decide)]; exact h.2 b hb⟩
theorem q_fm.set {M M1 : Nat → Nat → Int} {P : Nat → Int} (h : q_fm M M1) : q_fm M (q_set M1 171 P) := ⟨fun a h3 h4 => (q_set_off _ _ h4).trans (h.1 a h3 h4), fun b hb => by rw [q_set_off _ _ (by decide)]; exact h.2 b hb⟩
