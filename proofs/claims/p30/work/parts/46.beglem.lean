/-! THE BEGINNING: a text of some dogs, sign by sign, and loaded -/
def q_tx (x : Int) (s : Nat) : Int :=
  if s = 0 then 84 else if s = 1 then x % 5 + 49 else if s = 2 then x / 8 % 10 + 48 else if s = 3 then 48
  else if (s - 4) % 4 = 0 then 100 else if (s - 4) % 4 = 1 then x / (((s - 4) / 4 : Nat) + 1024) % 3 + 48 else if (s - 4) % 4 = 2 then 2 * (((s - 4) / 4 : Nat) : Int) % 9 + 48 else x / (((s - 4) / 4 : Nat) + 4096) % 9 + 49
theorem tx_0 (x : Int) (i : Nat) : q_tx x (4 + 4 * i) = 100 := by
  unfold q_tx
  rw [if_neg (by omega), if_neg (by omega), if_neg (by omega), if_neg (by omega), if_pos (by omega)]
theorem tx_1 (x : Int) (i : Nat) : q_tx x (4 + 4 * i + 1) = x / ((i : Int) + 1024) % 3 + 48 := by
  unfold q_tx
  rw [if_neg (by omega), if_neg (by omega), if_neg (by omega), if_neg (by omega), if_neg (by omega), if_pos (by omega), show (4 + 4 * i + 1 - 4) / 4 = i by omega]
theorem tx_2 (x : Int) (i : Nat) : q_tx x (4 + 4 * i + 2) = 2 * (i : Int) % 9 + 48 := by
  unfold q_tx
  rw [if_neg (by omega), if_neg (by omega), if_neg (by omega), if_neg (by omega), if_neg (by omega), if_neg (by omega), if_pos (by omega), show (4 + 4 * i + 2 - 4) / 4 = i by omega]
theorem tx_3 (x : Int) (i : Nat) : q_tx x (4 + 4 * i + 3) = x / ((i : Int) + 4096) % 9 + 49 := by
  unfold q_tx
  rw [if_neg (by omega), if_neg (by omega), if_neg (by omega), if_neg (by omega), if_neg (by omega), if_neg (by omega), if_neg (by omega), show (4 + 4 * i + 3 - 4) / 4 = i by omega]
/-- the text of so many signs, over what was there before -/
def q_tX (X : Nat → Int) (x : Int) (c : Nat) : Nat → Int := fun s => if s < c then q_tx x s else X s
theorem tX_0 (X : Nat → Int) (x : Int) : q_tX X x 0 = X := funext fun s => if_neg (Nat.not_lt_zero _)
theorem tX_up (X : Nat → Int) (x : Int) {c d : Nat} {v : Int} (hd : d = c + 1) (hv : v = q_tx x c) : kT (q_up (q_tX X x c) c v) (c + 1) = kT (q_tX X x d) d := by
  subst hd
  have e : q_up (q_tX X x c) c v = q_tX X x (c + 1) := funext fun s => by
    unfold q_tX
    by_cases h : s = c
    · subst h; rw [up_eq, if_pos (by omega), hv]
    · rw [up_ne _ _ h]
      by_cases h2 : s < c
      · rw [if_pos h2, if_pos (by omega)]
      · rw [if_neg h2, if_neg (by omega)]
  rw [e]
theorem tX_at (X : Nat → Int) (x : Int) {c s : Nat} (h : s < c) : q_tX X x c s = q_tx x s := if_pos h
/-- the page behind so many dogs -/
def q_bd0 (x : Int) (i : Nat) : Int := 10 * (2 * (i : Int) % 9) + (x / ((i : Int) + 4096) % 9 + 1)
def q_bo (x : Int) (i : Nat) : Int := x / ((i : Int) + 1024) % 3
def q_pg (x : Int) : Nat → Nat → Int | 0 => q_sun q_new (100 * (x % 5 + 1) + 10 * (x / 8 % 10)) | i + 1 => q_ent (q_pg x i) i (q_bo x i) (q_bd0 x i)
theorem bd0_in (x : Int) {i : Nat} (hi : i < 6) : 1 ≤ q_bd0 x i ∧ q_bd0 x i ≤ 99 ∧ ∀ j, j < i → q_bd0 x j ≠ q_bd0 x i := by
  unfold q_bd0
  generalize x / ((i : Int) + 4096) = a
  refine ⟨by omega, by omega, fun j hj => ?_⟩
  generalize x / ((j : Int) + 4096) = b
  omega
theorem pg_all {x : Int} (hx : 0 ≤ x) : ∀ {i : Nat}, i ≤ 6 → q_inv (q_pg x i) ∧ q_in3 (q_pg x i) ∧ q_nd (q_pg x i) = (i : Int) ∧ ∀ j, j < i → q_dr (q_pg x i) j = q_bd0 x j
  | 0, _ => by
    have e : ∀ k, k ≠ 2 → (q_pg x 0) k = q_new k := fun k hk => up_ne _ _ hk
    have h7 : q_nd (q_pg x 0) = 0 := e 7 (by decide)
    refine ⟨inv_sun q_new_inv rfl (by omega), fun i hi => ?_, h7, fun j hj => absurd hj (Nat.not_lt_zero _)⟩
    rw [h7] at hi; omega
  | i + 1, hi => by
    obtain ⟨h1, h2, h3, h4⟩ := pg_all hx (i := i) (by omega)
    obtain ⟨b1, b2, b3⟩ := bd0_in x (i := i) (by omega)
    have ho : 0 ≤ q_bo x i ∧ q_bo x i ≤ 5 := by unfold q_bo; omega
    refine ⟨inv_ent h1 h3 (by omega) ho ⟨b1, b2⟩ (fun j hj => by rw [h4 j hj]; exact b3 j hj), in3_ent h2 h3, ?_, fun j hj => ?_⟩
    · show q_nd (q_ent _ _ _ _) = _
      rw [q_ent_nd, h3]; omega
    · show q_dr (q_ent _ _ _ _) j = _
      rw [q_ent_dr]
      by_cases e : j = i
      · rw [if_pos e, e]
      · rw [if_neg e]; exact h4 j (by omega)
theorem tX_dgt (X : Nat → Int) (x : Int) {c s : Nat} {d : Int} (h : s < c) (hd : q_tx x s = d + 48) (h9 : 0 ≤ d ∧ d ≤ 9) : q_dgt (q_tX X x c) c s = d := by
  rw [q_dgt_pos h (by rw [tX_at X x h]; omega) (by rw [tX_at X x h]; omega), tX_at X x h]; omega
theorem go_eq (X : Nat → Int) {x : Int} (hx : 0 ≤ x) {J : Nat} (hJ : J ≤ 6) : ∀ (t i f : Nat), i + t = J → t < f → q_go (q_tX X x (4 + 4 * J)) (4 + 4 * J) f (4 + 4 * i) (q_pg x i) = (true, 4 + 4 * J, q_pg x J)
  | _, _, 0, _, h => absurd h (Nat.not_lt_zero _)
  | 0, i, f + 1, hi, _ => by
    have e : i = J := by omega
    subst e
    rw [q_go, if_neg (by omega)]
    unfold q_tl
    rw [if_neg (by omega)]
  | t + 1, i, f + 1, hi, hf => by
    obtain ⟨h1, h2, h3, h4⟩ := pg_all hx (i := i) (by omega)
    obtain ⟨b1, b2, b3⟩ := bd0_in x (i := i) (by omega)
    have ho : 0 ≤ q_bo x i ∧ q_bo x i ≤ 2 := by unfold q_bo; omega
    have d1 : q_dgt (q_tX X x (4 + 4 * J)) (4 + 4 * J) (4 + 4 * i + 1) = q_bo x i := tX_dgt X x (by omega) (tx_1 x i) (by omega)
    have d2 : q_dgt (q_tX X x (4 + 4 * J)) (4 + 4 * J) (4 + 4 * i + 2) = 2 * (i : Int) % 9 := tX_dgt X x (by omega) (tx_2 x i) (by omega)
    have d3 : q_dgt (q_tX X x (4 + 4 * J)) (4 + 4 * J) (4 + 4 * i + 3) = x / ((i : Int) + 4096) % 9 + 1 := tX_dgt X x (by omega) (by rw [tx_3]; omega) (by omega)
    have hfre : q_fre (q_pg x i) (q_bd0 x i) = true := by
      unfold q_fre
      rw [q_dn_no (fun j hj _ => by
        rw [h4 j (by omega)]; exact b3 j (by omega)), decide_eq_true (show 1 ≤ q_bd0 x i ∧ q_bd0 x i ≤ 99 from ⟨b1, b2⟩)]
      rfl
    have e3 : 10 * (2 * (i : Int) % 9) + (x / ((i : Int) + 4096) % 9 + 1) = q_bd0 x i := rfl
    have hdg : q_dg (q_tX X x (4 + 4 * J)) (4 + 4 * J) (4 + 4 * i + 1) (q_pg x i) = 3 := by
      refine q_dg_3 ?_ ?_ ?_
      · rw [d1]; omega
      · rw [show 4 + 4 * i + 1 + 1 = 4 + 4 * i + 2 from rfl, d2]
        refine ⟨by omega, ?_⟩
        unfold q_opn
        refine q_any_yes (k := (x / ((i : Int) + 4096) % 9 + 1).toNat) ?_ (by omega)
        rw [show (((x / ((i : Int) + 4096) % 9 + 1).toNat : Nat) : Int) = x / ((i : Int) + 4096) % 9 + 1 by omega]
        exact hfre
      · rw [show 4 + 4 * i + 1 + 1 = 4 + 4 * i + 2 from rfl, show 4 + 4 * i + 1 + 2 = 4 + 4 * i + 3 from rfl, d2, d3]
        exact ⟨by omega, hfre⟩
    have hp : q_dgp (q_tX X x (4 + 4 * J)) (4 + 4 * J) (4 + 4 * i + 1) (q_pg x i) = q_pg x (i + 1) := by
      unfold q_dgp
      rw [show 4 + 4 * i + 1 + 1 = 4 + 4 * i + 2 from rfl, show 4 + 4 * i + 1 + 2 = 4 + 4 * i + 3 from rfl, d1, d2, d3, h3, Int.toNat_natCast]
      rfl
    rw [q_go, if_pos ⟨by omega, by rw [tX_at X x (by omega), tx_0]⟩, if_pos hdg, hp, show 4 + 4 * i + 4 = 4 + 4 * (i + 1) by omega]
    exact go_eq X hx hJ t (i + 1) f (by omega) (by omega)
theorem rdt_eq (X : Nat → Int) {x : Int} (hx : 0 ≤ x) {J : Nat} (hJ : J ≤ 6) : q_rdt (q_tX X x (4 + 4 * J)) (4 + 4 * J) = (true, 4 + 4 * J, q_pg x J) := by
  have d1 : q_dgt (q_tX X x (4 + 4 * J)) (4 + 4 * J) 1 = x % 5 + 1 := tX_dgt X x (by omega) (by show x % 5 + 49 = _; omega) (by omega)
  have d2 : q_dgt (q_tX X x (4 + 4 * J)) (4 + 4 * J) (1 + 1) = x / 8 % 10 := tX_dgt X x (by omega) (by show x / 8 % 10 + 48 = _; rfl) (by omega)
  have d3 : q_dgt (q_tX X x (4 + 4 * J)) (4 + 4 * J) (1 + 2) = 0 := tX_dgt X x (by omega) (by show (48 : Int) = _; rfl) (by omega)
  unfold q_rdt
  rw [if_pos ⟨by omega, by rw [tX_at X x (by omega)]; rfl⟩, if_pos (by
    refine q_sn_3 ?_ ?_ ?_
    · rw [d1]; omega
    · rw [d1, d2]; omega
    · rw [d1, d3]; omega)]
  have e : q_sun q_new (q_sv (q_tX X x (4 + 4 * J)) (4 + 4 * J) 1) = q_pg x 0 := by
    unfold q_sv
    rw [d1, d2, d3]
    show q_up q_new 2 _ = q_up q_new 2 _
    rw [Int.add_zero]
  rw [e]
  exact go_eq X hx hJ J 0 12 (by omega) (by omega)
theorem err_ok (X : Nat → Int) {x : Int} (hx : 0 ≤ x) {J : Nat} (hJ : J ≤ 6) : q_err (q_tX X x (4 + 4 * J)) (4 + 4 * J) = -9 := by
  unfold q_err
  rw [rdt_eq X hx hJ]
  exact if_pos ⟨rfl, Nat.le_refl _⟩
theorem err_1 (X : Nat → Int) (x : Int) : q_err (q_tX X x 1) 1 = 1 := by
  have hd : q_dgt (q_tX X x 1) 1 1 = -9 := q_dgt_neg (fun h => absurd h.1 (by decide))
  have hs : q_sn (q_tX X x 1) 1 1 = 0 := q_sn_0 (by rw [hd]; omega)
  have e : q_rdt (q_tX X x 1) 1 = (false, 1 + 0, q_new) := by
    unfold q_rdt
    rw [if_pos ⟨by decide, by rw [tX_at X x (by decide)]; rfl⟩, hs, if_neg (by decide)]
  unfold q_err
  rw [e, if_neg (fun h => absurd h.1 (by decide))]
  rfl
/-- the state behind the beginning -/
def q_n0 (x : Int) : Nat := (x / 128 % 5 + 2).toNat
def q_s0 (x : Int) : gS := s_new (q_pg x (q_n0 x))
theorem n0_in (x : Int) : (q_n0 x : Int) = x / 128 % 5 + 2 ∧ 2 ≤ q_n0 x ∧ q_n0 x ≤ 6 := by unfold q_n0; omega
theorem ok_s0 {x : Int} (hx : 0 ≤ x) : s_ok (q_s0 x) := by
  have h := n0_in x
  obtain ⟨h1, h2, h3, -⟩ := pg_all hx (i := q_n0 x) (by omega)
  exact s_ok.new ⟨h1, h2, by omega⟩
