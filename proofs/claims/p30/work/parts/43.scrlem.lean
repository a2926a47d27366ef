/-! SCRIPTS of one command and of two -/
theorem ff1 {R : Nat → Int} {v : Int} (h : 0 ≤ v ∧ v < 10000) : q_ff (q_cmd v 1) R 1 = if q_doz R (v / 1000) (v % 1000) = true then -9 else 0 := by
  have e : q_cmd v 1 0 = v := by show v % 10000 = v; omega
  show (if (-9 : Int) = -9 then (if q_okc (q_cmd v 1) R 0 = true then -9 else ((0 : Nat) : Int)) else -9) = _
  rw [if_pos rfl]
  unfold q_okc
  rw [e]
  rfl
theorem ff2 {R : Nat → Int} {a b : Int} (ha : 0 ≤ a ∧ a < 10000) (hb : 0 ≤ b ∧ b < 10000) : q_ff (q_cmd (10000 * a + b) 2) R 2 = if q_doz R (a / 1000) (a % 1000) = true then (if q_doz (q_dop R (a / 1000) (a % 1000)) (b / 1000) (b % 1000) = true then -9 else 1) else 0 := by
  have e0 : q_cmd (10000 * a + b) 2 0 = a := by show (10000 * a + b) / 10000 % 10000 = a; omega
  have e1 : q_cmd (10000 * a + b) 2 1 = b := by show (10000 * a + b) % 10000 = b; omega
  have k0 : q_okc (q_cmd (10000 * a + b) 2) R 0 = q_doz R (a / 1000) (a % 1000) := by unfold q_okc; rw [e0]; rfl
  have k1 : q_okc (q_cmd (10000 * a + b) 2) R 1 = q_doz (q_dop R (a / 1000) (a % 1000)) (b / 1000) (b % 1000) := by
    unfold q_okc; rw [e1]
    show q_doz (q_dop R (q_cmd (10000 * a + b) 2 0 / 1000) (q_cmd (10000 * a + b) 2 0 % 1000)) _ _ = _
    rw [e0]
  by_cases h0 : q_doz R (a / 1000) (a % 1000) = true
  · rw [if_pos h0]
    by_cases h1 : q_doz (q_dop R (a / 1000) (a % 1000)) (b / 1000) (b % 1000) = true
    · rw [if_pos h1]
      exact q_ff_no (fun j hj => by rcases (show j = 0 ∨ j = 1 by omega) with rfl | rfl; exact k0.trans h0; exact k1.trans h1)
    · rw [if_neg h1]
      exact q_ff_hit (k := 1) (fun h9 => h1 (k1.symm.trans h9)) (fun j hj => by rw [show j = 0 by omega]; exact k0.trans h0) (by omega)
  · rw [if_neg h0]
    exact q_ff_hit (k := 0) (fun h9 => h0 (k0.symm.trans h9)) (fun j hj => absurd hj (Nat.not_lt_zero _)) (by omega)
theorem sc1 (σ : gS) {h t v : Int} (hh : 0 ≤ h ∧ h ≤ 9) (ht : 0 ≤ t ∧ t < 1000) (hv : v = 1000 * h + t) : a_script σ 1 v = if q_doz σ.1 h t = true then -9 else 0 := by
  have hc : cd_script σ 1 v = 0 := by unfold cd_script; exact if_pos ⟨by omega, by omega, by show v < 10000 * 1; omega⟩
  rw [ax_script_0 hc]
  show q_ff (q_cmd v 1) σ.1 1 = _
  rw [ff1 (by omega), show v / 1000 = h by omega, show v % 1000 = t by omega]
theorem sc2 (σ : gS) {h t h2 t2 v : Int} (hh : 0 ≤ h ∧ h ≤ 9) (ht : 0 ≤ t ∧ t < 1000) (hh2 : 0 ≤ h2 ∧ h2 ≤ 9) (ht2 : 0 ≤ t2 ∧ t2 < 1000) (hv : v = 10000 * (1000 * h + t) + (1000 * h2 + t2)) : a_script σ 2 v = if q_doz σ.1 h t = true then (if q_doz (q_dop σ.1 h t) h2 t2 = true then -9 else 1) else 0 := by
  have hc : cd_script σ 2 v = 0 := by unfold cd_script; exact if_pos ⟨by omega, by omega, by show v < 10000 * (10000 * 1); omega⟩
  rw [ax_script_0 hc]
  show q_ff (q_cmd v 2) σ.1 2 = _
  rw [hv, ff2 (by omega) (by omega), show (1000 * h + t) / 1000 = h by omega, show (1000 * h + t) % 1000 = t by omega, show (1000 * h2 + t2) / 1000 = h2 by omega, show (1000 * h2 + t2) % 1000 = t2 by omega]
def q_yn (b : Bool) : Int := if b = true then -9 else 0
theorem yn {P : Prop} [Decidable P] : (q_yn (decide P) = -9 ∧ P) ∨ (q_yn (decide P) = 0 ∧ ¬ P) := by
  unfold q_yn
  by_cases h : P
  · exact Or.inl ⟨by rw [decide_eq_true h]; rfl, h⟩
  · exact Or.inr ⟨by rw [decide_eq_false h]; rfl, h⟩
def q_y2 (b : Bool) : Int := if b = true then 0 else 1
theorem y2 {P : Prop} [Decidable P] : (q_y2 (decide P) = 0 ∧ P) ∨ (q_y2 (decide P) = 1 ∧ ¬ P) := by
  unfold q_y2
  by_cases h : P
  · exact Or.inl ⟨by rw [decide_eq_true h]; rfl, h⟩
  · exact Or.inr ⟨by rw [decide_eq_false h]; rfl, h⟩
theorem ob_in (R : Nat → Int) : 0 ≤ q_ob R ∧ q_ob R ≤ 2 := by unfold q_ob; (repeat' split) <;> omega
theorem nwait_in {R : Nat → Int} (h : q_inv R) : 0 ≤ q_nwait R ∧ q_nwait R ≤ 12 := by
  have h1 := ct_in (q_torun R) (q_nd R).toNat
  have h2 := h.1
  unfold q_nwait; omega
theorem scr_wait {σ : gS} (h : q_inv σ.1) {v : Int} (hv : v = q_nwait σ.1 + 8000) : a_script σ 1 v = -9 := by
  have h1 := nwait_in h
  rw [sc1 σ (h := 8) (t := q_nwait σ.1) (by omega) (by omega) (by omega)]
  refine if_pos ?_
  unfold q_doz
  rw [if_neg (by decide), if_neg (by decide), if_neg (by decide), if_neg (by decide), if_neg (by decide), if_neg (by decide), if_neg (by decide), if_pos rfl]
  exact decide_eq_true ⟨by omega, by omega⟩
theorem doz9 (R : Nat → Int) (t : Int) : q_doz R 9 t = decide (t < 10 ∧ q_ob R = t) := by
  unfold q_doz
  rw [if_neg (by decide), if_neg (by decide), if_neg (by decide), if_neg (by decide), if_neg (by decide), if_neg (by decide), if_neg (by decide), if_neg (by decide), if_pos rfl]
theorem scr_why {σ : gS} {v : Int} (hv : v = q_ob σ.1 + 9000) : a_script σ 1 v = -9 := by
  have h1 := ob_in σ.1
  rw [sc1 σ (h := 9) (t := q_ob σ.1) (by omega) (by omega) (by omega), doz9]
  exact if_pos (decide_eq_true ⟨by omega, rfl⟩)
theorem scr_min {σ : gS} (h : q_inv σ.1) {v : Int} (hv : v = 10000 * (σ.1 1) + (q_ob σ.1 + 1) % 3 + 70009000) : a_script σ 2 v = 1 := by
  have h1 := ob_in σ.1
  have h4 := h.2.2.2.1
  have h5 := h.2.2.2.2.1
  rw [sc2 σ (h := 7) (t := σ.1 1) (h2 := 9) (t2 := (q_ob σ.1 + 1) % 3) (by omega) (by omega) (by omega) (by omega) (by omega)]
  have d7 : q_doz σ.1 7 (σ.1 1) = true := by
    unfold q_doz
    rw [if_neg (by decide), if_neg (by decide), if_neg (by decide), if_neg (by decide), if_neg (by decide), if_neg (by decide), if_pos rfl]
    exact decide_eq_true (Int.le_refl _)
  rw [if_pos d7, show q_dop σ.1 7 (σ.1 1) = σ.1 from rfl, doz9]
  refine if_neg (fun h9 => ?_)
  have h9 := of_decide_eq_true h9
  omega
/-- a dog by a number -/
def q_xi (R : Nat → Int) (x : Int) : Nat := (x % q_nd R).toNat
theorem xi_in {R : Nat → Int} (h : 1 ≤ q_nd R) (x : Int) : x % q_nd R = (q_xi R x : Int) ∧ (q_xi R x : Int) < q_nd R := by
  have h1 := Int.emod_nonneg x (b := q_nd R) (by omega)
  have h2 := Int.emod_lt_of_pos x (b := q_nd R) (by omega)
  unfold q_xi; omega
theorem scr_place {σ : gS} (h : q_inv σ.1) {i : Nat} {c v : Int} (hi : (i : Int) < q_nd σ.1) (hc : 0 ≤ c ∧ c < 9) (hv : v = 100 * c + (i : Int) + 6100) : a_script σ 1 v = q_yn (decide (q_pl σ.1 i = c + 1)) := by
  have h0 := h.1
  rw [sc1 σ (h := 6) (t := 100 * c + (i : Int) + 100) (by omega) (by omega) (by omega), q_doz_6, show (100 * c + (i : Int) + 100) % 100 = (i : Int) by omega, show (100 * c + (i : Int) + 100) / 100 = c + 1 by omega, Int.toNat_natCast]
  unfold q_yn
  by_cases hp : q_pl σ.1 i = c + 1
  · rw [if_pos (decide_eq_true ⟨hi, by omega, hp⟩), if_pos (decide_eq_true hp)]
  · rw [if_neg (fun h9 => hp (of_decide_eq_true h9).2.2), if_neg (fun h9 => hp (of_decide_eq_true h9))]
theorem scr_brk {σ : gS} (h : q_inv σ.1) {i : Nat} {c v : Int} (hi : (i : Int) < q_nd σ.1) (hc : 0 ≤ c ∧ c < 6) (hv : v = 100 * c + (i : Int) + 3000) : a_script σ 1 v = q_yn (decide (q_sa σ.1 i = 1)) := by
  have h0 := h.1
  rw [sc1 σ (h := 3) (t := 100 * c + (i : Int)) (by omega) (by omega) (by omega), q_doz_3, show (100 * c + (i : Int)) % 100 = (i : Int) by omega, show (100 * c + (i : Int)) / 100 = c by omega, Int.toNat_natCast]
  unfold q_yn
  by_cases hp : q_sa σ.1 i = 1
  · rw [if_pos (decide_eq_true ⟨by omega, hi, hp⟩), if_pos (decide_eq_true hp)]
  · rw [if_neg (fun h9 => hp (of_decide_eq_true h9).2.2), if_neg (fun h9 => hp (of_decide_eq_true h9))]
theorem scr_gon {σ : gS} (h : q_inv σ.1) {i : Nat} {v : Int} (hi : (i : Int) < q_nd σ.1) (hv : v = 10001 * (i : Int) + 20002000) : a_script σ 2 v = q_y2 (decide (q_sa σ.1 i = 3)) := by
  have h0 := h.1
  rw [sc2 σ (h := 2) (t := (i : Int)) (h2 := 2) (t2 := (i : Int)) (by omega) (by omega) (by omega) (by omega) (by omega), q_doz_2, q_doz_2, show (i : Int) % 100 = (i : Int) by omega, show (i : Int) / 100 = 0 by omega, Int.toNat_natCast]
  have hg : q_dop σ.1 2 (i : Int) = q_gon σ.1 i := by unfold q_dop; rw [if_neg (by decide), if_pos rfl, show (i : Int) % 100 = (i : Int) by omega, Int.toNat_natCast]
  rw [hg, q_gon_sa, if_pos rfl]
  unfold q_y2
  by_cases hp : q_sa σ.1 i = 3
  · rw [if_neg (fun h9 => (of_decide_eq_true h9).2.2 hp), if_pos (decide_eq_true hp)]
  · rw [if_pos (decide_eq_true ⟨rfl, hi, hp⟩), if_neg (fun h9 => (of_decide_eq_true h9).2.2 rfl), if_neg (fun h9 => hp (of_decide_eq_true h9))]
theorem scr_day {σ : gS} (h : q_inv σ.1) {d v : Int} (hd : 60 ≤ d ∧ d ≤ 600) (hv : v = 10000 * d + (if q_nwait σ.1 = 0 then 1 else 0) + 40009000) : a_script σ 2 v = -9 := by
  have h0 := nwait_in h
  have hb : 0 ≤ (if q_nwait σ.1 = 0 then (1 : Int) else 0) ∧ (if q_nwait σ.1 = 0 then (1 : Int) else 0) ≤ 1 := by split <;> omega
  rw [sc2 σ (h := 4) (t := d) (h2 := 9) (t2 := (if q_nwait σ.1 = 0 then 1 else 0)) (by omega) (by omega) (by omega) (by omega) (by omega), q_doz_4, if_pos (decide_eq_true hd)]
  have hg : q_dop σ.1 4 d = q_nxt σ.1 d := rfl
  have hw : q_nwait (q_nxt σ.1 d) = q_nwait σ.1 := by
    unfold q_nwait
    rw [q_nxt_nd]
    exact ct_congr (fun i hi => by unfold q_torun; rw [q_nxt_sa])
  have ho : q_ob (q_nxt σ.1 d) = if q_nwait σ.1 = 0 then 1 else 0 := by
    unfold q_ob
    rw [hw, q_nxt_s1, q_nxt_s2, if_neg (show ¬ d ≤ 0 by omega)]
  rw [hg, doz9, ho]
  exact if_pos (decide_eq_true ⟨by omega, rfl⟩)
