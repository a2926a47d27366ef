/-! FRAMES of the class's public methods -/
def q_b12 (M M1 : Nat → Nat → Int) : Prop := (∀ j : Nat, j < 12 → 0 ≤ M 12 j ∧ M 12 j ≤ 1) → ∀ j : Nat, j < 12 → 0 ≤ M1 12 j ∧ M1 12 j ≤ 1
/-- but for scratch -/
def q_cs (M M1 : Nat → Nat → Int) : Prop := (∀ a, (a < 8 ∨ 24 ≤ a) → (a < 155 ∨ 165 ≤ a) → a ≠ 167 → M1 a = M a) ∧ (∀ b : Nat, b ≠ 2 → M1 167 b = M 167 b) ∧ q_b12 M M1
theorem q_cs.rf (M : Nat → Nat → Int) : q_cs M M := ⟨fun _ _ _ _ => rfl, fun _ _ => rfl, fun h => h⟩
theorem q_cs.tr {M M1 M2 : Nat → Nat → Int} (h : q_cs M M1) (h2 : q_cs M1 M2) : q_cs M M2 := ⟨fun a h3 h4 h5 => (h2.1 a h3 h4 h5).trans (h.1 a h3 h4 h5), fun b hb => (h2.2.1 b hb).trans (h.2.1 b hb), fun hb => h2.2.2 (h.2.2 hb)⟩
theorem q_cs.off {M M1 M2 : Nat → Nat → Int} {lo hi : Nat} (h : q_cs M M1) (ho : q_off M1 M2 lo hi) (hr : (16 ≤ lo ∧ hi ≤ 24) ∨ (155 ≤ lo ∧ hi ≤ 165)) : q_cs M M2 :=
  ⟨fun a h3 h4 h5 => (ho a (by omega)).trans (h.1 a h3 h4 h5), fun b hb => by rw [ho 167 (by omega)]; exact h.2.1 b hb, fun hb j hj => by rw [ho 12 (by omega)]; exact h.2.2 hb j hj⟩
theorem q_cs.sup {M M1 M2 : Nat → Nat → Int} {R : Nat → Int} (h : q_cs M M1) (ho : q_off M1 M2 8 16) (ht : q_tr M2 8 R) : q_cs M M2 :=
  ⟨fun a h3 h4 h5 => (ho a (by omega)).trans (h.1 a h3 h4 h5), fun b hb => by rw [ho 167 (by omega)]; exact h.2.1 b hb, fun _ j hj => tr_bo ht hj⟩
theorem q_cs.rh {M M1 M2 : Nat → Nat → Int} (h : q_cs M M1) (h2 : q_rh M1 M2) : q_cs M M2 :=
  ⟨fun a h3 h4 h5 => (h2 a (by omega) (by omega)).trans (h.1 a h3 h4 h5), fun b hb => by rw [h2 167 (by omega) (by omega)]; exact h.2.1 b hb, fun hb j hj => by rw [h2 12 (by omega) (by omega)]; exact h.2.2 hb j hj⟩
theorem q_cs.fx {M M1 M2 : Nat → Nat → Int} (h : q_cs M M1) (h2 : q_fx M1 M2) (hb8 : ∀ j : Nat, j < 12 → 0 ≤ M2 12 j ∧ M2 12 j ≤ 1) : q_cs M M2 :=
  ⟨fun a h3 h4 h5 => (h2.1 a h5 (by omega)).trans (h.1 a h3 h4 h5), fun b hb => (h2.2 b hb).trans (h.2.1 b hb), fun _ => hb8⟩
theorem q_cs.at15 {M M1 M2 : Nat → Nat → Int} (h : q_cs M M1) (ho : ∀ a, a ≠ 15 → M2 a = M1 a) : q_cs M M2 :=
  ⟨fun a h3 h4 h5 => (ho a (by omega)).trans (h.1 a h3 h4 h5), fun b hb => by rw [ho 167 (by omega)]; exact h.2.1 b hb, fun hb j hj => by rw [ho 12 (by omega)]; exact h.2.2 hb j hj⟩
theorem q_cs.at164 {M M1 M2 : Nat → Nat → Int} (h : q_cs M M1) (ho : ∀ a, a ≠ 164 → M2 a = M1 a) : q_cs M M2 :=
  ⟨fun a h3 h4 h5 => (ho a (by omega)).trans (h.1 a h3 h4 h5), fun b hb => by rw [ho 167 (by omega)]; exact h.2.1 b hb, fun hb j hj => by rw [ho 12 (by omega)]; exact h.2.2 hb j hj⟩
theorem q_tr_keep {M M1 : Nat → Nat → Int} {t : Nat} {R : Nat → Int} (h : q_tr M t R) (e : ∀ a, t ≤ a → a < t + 8 → M1 a = M a) : q_tr M1 t R := by
  unfold q_tr
  rw [e t (by omega) (by omega), e (t + 1) (by omega) (by omega), e (t + 2) (by omega) (by omega), e (t + 3) (by omega) (by omega), e (t + 4) (by omega) (by omega), e (t + 5) (by omega) (by omega), e (t + 6) (by omega) (by omega), e (t + 7) (by omega) (by omega)]
  exact h
theorem q_cs.tr0 {M M1 : Nat → Nat → Int} {R : Nat → Int} (h : q_cs M M1) (hR : q_tr M 0 R) : q_tr M1 0 R := q_tr_keep hR (fun a _ h2 => h.1 a (by omega) (by omega) (by omega))
theorem q_cs.mem {M M1 : Nat → Nat → Int} (h : q_cs M M1) : M1 165 = M 165 := h.1 165 (by omega) (by omega) (by omega)
/-- an action: the state before is remembered, the state is anew -/
def q_act (M M1 : Nat → Nat → Int) (R R1 : Nat → Int) (o n : Nat) : Prop := q_tr M1 0 R1 ∧ M1 165 1 = (q_ro o n : Int) ∧ M1 165 2 = ((q_rn n + 1 : Nat) : Int) ∧ q_tr M1 (q_slot (q_ro o n) (q_rn n)) R ∧ (∀ a, 24 ≤ a → (a < 155 ∨ 166 ≤ a) → (a < q_slot (q_ro o n) (q_rn n) ∨ q_slot (q_ro o n) (q_rn n) + 8 ≤ a) → a ≠ 167 → M1 a = M a) ∧ (∀ b : Nat, b ≠ 2 → M1 167 b = M 167 b) ∧ q_b12 M M1
theorem q_act.mk {M Ma Mb Mc : Nat → Nat → Int} {R R1 : Nat → Int} {o n : Nat} (h0 : q_cs M Ma) (h1 : Mb 165 1 = (q_ro o n : Int)) (h2 : Mb 165 2 = ((q_rn n + 1 : Nat) : Int)) (h3 : q_tr Mb (q_slot (q_ro o n) (q_rn n)) R) (h4 : ∀ a, a ≠ 165 → (a < q_slot (q_ro o n) (q_rn n) ∨ q_slot (q_ro o n) (q_rn n) + 8 ≤ a) → Mb a = Ma a) (h5 : q_off Mb Mc 0 8) (h6 : q_tr Mc 0 R1) : q_act M Mc R R1 o n := by
  have hs := q_slot_in (q_ro o n) (q_rn n)
  refine ⟨h6, by rw [h5 165 (by omega)]; exact h1, by rw [h5 165 (by omega)]; exact h2, q_tr_keep h3 (fun a h7 h8 => h5 a (by omega)), fun a h7 h8 h9 hA => ?_, fun b hb => ?_, fun hb j hj => ?_⟩
  · rw [h5 a (by omega), h4 a (by omega) h9]
    exact h0.1 a (by omega) (by omega) hA
  · rw [h5 167 (by omega), h4 167 (by omega) (by omega)]
    exact h0.2.1 b hb
  · rw [h5 12 (by omega), h4 12 (by omega) (by omega)]
    exact h0.2.2 hb j hj
def q_lod (M M1 : Nat → Nat → Int) (P : Nat → Int) : Prop := q_tr M1 0 P ∧ M1 165 1 = M 165 1 ∧ M1 165 2 = 0 ∧ M1 154 0 = 0 ∧ M1 154 1 = 0 ∧ (∀ a, 24 ≤ a → a ≠ 154 → (a < 155 ∨ 166 ≤ a) → a ≠ 167 → M1 a = M a) ∧ (∀ b : Nat, b ≠ 2 → M1 167 b = M 167 b) ∧ q_b12 M M1
theorem q_lod.mk {M Ma Mb Mc : Nat → Nat → Int} {P : Nat → Int} (h0 : q_cs M Ma) (h1 : q_off Ma Mb 0 8) (h2 : q_tr Mb 0 P) (h3 : Mc = q_wr (q_wr (q_wr Mb 165 2 0) 154 0 0) 154 1 0) : q_lod M Mc P := by
  have e : ∀ a, a ≠ 165 → a ≠ 154 → Mc a = Mb a := fun a h4 h5 => by rw [h3, wr_off _ _ _ h5, wr_off _ _ _ h5, wr_off _ _ _ h4]
  refine ⟨q_tr_keep h2 (fun a h4 h5 => e a (by omega) (by omega)), ?_, ?_, ?_, ?_, fun a h4 h5 h6 h7 => ?_, fun b hb => ?_, fun hb j hj => ?_⟩
  · rw [h3, wr_off _ _ _ (by decide), wr_off _ _ _ (by decide), wr_ne _ _ _ (by decide), h1 165 (by omega), h0.mem]
  · rw [h3, wr_off _ _ _ (by decide), wr_off _ _ _ (by decide), wr_eq]
  · rw [h3, wr_ne _ _ _ (by decide), wr_eq]
  · rw [h3, wr_eq]
  · rw [e a (by omega) h5, h1 a (by omega)]; exact h0.1 a (by omega) (by omega) h7
  · rw [e 167 (by omega) (by omega), h1 167 (by omega)]; exact h0.2.1 b hb
  · rw [e 12 (by omega) (by omega), h1 12 (by omega)]; exact h0.2.2 hb j hj
/-! WHAT the public methods answer -/
def q_abt (R : Nat → Int) (a : Int) : Int := if a = 0 then q_nd R else if a = 1 then q_nwait R else if a = 2 then q_nrun R else if a = 3 then q_ngone R else if a ≤ 10 then R (a - 4).toNat else R (a - 3).toNat
def q_dga (R : Nat → Int) (i : Nat) (b : Int) : Int := if b = 4 then q_sc R i else if b = 6 then q_pl R i else if b = 7 then q_pio R (i : Int) else if b = 5 then q_fr R i else R (14 + 11 * i + b.toNat)
/-- the first of n that P holds of -/
def q_fst (P : Nat → Bool) : Nat → Int | 0 => -9 | n + 1 => if q_fst P n = -9 then (if P n = true then (n : Int) else -9) else q_fst P n
theorem q_fst_no {P : Nat → Bool} : ∀ {n : Nat}, (∀ j, j < n → ¬ P j = true) → q_fst P n = -9
  | 0, _ => rfl
  | n + 1, h => by rw [q_fst, if_pos (q_fst_no (fun j hj => h j (by omega))), if_neg (h n (by omega))]
theorem q_fst_hit {P : Nat → Bool} {k : Nat} (hk : P k = true) (hno : ∀ j, j < k → ¬ P j = true) : ∀ {n : Nat}, k < n → q_fst P n = (k : Int)
  | 0, h => absurd h (Nat.not_lt_zero _)
  | n + 1, h => by
    rw [q_fst]
    by_cases e : k = n
    · subst e; rw [if_pos (q_fst_no hno), if_pos hk]
    · have ih := q_fst_hit hk hno (show k < n by omega)
      rw [ih, if_neg (by omega)]
def q_std (R : Nat → Int) (a : Int) : Int := q_fst (fun i => decide (q_hs R i = 1 ∧ q_ahn R i = a)) (q_nd R).toNat
/-- the greatest number from w down that P holds of -/
def q_dsc (P : Nat → Bool) : Nat → Int | 0 => if P 0 = true then 0 else -9 | k + 1 => if P (k + 1) = true then ((k + 1 : Nat) : Int) else q_dsc P k
theorem q_dsc_yes {P : Nat → Bool} {k : Nat} (h : P k = true) : q_dsc P k = (k : Int) := by
  cases k with
  | zero => rw [q_dsc, if_pos h]; rfl
  | succ k => rw [q_dsc, if_pos h]
theorem q_dsc_step {P : Nat → Bool} {k : Nat} (h : ¬ P (k + 1) = true) : q_dsc P (k + 1) = q_dsc P k := by rw [q_dsc, if_neg h]
theorem q_dsc_zero {P : Nat → Bool} (h : ¬ P 0 = true) : q_dsc P 0 = -9 := by rw [q_dsc, if_neg h]
/-- how much a dog may lose to take a place at least -/
def q_ml (R : Nat → Int) (i : Nat) (b : Int) : Int := if q_torun R i = true then q_dsc (fun x => decide (q_ab R (q_sc (q_nr R i (fun _ => 0)) i - (x : Int)) ≤ b - 1)) (q_tw R i).toNat else -9
theorem q_err_ok {T : Nat → Int} {n : Nat} (h : q_err T n = -9) : (q_rdt T n).1 = true := by
  unfold q_err at h
  split at h
  · next h1 => exact h1.1
  · omega
theorem q_dn_all {R : Nat → Int} {d b : Int} {n : Nat} (h : q_dn R d (-9) n = false) : q_dn R d b n = false := q_dn_no (fun i hi _ => q_dn_of h i hi (by omega))
theorem q_dn_own {R : Nat → Int} {d : Int} {i : Nat} (hI : q_inv R) (hi : (i : Int) < q_nd R) (hd : q_dr R i = d) : q_dn R d (i : Int) (q_nd R).toNat = false :=
  q_dn_no (fun j hj hne h9 => hne (by have h8 := hI.2.2.2.2.2.2 j i (by omega) hi (h9.trans hd.symm); rw [h8]))
