/-! the reference's methods: more frames, more of what they answer -/
theorem q_mq.fr {M Ma Mb : Nat → Nat → Int} {v : Int} (h : q_fm M Ma) (e : Mb = q_wr Ma 169 0 v) : q_mq v M Mb := by
  subst e
  exact ⟨wr_eq _ _ _ _, fun a h1 h2 _ _ => (wr_off _ _ _ h1).trans (h.1 a h1 h2), (wr_ne _ _ _ (by decide)).trans (h.2 2 (by decide)), (wr_ne _ _ _ (by decide)).trans (h.2 8 (by decide))⟩
def q_mld (M M1 : Nat → Nat → Int) : Prop := M1 169 2 = M 169 2 ∧ M1 169 8 = 0 ∧ M1 176 0 = 0 ∧ M1 176 1 = 0 ∧ ∀ a, a ≠ 169 → a ≠ 171 → a ≠ 172 → a ≠ 173 → a ≠ 176 → a ≠ 177 → M1 a = M a
theorem q_mld.mk {M Ma Mb Mc : Nat → Nat → Int} {P : Nat → Int} {c : Int} (h : q_mq c M Ma) (h1 : Mb = q_set Ma 172 P) (h2 : Mc = q_wr (q_wr (q_wr Mb 169 8 0) 176 0 0) 176 1 0) : (q_mld M Mc ∧ Mc 172 = P) ∧ Mc 169 0 = c := by
  have e : ∀ a, a ≠ 169 → a ≠ 176 → Mc a = Mb a := fun a h4 h5 => by rw [h2, wr_off _ _ _ h5, wr_off _ _ _ h5, wr_off _ _ _ h4]
  have e9 : ∀ b : Nat, b ≠ 8 → Mc 169 b = Ma 169 b := fun b hb => by rw [h2, wr_off _ _ _ (by decide), wr_off _ _ _ (by decide), wr_ne _ _ _ hb, h1, q_set_off _ _ (by decide)]
  refine ⟨⟨⟨(e9 2 (by decide)).trans h.2.2.1, ?_, ?_, ?_, fun a g1 g2 g3 g4 g5 g6 => ?_⟩, ?_⟩, (e9 0 (by decide)).trans h.1⟩
  · rw [h2, wr_off _ _ _ (by decide), wr_off _ _ _ (by decide), wr_eq]
  · rw [h2, wr_ne _ _ _ (by decide), wr_eq]
  · rw [h2, wr_eq]
  · rw [e a g1 g5, h1, q_set_off _ _ g3]; exact h.2.1 a g1 g2 g4 g6
  · rw [e 172 (by decide) (by decide), h1, q_set_at]
theorem q_mun {M Ma Mb Mc : Nat → Nat → Int} {v : Int} {t : Nat} (ha : Ma = q_wr M 169 0 0) (hb : Mb = q_wr Ma 169 8 v) (hc : Mc = q_set Mb 172 (fun k => Mb 174 (t + k))) : (Mc 172 = (fun k => M 174 (t + k)) ∧ Mc 169 8 = v ∧ Mc 169 2 = M 169 2 ∧ ∀ a, a ≠ 169 → a ≠ 172 → Mc a = M a) ∧ Mc 169 0 = 0 := by
  have e : ∀ a, a ≠ 169 → Mb a = M a := fun a h => by rw [hb, wr_off _ _ _ h, ha, wr_off _ _ _ h]
  refine ⟨⟨?_, ?_, ?_, fun a h1 h2 => ?_⟩, ?_⟩
  · rw [hc, q_set_at, e 174 (by decide)]
  · rw [hc, q_set_off _ _ (by decide), hb, wr_eq]
  · rw [hc, q_set_off _ _ (by decide), hb, wr_ne _ _ _ (by decide), ha, wr_ne _ _ _ (by decide)]
  · rw [hc, q_set_off _ _ h2]; exact e a h1
  · rw [hc, q_set_off _ _ (by decide), hb, wr_ne _ _ _ (by decide), ha, wr_eq]
theorem q_mrs {M Ma Mb Mc : Nat → Nat → Int} {P : Nat → Int} (ha : Ma = q_wr M 169 0 0) (hb : Mb = q_set Ma 172 P) (hc : Mc = q_wr Mb 169 8 0) : (Mc 172 = P ∧ Mc 169 8 = 0 ∧ Mc 169 2 = M 169 2 ∧ ∀ a, a ≠ 169 → a ≠ 172 → Mc a = M a) ∧ Mc 169 0 = 0 := by
  refine ⟨⟨?_, ?_, ?_, fun a h1 h2 => ?_⟩, ?_⟩
  · rw [hc, wr_off _ _ _ (by decide), hb, q_set_at]
  · rw [hc, wr_eq]
  · rw [hc, wr_ne _ _ _ (by decide), hb, q_set_off _ _ (by decide), ha, wr_ne _ _ _ (by decide)]
  · rw [hc, wr_off _ _ _ h1, hb, q_set_off _ _ h2, ha, wr_off _ _ _ h1]
  · rw [hc, wr_ne _ _ _ (by decide), hb, q_set_off _ _ (by decide), ha, wr_eq]
theorem q_msv {M Ma Mb Mc : Nat → Nat → Int} {j : Nat} (ha : Ma = q_wr M 169 0 0) (hb : Mb = q_wr Ma 176 j 1) (h1 : ∀ k : Nat, k < 146 → Mc 175 (146 * j + k) = Mb 172 (0 + k)) (h2 : ∀ b : Nat, (b < 146 * j ∨ 146 * j + 146 ≤ b) → Mc 175 b = Mb 175 b) (h3 : ∀ a, a ≠ 175 → Mc a = Mb a) : ((∀ k : Nat, k < 146 → Mc 175 (146 * j + k) = M 172 k) ∧ (∀ b : Nat, (b < 146 * j ∨ 146 * j + 146 ≤ b) → Mc 175 b = M 175 b) ∧ Mc 176 j = 1 ∧ (∀ b : Nat, b ≠ j → Mc 176 b = M 176 b) ∧ Mc 169 2 = M 169 2 ∧ Mc 169 8 = M 169 8 ∧ ∀ a, a ≠ 169 → a ≠ 175 → a ≠ 176 → Mc a = M a) ∧ Mc 169 0 = 0 := by
  have e : ∀ a, a ≠ 169 → a ≠ 176 → Mb a = M a := fun a g1 g2 => by rw [hb, wr_off _ _ _ g2, ha, wr_off _ _ _ g1]
  have e2 : ∀ b : Nat, b ≠ 0 → Mc 169 b = M 169 b := fun b hb9 => by rw [h3 169 (by decide), hb, wr_off _ _ _ (by decide), ha, wr_ne _ _ _ hb9]
  refine ⟨⟨fun k hk => ?_, fun b hb9 => ?_, ?_, fun b hb9 => ?_, e2 2 (by decide), e2 8 (by decide), fun a g1 g2 g3 => ?_⟩, ?_⟩
  · rw [h1 k hk, e 172 (by decide) (by decide), Nat.zero_add]
  · rw [h2 b hb9, e 175 (by decide) (by decide)]
  · rw [h3 176 (by decide), hb, wr_eq]
  · rw [h3 176 (by decide), hb, wr_ne _ _ _ hb9, ha, wr_off _ _ _ (by decide)]
  · rw [h3 a g2]; exact e a g1 g3
  · rw [h3 169 (by decide), hb, wr_off _ _ _ (by decide), ha, wr_eq]
/-- a dog that waits for its first run has none -/
def q_in2 (R : Nat → Int) : Prop := ∀ i : Nat, (i : Int) < q_nd R → q_sa R i = 0 → q_hs R i = 0
theorem q_lo_nr {R : Nat → Int} {i p : Nat} (hp : p < 6) : q_lo (q_nr R i (fun _ => 0)) i p = if q_fp R i ≤ (p : Int) then 0 else q_ls R i p := by
  unfold q_lo
  rw [q_nr_fr, if_pos rfl, if_neg (by omega), q_nr_ls _ _ _ _ _ hp]
  by_cases h : q_fp R i ≤ (p : Int)
  · rw [if_pos ⟨rfl, h⟩, if_pos h]
  · rw [if_neg (fun h9 => h h9.2), if_neg h]
theorem q_best_sum {R : Nat → Int} {i : Nat} (h : q_sa R i = 2) : ∀ n : Nat, n ≤ 6 → q_sm (q_lo (q_nr R i (fun _ => 0)) i) n + (q_sm q_wth n - q_sm q_wth (min n (q_fp R i).toNat)) = q_sm (q_lo R i) n
  | 0, _ => by rw [q_sm, q_sm, q_sm, Nat.zero_min]; rfl
  | n + 1, hn => by
    have ih := q_best_sum h n (by omega)
    have hf : q_fp R i = q_fr R i := by unfold q_fp; rw [if_pos h]
    have h1 := q_lo_nr (R := R) (i := i) (p := n) (by omega)
    rw [q_sm, q_sm, q_sm, h1]
    have h2 : q_lo R i n = if q_fp R i ≤ (n : Int) then q_wth n else q_ls R i n := by unfold q_lo; rw [hf]
    rw [h2]
    by_cases h3 : q_fp R i ≤ (n : Int)
    · rw [if_pos h3, if_pos h3, show min (n + 1) (q_fp R i).toNat = min n (q_fp R i).toNat by omega]; omega
    · rw [if_neg h3, if_neg h3, show min (n + 1) (q_fp R i).toNat = n + 1 by omega, q_sm]
      rw [show min n (q_fp R i).toNat = n by omega] at ih
      omega
theorem q_best_sum0 {R : Nat → Int} {i : Nat} (h : q_fp R i = 0) : ∀ n : Nat, n ≤ 6 → q_sm (q_lo (q_nr R i (fun _ => 0)) i) n = 0
  | 0, _ => rfl
  | n + 1, hn => by rw [q_sm, q_best_sum0 h n (by omega), q_lo_nr (by omega), if_pos (by omega)]; rfl
theorem q_best_eq {R : Nat → Int} (hI : q_inv R) (h2 : q_in2 R) {i : Nat} (hi : (i : Int) < q_nd R) (ht : q_torun R i = true) : q_sc (q_nr R i (fun _ => 0)) i = q_sc R i + q_tw R i := by
  have ht := of_decide_eq_true ht
  have hd := dok hI i hi
  have hs : q_hs (q_nr R i (fun _ => 0)) i = 1 := by rw [q_nr_hs, if_pos rfl]
  rw [show q_sc (q_nr R i (fun _ => 0)) i = 100 - q_sm (q_lo (q_nr R i (fun _ => 0)) i) 6 from by unfold q_sc; rw [if_pos hs]]
  unfold q_tw
  have hw := wth6
  rcases ht with h0 | h0
  · have hf : q_fp R i = 0 := by unfold q_fp; rw [if_neg (by omega)]
    have h3 := h2 i hi h0
    rw [q_best_sum0 hf 6 (Nat.le_refl 6), hf]
    unfold q_sc
    rw [if_neg (by omega)]
    have h9 : q_sm q_wth (0 : Int).toNat = 0 := rfl
    omega
  · have h3 := q_best_sum h0 6 (Nat.le_refl 6)
    have hf : q_fp R i = q_fr R i := by unfold q_fp; rw [if_pos h0]
    have h4 : min 6 (q_fp R i).toNat = (q_fp R i).toNat := by omega
    rw [h4] at h3
    unfold q_sc
    rw [if_pos (by omega)]
    omega
theorem q_ml_cnt {R : Nat → Int} {i : Nat} {v : Int} (h : q_sc R i ≤ v) : q_ct (fun o => decide ((o : Int) ≠ (i : Int)) && decide (v < q_sc R o)) (q_nd R).toNat = q_ab R v := by
  unfold q_ab
  refine q_ct_congr (fun k _ => ?_)
  by_cases e : k = i
  · subst e
    rw [decide_eq_false (show ¬ v < q_sc R k by omega), Bool.and_false]
  · rw [decide_eq_true (show (k : Int) ≠ (i : Int) by omega), Bool.true_and]
/-- groups of four digits -/
theorem q_r4_p4 {v : Int} (h : 0 ≤ v) : ∀ j, j ≤ 4 → q_r4 v j = v / q_p4 j := by
  have e0 : q_p4 0 = 1 := rfl
  have e1 : q_p4 1 = 10000 := rfl
  have e2 : q_p4 2 = 100000000 := rfl
  have e3 : q_p4 3 = 1000000000000 := rfl
  have e4 : q_p4 4 = 10000000000000000 := rfl
  have f0 : q_r4 v 0 = v := rfl
  have f1 : q_r4 v 1 = q_r4 v 0 / 10000 := rfl
  have f2 : q_r4 v 2 = q_r4 v 1 / 10000 := rfl
  have f3 : q_r4 v 3 = q_r4 v 2 / 10000 := rfl
  have f4 : q_r4 v 4 = q_r4 v 3 / 10000 := rfl
  intro j hj
  rcases (show j = 0 ∨ j = 1 ∨ j = 2 ∨ j = 3 ∨ j = 4 by omega) with rfl | rfl | rfl | rfl | rfl
  · rw [e0]; omega
  · rw [e1]; omega
  · rw [e2]; omega
  · rw [e3]; omega
  · rw [e4]; omega
theorem q_p4_step (j : Nat) (hj : j < 4) : q_p4 (j + 1) / 10000 = q_p4 j ∧ 0 < q_p4 j ∧ q_p4 (j + 1) ≤ 10000000000000000 := by
  rcases (show j = 0 ∨ j = 1 ∨ j = 2 ∨ j = 3 by omega) with rfl | rfl | rfl | rfl <;> decide
theorem q_grp {v : Int} (h : 0 ≤ v) (j : Nat) (hj : j < 4) : (v % q_p4 (j + 1)) / q_p4 j = q_r4 v j % 10000 ∧ (v % q_p4 (j + 1)) % q_p4 j = v % q_p4 j ∧ 0 ≤ v % q_p4 (j + 1) ∧ v % q_p4 (j + 1) < q_p4 (j + 1) := by
  rw [q_r4_p4 h j (by omega)]
  rcases (show j = 0 ∨ j = 1 ∨ j = 2 ∨ j = 3 by omega) with rfl | rfl | rfl | rfl
  · show (v % 10000) / 1 = v / 1 % 10000 ∧ v % 10000 % 1 = v % 1 ∧ 0 ≤ v % 10000 ∧ v % 10000 < 10000; omega
  · show (v % 100000000) / 10000 = v / 10000 % 10000 ∧ v % 100000000 % 10000 = v % 10000 ∧ 0 ≤ v % 100000000 ∧ v % 100000000 < 100000000; omega
  · show (v % 1000000000000) / 100000000 = v / 100000000 % 10000 ∧ v % 1000000000000 % 100000000 = v % 100000000 ∧ 0 ≤ v % 1000000000000 ∧ v % 1000000000000 < 1000000000000; omega
  · show (v % 10000000000000000) / 1000000000000 = v / 1000000000000 % 10000 ∧ v % 10000000000000000 % 1000000000000 = v % 1000000000000 ∧ 0 ≤ v % 10000000000000000 ∧ v % 10000000000000000 < 10000000000000000; omega
