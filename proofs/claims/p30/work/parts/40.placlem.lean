/-! PLACES: better is a strict weak order, ahead a strict total one; the standing is its row -/
section GK
variable {p : Program} {l : Launch} {e : Env} {R : Room} {s : State} {m : MethodId} {args : Array Value} {below : List Frame} {meth : Method} {c : Code} {H : Heap} {locs : List Loc} {cells slots : Nat} {Q : State → Prop}
variable {cc : ByteArray} {pc : Nat} {ls : Array Slot} {rest st0 As av : List Value} {G : gG} {M0 M : Nat → Nat → Int} {K : gP}
variable {y : MethodName} {bytes : ByteArray} {maxL nL n index mc : Nat} {ret : Option FieldType} {ws ws' Ts : List Cond} {rm : Room} {own C host : String} {b : Nat}
theorem g_cK {postM : (Nat → Nat → Int) → Int → (Nat → Nat → Int) → Prop} (S : CallFix p m c cc nL s args Ts own) (hm : gdm G b) {ci : Nat} {fs : (Nat → Int) → List Value} {q : vw_C} (he : ∀ f, gE G f b = .inr (ci, fs f)) (hc : vwCl[ci]? = some q) (hC : q.1 = C) (hM : ∀ M, K M → gMi l y ws rm G M (.ref (gad G b) :: As) (postM M)) (cw : CallW R s args own C index y bytes maxL ret ws rm 0 0 n) (hG : gKH G M0 K s H locs) (hn : As.length = n) (hsize : ls.size = nL) (hstack : st0 = As.reverse ++ .ref (gad G b) :: rest) (hroom : (rest.map fun v => v.category).sum ≤ 8) (hdg : decode cc pc = .ok (.invokevirtual index, 3)) (hf : cells + 0 ≤ R.cells ∧ slots + 0 ≤ R.slots)
    (hk : ∀ M z M1, K M → postM M z M1 → q_bd M0 M → K M1 ∧ q_bd M0 M1)
    (kk : ∀ (z : Int) (H1 : Heap) (locs1 : List Loc), (∃ M M1, K M ∧ postM M z M1) → gKH G M0 K s H1 locs1 → W p l e R s m args below meth c H1 locs1 cells slots Q (F0 m (pc + 3) ls (.int (iZ z) :: rest))) : W p l e R s m args below meth c H locs cells slots Q (F0 m pc ls st0) := by
  obtain ⟨M, h1, h2, h3, h4⟩ := hG
  have hr : ∃ cell : Cell, H[gad G b]? = some cell ∧ cell.vm.isStatics = false ∧ s.vm.findClass C = some cell.cls := by rw [← hC]; exact g_recv h1 hm (he _) hc
  refine g_callV S (hM M h3) cw h1 hr hn hsize hstack hroom hdg hf (fun z M1 H1 locs1 hp hG1 => ?_)
  exact kk z H1 locs1 ⟨M, M1, h3, hp⟩ ⟨M1, hG1, h2, hk M z M1 h3 hp h4⟩
end GK
theorem ti_all (R : Nat → Int) (a b c : Nat) : ∀ (n : Nat), q_ti R a a n = false ∧ (q_ti R a b n = true → q_ti R b a n = false) ∧ (q_ti R a b n = true → q_ti R b c n = true → q_ti R a c n = true) ∧ (q_ti R a c n = true → q_ti R a b n = true ∨ q_ti R b c n = true)
  | 0 => ⟨rfl, fun h => rfl, fun h _ => h, fun h => Or.inl h⟩
  | n + 1 => by
    obtain ⟨i1, i2, i3, i4⟩ := ti_all R a b c n
    simp only [q_ti]
    generalize q_lo R a (q_rkn R (5 - n)) = x
    generalize q_lo R b (q_rkn R (5 - n)) = y
    generalize q_lo R c (q_rkn R (5 - n)) = z
    refine ⟨by simpa using i1, fun h => ?_, fun h1 h2 => ?_, fun h => ?_⟩
    · by_cases e : x = y
      · subst e; simp only [if_true] at h ⊢; exact i2 h
      · rw [if_neg e] at h; rw [if_neg (fun h9 => e h9.symm)]
        have := of_decide_eq_true h
        exact decide_eq_false (by omega)
    · by_cases e : x = y
      · subst e
        simp only [if_true] at h1
        by_cases e2 : x = z
        · subst e2; simp only [if_true] at h2 ⊢; exact i3 h1 h2
        · rw [if_neg e2] at h2 ⊢; exact h2
      · rw [if_neg e] at h1
        have h3 := of_decide_eq_true h1
        by_cases e2 : y = z
        · subst e2; rw [if_neg e]; exact h1
        · rw [if_neg e2] at h2
          have h4 := of_decide_eq_true h2
          rw [if_neg (by omega)]; exact decide_eq_true (by omega)
    · by_cases e : x = z
      · subst e
        simp only [if_true] at h
        by_cases e2 : x = y
        · subst e2; simp only [if_true]; exact i4 h
        · rw [if_neg e2, if_neg (fun h9 => e2 h9.symm)]
          by_cases h5 : x < y
          · exact Or.inl (decide_eq_true h5)
          · exact Or.inr (decide_eq_true (by omega))
      · rw [if_neg e] at h
        have h3 := of_decide_eq_true h
        by_cases e2 : x = y
        · subst e2; right; rw [if_neg e]; exact h
        · by_cases e3 : y = z
          · subst e3; left; rw [if_neg e]; exact h
          · rw [if_neg e2, if_neg e3]
            by_cases h5 : x < y
            · exact Or.inl (decide_eq_true h5)
            · exact Or.inr (decide_eq_true (by omega))
theorem bt_all (R : Nat → Int) (a b c : Nat) : q_bt R a a = false ∧ (q_bt R a b = true → q_bt R b a = false) ∧ (q_bt R a b = true → q_bt R b c = true → q_bt R a c = true) ∧ (q_bt R a c = true → q_bt R a b = true ∨ q_bt R b c = true) := by
  obtain ⟨i1, i2, i3, i4⟩ := ti_all R a b c 6
  simp only [q_bt]
  generalize q_sc R a = x
  generalize q_sc R b = y
  generalize q_sc R c = z
  refine ⟨by simpa using i1, fun h => ?_, fun h1 h2 => ?_, fun h => ?_⟩
  · by_cases e : x = y
    · subst e; simp only [if_true] at h ⊢; exact i2 h
    · rw [if_neg e] at h; rw [if_neg (fun h9 => e h9.symm)]
      have := of_decide_eq_true h
      exact decide_eq_false (by omega)
  · by_cases e : x = y
    · subst e
      simp only [if_true] at h1
      by_cases e2 : x = z
      · subst e2; simp only [if_true] at h2 ⊢; exact i3 h1 h2
      · rw [if_neg e2] at h2 ⊢; exact h2
    · rw [if_neg e] at h1
      have h3 := of_decide_eq_true h1
      by_cases e2 : y = z
      · subst e2; rw [if_neg e]; exact h1
      · rw [if_neg e2] at h2
        have h4 := of_decide_eq_true h2
        rw [if_neg (by omega)]; exact decide_eq_true (by omega)
  · by_cases e : x = z
    · subst e
      simp only [if_true] at h
      by_cases e2 : x = y
      · subst e2; simp only [if_true]; exact i4 h
      · rw [if_neg e2, if_neg (fun h9 => e2 h9.symm)]
        by_cases h5 : y < x
        · exact Or.inl (decide_eq_true h5)
        · exact Or.inr (decide_eq_true (by omega))
    · rw [if_neg e] at h
      have h3 := of_decide_eq_true h
      by_cases e2 : x = y
      · subst e2; right; rw [if_neg e]; exact h
      · by_cases e3 : y = z
        · subst e3; left; rw [if_neg e]; exact h
        · rw [if_neg e2, if_neg e3]
          by_cases h5 : y < x
          · exact Or.inl (decide_eq_true h5)
          · exact Or.inr (decide_eq_true (by omega))
theorem bt_irr (R : Nat → Int) (a : Nat) : q_bt R a a = false := (bt_all R a a a).1
theorem bt_asym {R : Nat → Int} {a b : Nat} (h : q_bt R a b = true) : q_bt R b a = false := (bt_all R a b a).2.1 h
theorem bt_trans {R : Nat → Int} {a b c : Nat} (h : q_bt R a b = true) (h2 : q_bt R b c = true) : q_bt R a c = true := (bt_all R a b c).2.2.1 h h2
theorem bt_neg {R : Nat → Int} {a c : Nat} (b : Nat) (h : q_bt R a c = true) : q_bt R a b = true ∨ q_bt R b c = true := (bt_all R a b c).2.2.2 h
theorem bt_sc {R : Nat → Int} {a b : Nat} (h : q_bt R a b = true) : q_sc R b ≤ q_sc R a := by
  unfold q_bt at h
  split at h
  · omega
  · have := of_decide_eq_true h; omega
theorem bt_eq {R : Nat → Int} {a b : Nat} (h : ¬ q_bt R a b = true) (h2 : ¬ q_bt R b a = true) : q_sc R a = q_sc R b := by
  by_cases e : q_sc R a = q_sc R b
  · exact e
  · exfalso
    unfold q_bt at h h2
    rw [if_neg e] at h
    rw [if_neg (fun h9 => e h9.symm)] at h2
    have h3 : ¬ q_sc R b < q_sc R a := fun h9 => h (decide_eq_true h9)
    have h4 : ¬ q_sc R a < q_sc R b := fun h9 => h2 (decide_eq_true h9)
    omega
theorem ah_iff {R : Nat → Int} {a b : Nat} : q_ah R a b = true ↔ (q_bt R a b = true ∨ (¬ q_bt R b a = true ∧ q_dr R a < q_dr R b)) := by
  unfold q_ah
  rw [Bool.or_eq_true, Bool.and_eq_true, decide_eq_true_eq]
  cases q_bt R b a <;> simp
theorem ah_irr {R : Nat → Int} {a : Nat} : ¬ q_ah R a a = true := by
  rw [ah_iff]
  rintro (h | h)
  · rw [bt_irr] at h; cases h
  · omega
theorem ah_asym {R : Nat → Int} {a b : Nat} (h : q_ah R a b = true) : ¬ q_ah R b a = true := by
  rw [ah_iff] at h ⊢
  rintro (h2 | h2)
  · rcases h with h | h
    · rw [bt_asym h] at h2; cases h2
    · exact h.1 h2
  · rcases h with h | h
    · exact h2.1 h
    · omega
theorem ah_trans {R : Nat → Int} {a b c : Nat} (h : q_ah R a b = true) (h2 : q_ah R b c = true) : q_ah R a c = true := by
  rw [ah_iff] at h h2 ⊢
  rcases h with h | ⟨h, hd⟩
  · rcases h2 with h2 | ⟨h2, hd2⟩
    · exact Or.inl (bt_trans h h2)
    · rcases bt_neg c h with h3 | h3
      · exact Or.inl h3
      · exact absurd h3 h2
  · rcases h2 with h2 | ⟨h2, hd2⟩
    · rcases bt_neg a h2 with h3 | h3
      · exact absurd h3 h
      · exact Or.inl h3
    · refine Or.inr ⟨fun h3 => ?_, by omega⟩
      rcases bt_neg b h3 with h4 | h4
      · exact h2 h4
      · exact h h4
theorem ah_total {R : Nat → Int} (h : q_inv R) {a b : Nat} (ha : (a : Int) < q_nd R) (hb : (b : Int) < q_nd R) (hne : a ≠ b) (h1 : ¬ q_ah R a b = true) : q_ah R b a = true := by
  have hd : q_dr R a ≠ q_dr R b := fun e => hne (h.2.2.2.2.2.2 a b ha hb e)
  rw [ah_iff] at h1 ⊢
  by_cases h2 : q_bt R b a = true
  · exact Or.inl h2
  · refine Or.inr ⟨fun h3 => h1 (Or.inl h3), ?_⟩
    have h4 : ¬ q_dr R a < q_dr R b := fun h9 => h1 (Or.inr ⟨h2, h9⟩)
    omega
/-! counting -/
theorem ct_le {P Q : Nat → Bool} : ∀ {n : Nat}, (∀ k, k < n → P k = true → Q k = true) → q_ct P n ≤ q_ct Q n
  | 0, _ => Int.le_refl _
  | n + 1, h => by
    have ih := ct_le (P := P) (Q := Q) (n := n) (fun k hk => h k (by omega))
    rw [q_ct, q_ct]
    by_cases hp : P n = true
    · rw [if_pos hp, if_pos (h n (by omega) hp)]; omega
    · rw [if_neg hp]; split <;> omega
theorem ct_lt {P Q : Nat → Bool} {x : Nat} : ∀ {n : Nat}, (∀ k, k < n → P k = true → Q k = true) → x < n → Q x = true → ¬ P x = true → q_ct P n < q_ct Q n
  | 0, _, hx, _, _ => absurd hx (Nat.not_lt_zero _)
  | n + 1, h, hx, hq, hp => by
    rw [q_ct, q_ct]
    by_cases e : x = n
    · subst e
      have ih := ct_le (P := P) (Q := Q) (n := x) (fun k hk => h k (by omega))
      rw [if_neg hp, if_pos hq]; omega
    · have ih := ct_lt (P := P) (Q := Q) (n := n) (fun k hk => h k (by omega)) (by omega) hq hp
      by_cases hpn : P n = true
      · rw [if_pos hpn, if_pos (h n (by omega) hpn)]; omega
      · rw [if_neg hpn]; split <;> omega
theorem ahn_mono {R : Nat → Int} {i j : Nat} (hj : (j : Int) < q_nd R) (hsj : q_hs R j = 1) (h : q_ah R j i = true) : q_ahn R j < q_ahn R i := by
  unfold q_ahn
  refine ct_lt (x := j) (fun k hk hp => ?_) (by omega) ?_ ?_
  · rw [Bool.and_eq_true] at hp ⊢
    exact ⟨hp.1, ah_trans hp.2 h⟩
  · rw [Bool.and_eq_true]; exact ⟨decide_eq_true hsj, h⟩
  · rw [Bool.and_eq_true]; exact fun h9 => ah_irr h9.2
theorem ahn_in {R : Nat → Int} {i : Nat} (hi : (i : Int) < q_nd R) (hsi : q_hs R i = 1) : 0 ≤ q_ahn R i ∧ q_ahn R i < q_nrun R := by
  refine ⟨(ct_in _ _).1, ?_⟩
  unfold q_ahn q_nrun
  refine ct_lt (x := i) (fun k hk hp => ?_) (by omega) (decide_eq_true hsi) ?_
  · rw [Bool.and_eq_true] at hp; exact hp.1
  · rw [Bool.and_eq_true]; exact fun h9 => ah_irr h9.2
theorem ahn_ne {R : Nat → Int} (h : q_inv R) {i j : Nat} (hi : (i : Int) < q_nd R) (hj : (j : Int) < q_nd R) (hsi : q_hs R i = 1) (hsj : q_hs R j = 1) (hne : i ≠ j) : q_ahn R i ≠ q_ahn R j := by
  by_cases h1 : q_ah R i j = true
  · have := ahn_mono hi hsi h1; omega
  · have := ahn_mono hj hsj (ah_total h hi hj hne h1); omega
/-- so many have fewer than k ahead -/
def q_few (R : Nat → Int) (k : Int) : Int := q_ct (fun i => decide (q_hs R i = 1 ∧ q_ahn R i < k)) (q_nd R).toNat
theorem few_step {R : Nat → Int} (h : q_inv R) (k : Int) : q_few R (k + 1) ≤ q_few R k + 1 ∧ ((∀ i : Nat, (i : Int) < q_nd R → q_hs R i = 1 → q_ahn R i ≠ k) → q_few R (k + 1) ≤ q_few R k) := by
  unfold q_few
  have hno : (∀ i : Nat, (i : Int) < q_nd R → q_hs R i = 1 → q_ahn R i ≠ k) → q_ct (fun i => decide (q_hs R i = 1 ∧ q_ahn R i < k + 1)) (q_nd R).toNat ≤ q_ct (fun i => decide (q_hs R i = 1 ∧ q_ahn R i < k)) (q_nd R).toNat := fun h9 => ct_le (fun i hi hp => by
    have hp := of_decide_eq_true hp
    have := h9 i (by omega) hp.1
    exact decide_eq_true ⟨hp.1, by omega⟩)
  refine ⟨?_, hno⟩
  by_cases hx : ∃ x : Nat, (x : Int) < q_nd R ∧ q_hs R x = 1 ∧ q_ahn R x = k
  · obtain ⟨x, hx1, hx2, hx3⟩ := hx
    have h9 : q_ct (fun i => decide (q_hs R i = 1 ∧ q_ahn R i < k + 1)) (q_nd R).toNat ≤ q_ct (fun i => decide (q_hs R i = 1 ∧ q_ahn R i < k) || decide (i = x)) (q_nd R).toNat := ct_le (fun i hi hp => by
      have hp := of_decide_eq_true hp
      by_cases e : i = x
      · rw [Bool.or_eq_true]; exact Or.inr (decide_eq_true e)
      · have := ahn_ne h (i := i) (j := x) (by omega) hx1 hp.1 hx2 e
        rw [Bool.or_eq_true]; exact Or.inl (decide_eq_true ⟨hp.1, by omega⟩))
    rw [q_ct_one (P := fun i => decide (q_hs R i = 1 ∧ q_ahn R i < k)) (x := x) (decide_eq_false (fun h8 => by omega)) (fun i => rfl)] at h9
    split at h9 <;> omega
  · have := hno (fun i h1 h2 h3 => hx ⟨i, h1, h2, h3⟩)
    omega
theorem few_le {R : Nat → Int} (h : q_inv R) : ∀ (k : Nat), q_few R (k : Int) ≤ (k : Int)
  | 0 => by
    unfold q_few
    have e : ∀ n, q_ct (fun _ => false) n = 0 := by
      intro n; induction n with
      | zero => rfl
      | succ n ih => rw [q_ct, ih]; rfl
    have h9 : q_ct (fun i => decide (q_hs R i = 1 ∧ q_ahn R i < ((0 : Nat) : Int))) (q_nd R).toNat ≤ q_ct (fun _ => false) (q_nd R).toNat := ct_le (fun i hi hp => by
      have hp := of_decide_eq_true hp
      have := ahn_in (R := R) (i := i) (by omega) hp.1
      omega)
    rw [e] at h9; exact h9
  | k + 1 => by
    have ih := few_le h k
    have := (few_step h (k : Int)).1
    rw [show ((k + 1 : Nat) : Int) = (k : Int) + 1 by omega]; omega
theorem few_gap {R : Nat → Int} (h : q_inv R) {k : Nat} (hno : ∀ i : Nat, (i : Int) < q_nd R → q_hs R i = 1 → q_ahn R i ≠ (k : Int)) : ∀ (d : Nat), q_few R ((k + 1 + d : Nat) : Int) ≤ ((k + d : Nat) : Int)
  | 0 => by
    have h1 := (few_step h (k : Int)).2 hno
    have h2 := few_le h k
    rw [show ((k + 1 + 0 : Nat) : Int) = (k : Int) + 1 by omega, show ((k + 0 : Nat) : Int) = (k : Int) by omega]; omega
  | d + 1 => by
    have ih := few_gap h hno d
    have h1 := (few_step h ((k + 1 + d : Nat) : Int)).1
    rw [show ((k + 1 + (d + 1) : Nat) : Int) = ((k + 1 + d : Nat) : Int) + 1 by omega]; omega
theorem ahn_onto {R : Nat → Int} (h : q_inv R) {k : Nat} (hk : (k : Int) < q_nrun R) : ∃ i : Nat, (i : Int) < q_nd R ∧ q_hs R i = 1 ∧ q_ahn R i = (k : Int) := by
  by_cases hx : ∃ i : Nat, (i : Int) < q_nd R ∧ q_hs R i = 1 ∧ q_ahn R i = (k : Int)
  · exact hx
  · exfalso
    have hg := few_gap h (k := k) (fun i h1 h2 h3 => hx ⟨i, h1, h2, h3⟩) ((q_nrun R).toNat - (k + 1))
    have e : q_few R (q_nrun R) = q_nrun R := by
      unfold q_few
      exact ct_congr (fun i hi => by
        by_cases h1 : q_hs R i = 1
        · have := ahn_in (R := R) (i := i) (by omega) h1
          rw [decide_eq_true h1]; exact decide_eq_true ⟨h1, this.2⟩
        · rw [decide_eq_false h1]; exact decide_eq_false (fun h9 => h1 h9.1))
    rw [show ((k + 1 + ((q_nrun R).toNat - (k + 1)) : Nat) : Int) = q_nrun R by omega, e] at hg
    omega
/-- the dog of the standing at a place -/
def q_st (R : Nat → Int) (k : Nat) : Nat := (q_std R (k : Int)).toNat
def q_nrn (R : Nat → Int) : Nat := (q_nrun R).toNat
theorem nrn_eq (R : Nat → Int) : q_nrun R = (q_nrn R : Int) := by have := (ct_in (fun i => decide (q_hs R i = 1)) (q_nd R).toNat).1; unfold q_nrn; unfold q_nrun at *; omega
theorem nrn_le {R : Nat → Int} (h : q_inv R) : q_nrn R ≤ 12 := by have := (ct_in (fun i => decide (q_hs R i = 1)) (q_nd R).toNat).2; have h1 := h.1; unfold q_nrn q_nrun; omega
theorem st_in {R : Nat → Int} (h : q_inv R) {k : Nat} (hk : k < q_nrn R) : q_std R (k : Int) = (q_st R k : Int) ∧ (q_st R k : Int) < q_nd R ∧ q_hs R (q_st R k) = 1 ∧ q_ahn R (q_st R k) = (k : Int) := by
  obtain ⟨i, h1, h2, h3⟩ := ahn_onto h (k := k) (by rw [nrn_eq]; omega)
  have e : q_std R (k : Int) = (i : Int) := by
    unfold q_std
    refine q_fst_hit (decide_eq_true ⟨h2, h3⟩) (fun j hj h9 => ?_) (by omega)
    have h9 := of_decide_eq_true h9
    exact ahn_ne h (i := j) (j := i) (by omega) h1 h9.1 h2 (by omega) (h9.2.trans h3.symm)
  have e2 : q_st R k = i := by unfold q_st; rw [e, Int.toNat_natCast]
  rw [e2]; exact ⟨e, h1, h2, h3⟩
theorem std_past {R : Nat → Int} : q_std R (q_nrn R : Int) = -9 := by
  unfold q_std
  refine q_fst_no (fun j hj h9 => ?_)
  have h9 := of_decide_eq_true h9
  have := ahn_in (R := R) (i := j) (by omega) h9.1
  rw [nrn_eq] at this; omega
theorem pl_in {R : Nat → Int} {i : Nat} (hs : q_hs R i = 1) : 1 ≤ q_pl R i ∧ q_pl R i ≤ q_ahn R i + 1 := by
  have h1 := (ct_in (fun j => decide (q_hs R j = 1) && q_bt R j i) (q_nd R).toNat).1
  have h2 : q_ct (fun j => decide (q_hs R j = 1) && q_bt R j i) (q_nd R).toNat ≤ q_ahn R i := ct_le (fun k hk hp => by
    rw [Bool.and_eq_true] at hp ⊢
    exact ⟨hp.1, ah_iff.mpr (Or.inl hp.2)⟩)
  unfold q_pl; rw [if_pos hs]; omega
/-- the place of the one before, 0 ahead of all -/
def q_bf (R : Nat → Int) : Nat → Int | 0 => 0 | k + 1 => q_pl R (q_st R k)
theorem pl_next {R : Nat → Int} (h : q_inv R) {k : Nat} (hk : k + 1 < q_nrn R) : q_sc R (q_st R (k + 1)) ≤ q_sc R (q_st R k) ∧ ((q_pl R (q_st R k) < q_pl R (q_st R (k + 1)) ∧ q_pl R (q_st R (k + 1)) = (k : Int) + 2) ∨ (q_pl R (q_st R k) = q_pl R (q_st R (k + 1)) ∧ q_sc R (q_st R k) = q_sc R (q_st R (k + 1)) ∧ q_dr R (q_st R k) < q_dr R (q_st R (k + 1)))) := by
  obtain ⟨-, i1, i2, i3⟩ := st_in h hk
  obtain ⟨-, j1, j2, j3⟩ := st_in h (k := k) (by omega)
  generalize q_st R (k + 1) = i at *
  generalize q_st R k = j at *
  have hne : i ≠ j := fun e => by rw [e] at i3; omega
  have hji : q_ah R j i = true := ah_total h i1 j1 hne (fun h9 => by have := ahn_mono i1 i2 h9; omega)
  by_cases hb : q_bt R j i = true
  · refine ⟨bt_sc hb, Or.inl ?_⟩
    have e : q_ct (fun x => decide (q_hs R x = 1) && q_bt R x i) (q_nd R).toNat = q_ahn R i := by
      refine Int.le_antisymm (ct_le (fun x hx hp => ?_)) (ct_le (fun x hx hp => ?_))
      · rw [Bool.and_eq_true] at hp ⊢
        exact ⟨hp.1, ah_iff.mpr (Or.inl hp.2)⟩
      · rw [Bool.and_eq_true] at hp ⊢
        refine ⟨hp.1, ?_⟩
        have hs := of_decide_eq_true hp.1
        by_cases exj : x = j
        · rw [exj]; exact hb
        · have h1 := ahn_mono (R := R) (i := i) (j := x) (by omega) hs hp.2
          have h2 := ahn_ne h (i := x) (j := j) (by omega) j1 hs j2 exj
          have h3 : q_ah R x j = true := ah_total h j1 (b := x) (by omega) (fun h9 => exj h9.symm) (fun h9 => by have := ahn_mono j1 j2 h9; omega)
          rcases ah_iff.mp h3 with h4 | ⟨h4, -⟩
          · exact bt_trans h4 hb
          · rcases bt_neg x hb with h5 | h5
            · exact absurd h5 h4
            · exact h5
    have hp : q_pl R i = (k : Int) + 2 := by unfold q_pl; rw [if_pos i2, e, i3]; omega
    have hj := pl_in (R := R) (i := j) j2
    exact ⟨by omega, hp⟩
  · obtain ⟨hb2, hd⟩ := (ah_iff.mp hji).resolve_left hb
    have he := bt_eq hb hb2
    refine ⟨by omega, Or.inr ⟨?_, he, hd⟩⟩
    unfold q_pl
    rw [if_pos i2, if_pos j2]
    congr 1
    exact ct_congr (fun x hx => by
      congr 1
      cases h1 : q_bt R x j with
      | true =>
        rcases bt_neg i h1 with h2 | h2
        · exact h2.symm
        · exact absurd h2 hb2
      | false =>
        cases h3 : q_bt R x i with
        | false => rfl
        | true =>
          rcases bt_neg j h3 with h2 | h2
          · rw [h1] at h2; cases h2
          · exact absurd h2 hb)
