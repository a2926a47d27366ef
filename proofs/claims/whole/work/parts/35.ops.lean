/-! THE LAW'S CASES: class and reference behind one call -/
def q_mid (M M1 : Nat → Nat → Int) : Prop := ∀ a, 169 ≤ a → a ≤ 177 → M1 a = M a
theorem q_mid.cs {M M1 : Nat → Nat → Int} (h : q_cs M M1) : q_mid M M1 := fun a h1 h2 => h.1 a (by omega) (by omega) (by omega)
theorem q_mid.of {M M1 : Nat → Nat → Int} {C : Int} {PX : Int → (Nat → Nat → Int) → Prop} (hx : ∀ z9 Mx, PX z9 Mx → ∀ a, 169 ≤ a → a ≤ 177 → Mx a = M a) (h1 : (C = 0 → ∃ (z9 : Int) (Mx : Nat → Nat → Int), PX z9 Mx ∧ M1 = q_wr Mx 178 0 (iZ z9).toInt) ∧ (C ≠ 0 → q_cs M M1)) : q_mid M M1 := fun a h3 h4 => by
  by_cases hc : C = 0
  · obtain ⟨z9, Mx, hp, e⟩ := h1.1 hc
    rw [e, wr_off _ _ _ (by omega)]
    exact hx z9 Mx hp a h3 h4
  · exact (h1.2 hc).1 a (by omega) (by omega) (by omega)
theorem q_J.no {M M1 M2 : Nat → Nat → Int} {o n tn : Nat} {z1 z2 C : Int} (h : q_J M o n tn) (hz : z1 = C) (hc : C ≠ 0) (h1 : q_cs M M1) (h2 : q_ms M1 M2) (h3 : M2 169 0 = C) : q_fin M2 z1 z2 :=
  ⟨h3.trans hz.symm, fun h9 => absurd (hz.symm.trans h9) hc, o, n, tn, h.query (q_c8.of h1) ⟨h3, h2⟩⟩
theorem lw_q {M M1 M2 : Nat → Nat → Int} {o n tn : Nat} {C V z1 z2 : Int} (h : q_J M o n tn) (h1 : z1 = C ∧ (C = 0 → ∃ (z9 : Int) (Mx : Nat → Nat → Int), (C = 0 ∧ z9 = V ∧ q_cs M Mx) ∧ M1 = q_wr Mx 178 0 (iZ z9).toInt) ∧ (C ≠ 0 → q_cs M M1)) (h2 : (C = 0 → z2 = V) ∧ q_mq C M1 M2) : q_fin M2 z1 z2 := by
  by_cases hc : C = 0
  · obtain ⟨z9, Mx, ⟨-, hz, hm⟩, e⟩ := h1.2.1 hc
    refine ⟨h2.2.1.trans h1.1.symm, fun _ => ?_, o, n, tn, h.query (q_c8.wr hm e) h2.2⟩
    rw [h2.2.2.1 178 (by decide) (by decide) (by decide) (by decide), e, wr_eq, hz, h2.1 hc]
  · exact h.no h1.1 hc (h1.2.2 hc) h2.2.2 h2.2.1
theorem lw_a {M M1 M2 : Nat → Nat → Int} {o n tn : Nat} {C V z1 z2 : Int} {R1 : Nat → Int} (h : q_J M o n tn) (h1 : z1 = C ∧ (C = 0 → ∃ (z9 : Int) (Mx : Nat → Nat → Int), (C = 0 ∧ z9 = V ∧ q_act M Mx (M 172) R1 o n) ∧ M1 = q_wr Mx 178 0 (iZ z9).toInt) ∧ (C ≠ 0 → q_cs M M1)) (h2 : (C = 0 → z2 = V ∧ q_mz 0 n M1 M2 ∧ M2 172 = R1) ∧ (C ≠ 0 → q_ms M1 M2) ∧ M2 169 0 = C) (hp : C = 0 → q_pok R1) : q_fin M2 z1 z2 := by
  by_cases hc : C = 0
  · obtain ⟨z9, Mx, ⟨-, hz, hm⟩, e⟩ := h1.2.1 hc
    obtain ⟨k1, k2, k3⟩ := h2.1 hc
    refine ⟨h2.2.2.trans h1.1.symm, fun _ => ?_, _, _, _, h.act hm e k2 k3 (hp hc)⟩
    rw [k2.2.2.2.2.2 178 (by decide) (by decide) (by decide) (by decide) (by decide) (by decide), e, wr_eq, hz, k1]
  · exact h.no h1.1 hc (h1.2.2 hc) (h2.2.1 hc) h2.2.2
theorem lw_0 {M M1 M2 : Nat → Nat → Int} {o n tn : Nat} {V z1 z2 : Int} (h : q_J M o n tn) (h1 : z1 = V ∧ q_cs M M1) (h2 : z2 = V ∧ q_mq 0 M1 M2) : z1 = z2 ∧ ∃ o n tn, q_J M2 o n tn := ⟨h1.1.trans h2.1.symm, o, n, tn, h.query (q_c8.of h1.2) h2.2⟩
theorem lw_clr {M M1 M2 : Nat → Nat → Int} {o n tn : Nat} {V z1 z2 : Int} (h : q_J M o n tn) (h1 : z1 = V ∧ M1 = q_wr M 167 1 0) (h2 : z2 = V ∧ M2 = q_wr (q_wr M1 169 0 0) 169 2 0) : z1 = z2 ∧ ∃ o n tn, q_J M2 o n tn := ⟨h1.1.trans h2.1.symm, o, n, 0, h.clr h1.2 h2.2⟩
theorem lw_app {M M1 M2 : Nat → Nat → Int} {o n tn : Nat} {z1 z2 a C : Int} (h : q_J M o n tn) (hC : C = 0 → (0 ≤ a ∧ a ≤ 255) ∧ tn < 70) (h1 : z1 = C ∧ (C = 0 → ∃ (z9 : Int) (Mx : Nat → Nat → Int), (C = 0 ∧ z9 = (tn : Int) + 1 ∧ Mx = q_wr (q_wr M 168 tn a) 167 1 ((tn : Int) + 1)) ∧ M1 = q_wr Mx 178 0 (iZ z9).toInt) ∧ (C ≠ 0 → q_cs M M1)) (h2 : (C = 0 → z2 = (tn : Int) + 1 ∧ M2 = q_wr (q_wr (q_wr M1 169 0 0) 170 tn a) 169 2 ((tn : Int) + 1)) ∧ (C ≠ 0 → q_ms M1 M2) ∧ M2 169 0 = C) : q_fin M2 z1 z2 := by
  by_cases hc : C = 0
  · obtain ⟨z9, Mx, ⟨-, hz, hm⟩, e⟩ := h1.2.1 hc
    obtain ⟨k1, k2⟩ := h2.1 hc
    refine ⟨h2.2.2.trans h1.1.symm, fun _ => ?_, _, _, _, h.app (hC hc).2 (hC hc).1 hm e k2⟩
    rw [k2, wr_off _ _ _ (by decide), wr_off _ _ _ (by decide), wr_off _ _ _ (by decide), e, wr_eq, hz, k1]
  · exact h.no h1.1 hc (h1.2.2 hc) (h2.2.1 hc) h2.2.2
theorem lw_lod {M M1 M2 : Nat → Nat → Int} {o n tn : Nat} {z1 z2 C V : Int} {P : Nat → Int} (h : q_J M o n tn) (hp : C = 0 → q_pok P) (h1 : z1 = C ∧ (C = 0 → ∃ (z9 : Int) (Mx : Nat → Nat → Int), (C = 0 ∧ z9 = V ∧ q_lod M Mx P) ∧ M1 = q_wr Mx 178 0 (iZ z9).toInt) ∧ (C ≠ 0 → q_cs M M1)) (h2 : (C = 0 → z2 = V ∧ q_mld M1 M2 ∧ M2 172 = P) ∧ (C ≠ 0 → q_ms M1 M2) ∧ M2 169 0 = C) : q_fin M2 z1 z2 := by
  by_cases hc : C = 0
  · obtain ⟨z9, Mx, ⟨-, hz, hm⟩, e⟩ := h1.2.1 hc
    obtain ⟨k1, k2, k3⟩ := h2.1 hc
    refine ⟨h2.2.2.trans h1.1.symm, fun _ => ?_, _, _, _, h.load hm e k2 k3 (hp hc)⟩
    rw [k2.2.2.2.2 178 (by decide) (by decide) (by decide) (by decide) (by decide) (by decide), e, wr_eq, hz, k1]
  · exact h.no h1.1 hc (h1.2.2 hc) (h2.2.1 hc) h2.2.2
theorem lw_und {M M1 M2 : Nat → Nat → Int} {o n tn : Nat} {z1 z2 C V : Int} {P : Nat → Int} (h : q_J M o n tn) (hC : C = 0 → n ≠ 0) (hP : ∀ j, P j = M 174 (146 * (n - 1) + j)) (h1 : z1 = C ∧ (C = 0 → ∃ (z9 : Int) (Mx : Nat → Nat → Int), (C = 0 ∧ z9 = V ∧ Mx 165 1 = (o : Int) ∧ Mx 165 2 = ((n - 1 : Nat) : Int) ∧ q_tr Mx 0 P ∧ ∀ a, a ≠ 165 → 8 ≤ a → Mx a = M a) ∧ M1 = q_wr Mx 178 0 (iZ z9).toInt) ∧ (C ≠ 0 → q_cs M M1)) (h2 : (C = 0 → z2 = V ∧ M2 172 = (fun k => M1 174 (146 * (n - 1) + k)) ∧ M2 169 8 = ((n - 1 : Nat) : Int) ∧ M2 169 2 = M1 169 2 ∧ ∀ x, x ≠ 169 → x ≠ 172 → M2 x = M1 x) ∧ (C ≠ 0 → q_ms M1 M2) ∧ M2 169 0 = C) : q_fin M2 z1 z2 := by
  by_cases hc : C = 0
  · obtain ⟨z9, Mx, ⟨-, hz, c2, c3, c1, c4⟩, e⟩ := h1.2.1 hc
    obtain ⟨k1, k2, k3, k4, k5⟩ := h2.1 hc
    have x174 : M1 174 = M 174 := by rw [e, wr_off _ _ _ (by decide)]; exact c4 174 (by decide) (by decide)
    have hP9 : P = q_pgd M (n - 1) := funext hP
    refine ⟨h2.2.2.trans h1.1.symm, fun _ => ?_, _, _, _, h.back (n1 := n - 1) (Nat.sub_le _ _) ?_ c1 c2 c3 c4 e ?_ k3 k4 k5⟩
    · rw [k5 178 (by decide) (by decide), e, wr_eq, hz, k1]
    · rw [hP9]; exact (h.2.2.2.1 (n - 1) (by have := hC hc; omega)).2
    · rw [k2, x174, hP9]; rfl
  · exact h.no h1.1 hc (h1.2.2 hc) (h2.2.1 hc) h2.2.2
theorem lw_res {M M1 M2 : Nat → Nat → Int} {o n tn : Nat} {z1 z2 C C9 a : Int} (h : q_J M o n tn) (hC : C = 0 → (0 ≤ a ∧ a ≤ 1) ∧ M 154 a.toNat = 1) (h9 : C9 = C) (h1 : z1 = C ∧ (C = 0 → ∃ (z9 : Int) (Mx : Nat → Nat → Int), (C = 0 ∧ z9 = q_nrun (q_pgk M a.toNat) ∧ q_tr Mx 0 (q_pgk M a.toNat) ∧ Mx 165 1 = M 165 1 ∧ Mx 165 2 = 0 ∧ ∀ x, x ≠ 165 → 8 ≤ x → Mx x = M x) ∧ M1 = q_wr Mx 178 0 (iZ z9).toInt) ∧ (C ≠ 0 → q_cs M M1)) (h2 : (C9 = 0 → z2 = q_nrun (fun k => M1 175 (146 * a.toNat + k)) ∧ M2 172 = (fun k => M1 175 (146 * a.toNat + k)) ∧ M2 169 8 = 0 ∧ M2 169 2 = M1 169 2 ∧ ∀ x, x ≠ 169 → x ≠ 172 → M2 x = M1 x) ∧ (C9 ≠ 0 → q_ms M1 M2) ∧ M2 169 0 = C9) : q_fin M2 z1 z2 := by
  subst h9
  by_cases hc : C9 = 0
  · obtain ⟨z9, Mx, ⟨-, hz, c1, c2, c3, c4⟩, e⟩ := h1.2.1 hc
    obtain ⟨k1, k2, k3, k4, k5⟩ := h2.1 hc
    have x175 : M1 175 = M 175 := by rw [e, wr_off _ _ _ (by decide)]; exact c4 175 (by decide) (by decide)
    rw [x175] at k1 k2
    have hcc := hC hc
    have hj : a.toNat < 2 := by omega
    refine ⟨h2.2.2.trans h1.1.symm, fun _ => ?_, _, _, _, h.back (n1 := 0) (Nat.zero_le _) ((h.2.2.2.2.1 a.toNat hj).2.2 hcc.2).2 c1 (c2.trans h.2.2.1.1) c3 c4 e k2 k3 k4 k5⟩
    rw [k5 178 (by decide) (by decide), e, wr_eq, hz, k1]; rfl
  · exact h.no h1.1 hc (h1.2.2 hc) (h2.2.1 hc) h2.2.2
theorem lw_sav {M M1 M2 : Nat → Nat → Int} {o n tn : Nat} {z1 z2 C V a : Int} (h : q_J M o n tn) (hC : C = 0 → (0 ≤ a ∧ a ≤ 1)) (h1 : z1 = C ∧ (C = 0 → ∃ (z9 : Int) (Mx : Nat → Nat → Int), (C = 0 ∧ z9 = V ∧ q_tr Mx (24 + 8 * a.toNat) (M 172) ∧ (Mx 154 a.toNat = 1 ∧ ∀ b : Nat, b ≠ a.toNat → Mx 154 b = M 154 b) ∧ ∀ x, x ≠ 154 → (x < 24 + 8 * a.toNat ∨ 24 + 8 * a.toNat + 8 ≤ x) → Mx x = M x) ∧ M1 = q_wr Mx 178 0 (iZ z9).toInt) ∧ (C ≠ 0 → q_cs M M1)) (h2 : (C = 0 → z2 = V ∧ (∀ k : Nat, k < 146 → M2 175 (146 * a.toNat + k) = M1 172 k) ∧ (∀ b : Nat, (b < 146 * a.toNat ∨ 146 * a.toNat + 146 ≤ b) → M2 175 b = M1 175 b) ∧ M2 176 a.toNat = 1 ∧ (∀ b : Nat, b ≠ a.toNat → M2 176 b = M1 176 b) ∧ M2 169 2 = M1 169 2 ∧ M2 169 8 = M1 169 8 ∧ ∀ x, x ≠ 169 → x ≠ 175 → x ≠ 176 → M2 x = M1 x) ∧ (C ≠ 0 → q_ms M1 M2) ∧ M2 169 0 = C) : q_fin M2 z1 z2 := by
  by_cases hc : C = 0
  · obtain ⟨z9, Mx, ⟨-, hz, c1, c2, c3⟩, e⟩ := h1.2.1 hc
    obtain ⟨k1, k2, k3, k4, k5, k6, k7, k8⟩ := h2.1 hc
    have hcc := hC hc
    have hj : a.toNat < 2 := by omega
    refine ⟨h2.2.2.trans h1.1.symm, fun _ => ?_, _, _, _, h.save hj c1 c2 c3 e k2 k3 k4 k5 k6 k7 k8⟩
    rw [k8 178 (by decide) (by decide) (by decide), e, wr_eq, hz, k1]
  · exact h.no h1.1 hc (h1.2.2 hc) (h2.2.1 hc) h2.2.2
/-! what the reference's page is behind an action -/
theorem pk_ent {R : Nat → Int} {a b : Int} (h : q_pok R) (hc : (if ¬ (0 ≤ a ∧ a ≤ 5 ∧ 1 ≤ b ∧ b ≤ 99) then (1 : Int) else if 12 ≤ q_nd R ∨ q_dn R b (-9) (q_nd R).toNat = true then 2 else 0) = 0) : q_pok (q_ent R (q_nd R).toNat a b) := by
  have hn := h.1.1.1
  by_cases c1 : 0 ≤ a ∧ a ≤ 5 ∧ 1 ≤ b ∧ b ≤ 99
  · rw [if_neg (fun h9 => h9 c1)] at hc
    by_cases c2 : 12 ≤ q_nd R ∨ q_dn R b (-9) (q_nd R).toNat = true
    · rw [if_pos c2] at hc; exact absurd hc (by decide)
    · have c3 : ¬ 12 ≤ q_nd R := fun h9 => c2 (Or.inl h9)
      have c4 : q_dn R b (-9) (q_nd R).toNat = false := by cases h9 : q_dn R b (-9) (q_nd R).toNat with | true => exact absurd (Or.inr h9) c2 | false => rfl
      exact ⟨inv_ent h.1 (by omega) (by omega) ⟨c1.1, c1.2.1⟩ c1.2.2 (fun j hj => q_dn_of c4 j hj (by omega)), in2_ent h.2 (by omega)⟩
  · rw [if_pos c1] at hc; exact absurd hc (by decide)
theorem pk_gon {R : Nat → Int} {j : Nat} (h : q_pok R) : q_pok (q_gon R j) := ⟨inv_gon h.1, in2_gon h.2⟩
theorem pk_brk {R : Nat → Int} {a b : Int} (h : q_pok R) (hc : (if ¬ (0 ≤ a ∧ a < q_nd R ∧ 0 ≤ b ∧ b ≤ 5) then (1 : Int) else if q_sa R a.toNat ≠ 1 then 2 else 0) = 0) : q_pok (q_brk R a.toNat b) := by
  by_cases c1 : 0 ≤ a ∧ a < q_nd R ∧ 0 ≤ b ∧ b ≤ 5
  · rw [if_neg (fun h9 => h9 c1)] at hc
    by_cases c2 : q_sa R a.toNat = 1
    · have hd := dok h.1 a.toNat (by omega)
      exact ⟨inv_brk h.1 (hd.2.2.2.2.2.2 c2) c1.2.2, in2_brk h.2⟩
    · rw [if_pos c2] at hc; exact absurd hc (by decide)
  · rw [if_pos c1] at hc; exact absurd hc (by decide)
theorem pk_nxt {R : Nat → Int} {a : Int} (h : q_pok R) (hc : (if 60 ≤ a ∧ a ≤ 600 then (0 : Int) else 1) = 0) : q_pok (q_nxt R a) := by
  by_cases c1 : 60 ≤ a ∧ a ≤ 600
  · exact ⟨inv_nxt h.1 c1, in2_nxt h.2⟩
  · rw [if_neg c1] at hc; exact absurd hc (by decide)
theorem pk_srk {R : Nat → Int} {a : Int} (h : q_pok R) (hc : (if q_isr a = true then (0 : Int) else 1) = 0) : q_pok (q_srk R (fun k => q_kd a (5 - k))) := by
  by_cases c1 : q_isr a = true
  · exact ⟨inv_srk h.1 (q_isr_dig c1).2, in2_srk h.2⟩
  · rw [if_neg c1] at hc; exact absurd hc (by decide)
theorem pk_sdr {R : Nat → Int} {a b : Int} (h : q_pok R) (hc : (if ¬ (0 ≤ a ∧ a < q_nd R) then (1 : Int) else if ¬ (1 ≤ b ∧ b ≤ 99) then 2 else if q_dn R b a (q_nd R).toNat = true then 3 else 0) = 0) : q_pok (q_sdr R a.toNat b) := by
  by_cases c1 : 0 ≤ a ∧ a < q_nd R
  · rw [if_neg (fun h9 => h9 c1)] at hc
    by_cases c2 : 1 ≤ b ∧ b ≤ 99
    · rw [if_neg (fun h9 => h9 c2)] at hc
      have c4 : q_dn R b a (q_nd R).toNat = false := by cases h9 : q_dn R b a (q_nd R).toNat with | true => (rw [if_pos h9] at hc; exact absurd hc (by decide)) | false => rfl
      exact ⟨inv_sdr h.1 (by omega) c2 (fun j hj hne => q_dn_of c4 j (by omega) (by omega)), in2_sdr h.2⟩
    · rw [if_pos c2] at hc; exact absurd hc (by decide)
  · rw [if_pos c1] at hc; exact absurd hc (by decide)
theorem pk_run {R : Nat → Int} {v b : Int} (h : q_pok R) (hc : (if ¬ (q_ptb v 6 = true ∧ 1 ≤ b ∧ b ≤ 30) then (1 : Int) else if q_ob R ≠ 0 then 2 else 0) = 0) : q_pok (q_rno R (q_first R).toNat b (q_dig v)) := by
  by_cases c1 : q_ptb v 6 = true ∧ 1 ≤ b ∧ b ≤ 30
  · rw [if_neg (fun h9 => h9 c1)] at hc
    by_cases c2 : q_ob R = 0
    · have hf := q_first_in h.1 (q_ob_wait c2)
      have hp := (q_ptb_pts v).mp c1.1
      exact ⟨inv_rno h.1 (by omega) (by omega) (fun p hp9 => ⟨(q_dig_in v p).1, hp.2 p hp9⟩), in2_rno h.2⟩
    · rw [if_pos c2] at hc; exact absurd hc (by decide)
  · rw [if_pos c1] at hc; exact absurd hc (by decide)
theorem pk_lod {T : Nat → Int} {n : Nat} (hc : (if q_err T n = -9 then (0 : Int) else 1) = 0) : q_pok (q_rdt T n).2.2 := by
  by_cases c1 : q_err T n = -9
  · exact q_rdt_pok (q_err_ok c1)
  · rw [if_neg c1] at hc; exact absurd hc (by decide)
theorem cd_app {n : Nat} {a : Int} (hc : (if ¬ (0 ≤ a ∧ a ≤ 255) then (1 : Int) else if 70 ≤ n then 2 else 0) = 0) : (0 ≤ a ∧ a ≤ 255) ∧ n < 70 := by
  by_cases c1 : 0 ≤ a ∧ a ≤ 255
  · rw [if_neg (fun h9 => h9 c1)] at hc
    by_cases c2 : 70 ≤ n
    · rw [if_pos c2] at hc; exact absurd hc (by decide)
    · exact ⟨c1, by omega⟩
  · rw [if_pos c1] at hc; exact absurd hc (by decide)
theorem cd_und {n : Nat} (hc : (if n = 0 then (1 : Int) else 0) = 0) : n ≠ 0 := fun h9 => by rw [if_pos h9] at hc; exact absurd hc (by decide)
theorem cd_sav {a : Int} (hc : (if 0 ≤ a ∧ a ≤ 1 then (0 : Int) else 1) = 0) : 0 ≤ a ∧ a ≤ 1 := by
  by_cases c1 : 0 ≤ a ∧ a ≤ 1
  · exact c1
  · rw [if_neg c1] at hc; exact absurd hc (by decide)
theorem cd_res {M : Nat → Nat → Int} {o n tn : Nat} {a : Int} (h : q_J M o n tn) (hc : (if ¬ (0 ≤ a ∧ a ≤ 1) then (1 : Int) else if M 154 a.toNat = 0 then 2 else 0) = 0) : (0 ≤ a ∧ a ≤ 1) ∧ M 154 a.toNat = 1 := by
  by_cases c1 : 0 ≤ a ∧ a ≤ 1
  · rw [if_neg (fun h9 => h9 c1)] at hc
    by_cases c2 : M 154 a.toNat = 0
    · rw [if_pos c2] at hc; exact absurd hc (by decide)
    · exact ⟨c1, ((h.2.2.2.2.1 a.toNat (by omega)).2.1).resolve_left c2⟩
  · rw [if_pos c1] at hc; exact absurd hc (by decide)
theorem cd_res9 {M M1 : Nat → Nat → Int} {o n tn : Nat} {a : Int} (h : q_J M o n tn) (hm : q_mid M M1) : (if ¬ (0 ≤ a ∧ a ≤ 1) then (1 : Int) else if M1 176 a.toNat = 0 then 2 else 0) = (if ¬ (0 ≤ a ∧ a ≤ 1) then (1 : Int) else if M 154 a.toNat = 0 then 2 else 0) := by
  by_cases c1 : 0 ≤ a ∧ a ≤ 1
  · have e9 : M1 176 a.toNat = M 154 a.toNat := by rw [hm 176 (by decide) (by decide)]; exact (h.2.2.2.2.1 a.toNat (by omega)).1.symm
    rw [e9]
  · rw [if_pos c1, if_pos c1]
theorem md_act {M : Nat → Nat → Int} {R R1 : Nat → Int} {o n : Nat} {c : Prop} {V : Int} (z9 : Int) (Mx : Nat → Nat → Int) (h : c ∧ z9 = V ∧ q_act M Mx R R1 o n) (a : Nat) (h1 : 169 ≤ a) (h2 : a ≤ 177) : Mx a = M a := h.2.2.2.2.2.2.1 a (by omega) (by omega) (by have := q_slot_in (q_ro o n) (q_rn n); omega) (by omega)
theorem md_cs {M : Nat → Nat → Int} {c : Prop} {V : Int} (z9 : Int) (Mx : Nat → Nat → Int) (h : c ∧ z9 = V ∧ q_cs M Mx) (a : Nat) (h1 : 169 ≤ a) (h2 : a ≤ 177) : Mx a = M a := h.2.2.1 a (by omega) (by omega) (by omega)
theorem md_lod {M : Nat → Nat → Int} {P : Nat → Int} {c : Prop} {V : Int} (z9 : Int) (Mx : Nat → Nat → Int) (h : c ∧ z9 = V ∧ q_lod M Mx P) (a : Nat) (h1 : 169 ≤ a) (h2 : a ≤ 177) : Mx a = M a := h.2.2.2.2.2.2.2.1 a (by omega) (by omega) (by omega) (by omega)
