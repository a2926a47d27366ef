/-! FRAMES of the reference's public methods -/
def q_ms (M M1 : Nat → Nat → Int) : Prop := (∀ a, a ≠ 169 → a ≠ 171 → a ≠ 173 → a ≠ 177 → M1 a = M a) ∧ M1 169 2 = M 169 2 ∧ M1 169 8 = M 169 8
def q_mq (c : Int) (M M1 : Nat → Nat → Int) : Prop := M1 169 0 = c ∧ q_ms M M1
theorem q_mq.rf {M M1 : Nat → Nat → Int} {v : Int} (h : M1 = q_wr M 169 0 v) : q_mq v M M1 := by
  subst h
  exact ⟨wr_eq _ _ _ _, fun a h1 _ _ _ => wr_off _ _ _ h1, wr_ne _ _ _ (by decide), wr_ne _ _ _ (by decide)⟩
theorem q_mq.lay {M M1 M2 : Nat → Nat → Int} {c : Int} (h : q_mq c M M1) (h1 : ∀ a, a ≠ 169 → a ≠ 177 → M2 a = M1 a) (h2 : ∀ b : Nat, b ≠ 12 → M2 169 b = M1 169 b) : q_mq c M M2 :=
  ⟨(h2 0 (by decide)).trans h.1, fun a g1 g2 g3 g4 => (h1 a g1 g4).trans (h.2.1 a g1 g2 g3 g4), (h2 2 (by decide)).trans h.2.2.1, (h2 8 (by decide)).trans h.2.2.2⟩
theorem q_mq.best {M M1 M2 : Nat → Nat → Int} {c : Int} (h : q_mq c M M1) (h1 : ∀ a, a ≠ 173 → M2 a = M1 a) : q_mq c M M2 :=
  ⟨by rw [h1 169 (by decide)]; exact h.1, fun a g1 g2 g3 g4 => (h1 a g3).trans (h.2.1 a g1 g2 g3 g4), by rw [h1 169 (by decide)]; exact h.2.2.1, by rw [h1 169 (by decide)]; exact h.2.2.2⟩
theorem q_mq.set {M M1 M2 : Nat → Nat → Int} {c : Int} {P : Nat → Int} (h : q_mq c M M1) (e : M2 = q_set M1 173 P) : q_mq c M M2 :=
  h.best (fun a ha => by rw [e]; exact q_set_off _ _ ha)
theorem q_mq.rfr {M M1 M2 : Nat → Nat → Int} {c : Int} (h : q_mq c M M1) (h1 : q_rf M1 M2) : q_mq c M M2 :=
  ⟨(h1.2 0 (by decide)).trans h.1, fun a g1 g2 g3 g4 => (h1.1 a g1 g3 g4).trans (h.2.1 a g1 g2 g3 g4), (h1.2 2 (by decide)).trans h.2.2.1, (h1.2 8 (by decide)).trans h.2.2.2⟩
theorem q_mq.rd {M M1 M2 : Nat → Nat → Int} {c : Int} (h : q_mq c M M1) (h1 : q_fm M1 M2) : q_mq c M M2 :=
  ⟨(h1.2 0 (by decide)).trans h.1, fun a g1 g2 g3 g4 => (h1.1 a g1 g2).trans (h.2.1 a g1 g2 g3 g4), (h1.2 2 (by decide)).trans h.2.2.1, (h1.2 8 (by decide)).trans h.2.2.2⟩
theorem q_mq.r172 {M M1 : Nat → Nat → Int} {c : Int} (h : q_mq c M M1) : M1 172 = M 172 := h.2.1 172 (by decide) (by decide) (by decide) (by decide)
/-- an action of the reference: the page before is in the diary -/
def q_mz (c : Int) (n : Nat) (M M1 : Nat → Nat → Int) : Prop := M1 169 0 = c ∧ M1 169 2 = M 169 2 ∧ M1 169 8 = ((q_rn n + 1 : Nat) : Int) ∧ (∀ b : Nat, b < 146 * q_rn n → M1 174 b = M 174 (if n = 14 then b + 146 else b)) ∧ (∀ j : Nat, j < 146 → M1 174 (146 * q_rn n + j) = M 172 j) ∧ ∀ a, a ≠ 169 → a ≠ 171 → a ≠ 172 → a ≠ 173 → a ≠ 174 → a ≠ 177 → M1 a = M a
theorem q_mz.nt {M Ma Mb : Nat → Nat → Int} {c : Int} {n : Nat} (h : q_mq c M Ma) (h1 : Mb 169 8 = ((q_rn n + 1 : Nat) : Int)) (h2 : ∀ b : Nat, b < 146 * q_rn n → Mb 174 b = Ma 174 (if n = 14 then b + 146 else b)) (h3 : ∀ j : Nat, j < 146 → Mb 174 (146 * q_rn n + j) = Ma 172 j) (h4 : ∀ a, a ≠ 169 → a ≠ 174 → Mb a = Ma a) (h5 : ∀ b : Nat, b ≠ 8 → Mb 169 b = Ma 169 b) : q_mz c n M Mb := by
  have e : Ma 174 = M 174 := h.2.1 174 (by decide) (by decide) (by decide) (by decide)
  refine ⟨(h5 0 (by decide)).trans h.1, (h5 2 (by decide)).trans h.2.2.1, h1, fun b hb => ?_, fun j hj => ?_, fun a g1 g2 g3 g4 g5 g6 => (h4 a g1 g5).trans (h.2.1 a g1 g2 g4 g6)⟩
  · rw [h2 b hb, e]
  · rw [h3 j hj, h.r172]
theorem q_mz.lay {M M1 M2 : Nat → Nat → Int} {c : Int} {n : Nat} (h : q_mz c n M M1) (h1 : ∀ a, a ≠ 169 → a ≠ 177 → M2 a = M1 a) (h2 : ∀ b : Nat, b ≠ 12 → M2 169 b = M1 169 b) : q_mz c n M M2 := by
  obtain ⟨a1, a2, a3, a4, a5, a6⟩ := h
  have e : M2 174 = M1 174 := h1 174 (by decide) (by decide)
  exact ⟨(h2 0 (by decide)).trans a1, (h2 2 (by decide)).trans a2, (h2 8 (by decide)).trans a3, fun b hb => by rw [e]; exact a4 b hb, fun j hj => by rw [e]; exact a5 j hj, fun a g1 g2 g3 g4 g5 g6 => (h1 a g1 g6).trans (a6 a g1 g2 g3 g4 g5 g6)⟩
theorem q_mz.pg {M M1 M2 : Nat → Nat → Int} {c : Int} {n : Nat} (h : q_mz c n M M1) (h1 : ∀ a, a ≠ 172 → a ≠ 173 → M2 a = M1 a) : q_mz c n M M2 := by
  obtain ⟨a1, a2, a3, a4, a5, a6⟩ := h
  have e : M2 174 = M1 174 := h1 174 (by decide) (by decide)
  have e2 : M2 169 = M1 169 := h1 169 (by decide) (by decide)
  exact ⟨by rw [e2]; exact a1, by rw [e2]; exact a2, by rw [e2]; exact a3, fun b hb => by rw [e]; exact a4 b hb, fun j hj => by rw [e]; exact a5 j hj, fun a g1 g2 g3 g4 g5 g6 => (h1 a g3 g4).trans (a6 a g1 g2 g3 g4 g5 g6)⟩
