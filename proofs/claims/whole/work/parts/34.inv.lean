/-! WHAT HOLDS BETWEEN THE CALLS: class and reference show one state -/
def q_pgd (M : Nat → Nat → Int) (k : Nat) : Nat → Int := fun j => M 174 (146 * k + j)
def q_pgk (M : Nat → Nat → Int) (k : Nat) : Nat → Int := fun j => M 175 (146 * k + j)
def q_pok (R : Nat → Int) : Prop := q_inv R ∧ q_in2 R
def q_J (M : Nat → Nat → Int) (o n tn : Nat) : Prop :=
  (o < 14 ∧ n ≤ 14 ∧ tn ≤ 70) ∧ (q_tr M 0 (M 172) ∧ q_pok (M 172)) ∧ (M 165 1 = (o : Int) ∧ M 165 2 = (n : Int) ∧ M 169 8 = (n : Int)) ∧
  (∀ k : Nat, k < n → q_tr M (q_slot o k) (q_pgd M k) ∧ q_pok (q_pgd M k)) ∧
  (∀ j : Nat, j < 2 → M 154 j = M 176 j ∧ (M 154 j = 0 ∨ M 154 j = 1) ∧ (M 154 j = 1 → q_tr M (24 + 8 * j) (q_pgk M j) ∧ q_pok (q_pgk M j))) ∧
  (M 167 1 = (tn : Int) ∧ M 169 2 = (tn : Int) ∧ M 168 = M 170 ∧ ∀ j : Nat, j < tn → 0 ≤ M 168 j ∧ M 168 j ≤ 255) ∧
  (∀ j : Nat, j < 12 → 0 ≤ M 12 j ∧ M 12 j ≤ 1)
/-! pages alike -/
theorem q_same_tr {M : Nat → Nat → Int} {t : Nat} {P P' : Nat → Int} (h : q_same P P') (hn : q_nd P ≤ 12) (hR : q_tr M t P) : q_tr M t P' := by
  obtain ⟨r0, rd, rk9, r8, r9, r10, r11, r12, r13, r14, rb⟩ := hR
  have e7 : q_nd P = q_nd P' := h 7 (by decide)
  refine ⟨r0.trans e7, fun i hi => ?_, fun k hk => (rk9 k hk).trans (h _ (by omega)), r8.trans (h 0 (by decide)), r9.trans (h 1 (by decide)), r10.trans (h 2 (by decide)), r11.trans (h 3 (by decide)), r12.trans (h 4 (by decide)), r13.trans (h 5 (by decide)), r14.trans (h 6 (by decide)), rb⟩
  rw [← e7] at hi
  obtain ⟨d1, d2, d3, d4, d5, d6⟩ := rd i hi
  have f4 : q_hs P i = q_hs P' i := h _ (by omega)
  refine ⟨d1.trans (h _ (by omega)), d2.trans (h _ (by omega)), d3.trans (h _ (by omega)), d4.trans f4, d5.trans (h _ (by omega)), fun hh p hp => ?_⟩
  exact (d6 (f4.trans hh) p hp).trans (h _ (by omega))
theorem q_same_inv {P P' : Nat → Int} (h : q_same P P') (hI : q_inv P) : q_inv P' := by
  have e7 : q_nd P = q_nd P' := h 7 (by decide)
  obtain ⟨a1, a2, a3, a4, a5, a6, a7⟩ := hI
  have hd : ∀ i : Nat, (i : Int) < q_nd P → q_dr P i = q_dr P' i := fun i hi => h _ (by omega)
  refine ⟨by rw [← e7]; exact a1, fun i hi => ?_, fun k hk => ?_, ?_, ?_, ?_, fun i j hi hj hdd => ?_⟩
  · rw [← e7] at hi
    have b := a2 i hi
    unfold q_dogok at b ⊢
    rw [show q_ow P' i = q_ow P i from (h _ (by omega)).symm, show q_dr P' i = q_dr P i from (h _ (by omega)).symm, show q_sa P' i = q_sa P i from (h _ (by omega)).symm, show q_hs P' i = q_hs P i from (h _ (by omega)).symm, show q_fr P' i = q_fr P i from (h _ (by omega)).symm]
    refine ⟨b.1, b.2.1, b.2.2.1, b.2.2.2.1, b.2.2.2.2.1, fun p hp => ?_, b.2.2.2.2.2.2.1, b.2.2.2.2.2.2.2⟩
    rw [show q_ls P' i p = q_ls P i p from (h _ (by omega)).symm]
    exact b.2.2.2.2.2.1 p hp
  · rw [show q_rk P' k = q_rk P k from (h _ (by omega)).symm]; exact a3 k hk
  · rw [← h 1 (by decide), ← h 2 (by decide)]; exact a4
  · rw [← h 2 (by decide)]; exact a5
  · rw [← h 3 (by decide), ← e7]; exact a6
  · rw [← e7] at hi hj
    rw [← hd i hi, ← hd j hj] at hdd
    exact a7 i j hi hj hdd
theorem q_same_in2 {P P' : Nat → Int} (h : q_same P P') (hn : q_nd P ≤ 12) (h2 : q_in2 P) : q_in2 P' := fun i hi hs => by
  have e7 : q_nd P = q_nd P' := h 7 (by decide)
  rw [← e7] at hi
  rw [show q_hs P' i = q_hs P i from (h _ (by omega)).symm]
  exact h2 i hi (by rw [show q_sa P i = q_sa P' i from h _ (by omega)]; exact hs)
theorem q_same_pok {P P' : Nat → Int} (h : q_same P P') (hp : q_pok P) : q_pok P' := ⟨q_same_inv h hp.1, q_same_in2 h hp.1.1.2 hp.2⟩
/-! a dog that waits has not run: kept -/
theorem in2_ent {R : Nat → Int} {n : Nat} {o d : Int} (h : q_in2 R) (hn : q_nd R = (n : Int)) : q_in2 (q_ent R n o d) := fun i hi hs => by
  rw [q_ent_nd] at hi
  rw [q_ent_sa] at hs
  rw [q_ent_hs]
  by_cases e : i = n
  · rw [if_pos e]
  · rw [if_neg e] at hs ⊢
    exact h i (by omega) hs
theorem in2_gon {R : Nat → Int} {j : Nat} (h : q_in2 R) : q_in2 (q_gon R j) := fun i hi hs => by
  rw [q_gon_nd] at hi
  rw [q_gon_sa] at hs
  rw [q_gon_hs]
  by_cases e : i = j
  · rw [if_pos e] at hs; omega
  · rw [if_neg e] at hs; exact h i hi hs
theorem in2_brk {R : Nat → Int} {j : Nat} {ph : Int} (h : q_in2 R) : q_in2 (q_brk R j ph) := fun i hi hs => by
  rw [q_brk_nd] at hi
  rw [q_brk_sa] at hs
  rw [q_brk_hs]
  by_cases e : i = j
  · rw [if_pos e] at hs; omega
  · rw [if_neg e] at hs; exact h i hi hs
theorem in2_nxt {R : Nat → Int} {v : Int} (h : q_in2 R) : q_in2 (q_nxt R v) := fun i hi hs => by
  rw [q_nxt_nd] at hi; rw [q_nxt_sa] at hs; rw [q_nxt_hs]; exact h i hi hs
theorem in2_srk {R f : Nat → Int} (h : q_in2 R) : q_in2 (q_srk R f) := fun i hi hs => by
  rw [q_srk_nd] at hi; rw [q_srk_sa] at hs; rw [q_srk_hs]; exact h i hi hs
theorem in2_sdr {R : Nat → Int} {j : Nat} {d : Int} (h : q_in2 R) : q_in2 (q_sdr R j d) := fun i hi hs => by
  rw [q_sdr_nd] at hi; rw [q_sdr_sa] at hs; rw [q_sdr_hs]; exact h i hi hs
theorem in2_nr {R : Nat → Int} {j : Nat} {L : Nat → Int} (h : q_in2 R) : q_in2 (q_nr R j L) := fun i hi hs => by
  rw [q_nr_nd] at hi
  rw [q_nr_sa] at hs
  rw [q_nr_hs]
  by_cases e : i = j
  · rw [if_pos e] at hs; omega
  · rw [if_neg e] at hs ⊢; exact h i hi hs
theorem in2_rno {R : Nat → Int} {j : Nat} {mi : Int} {L : Nat → Int} (h : q_in2 R) : q_in2 (q_rno R j mi L) := by
  unfold q_rno
  have hl : ∀ v, q_in2 (q_lst R v) := fun v i hi hs => by rw [q_lst_nd] at hi; rw [q_lst_sa] at hs; rw [q_lst_hs]; exact h i hi hs
  split
  · intro i hi hs; rw [q_drk_nd] at hi; rw [q_drk_sa] at hs; rw [q_drk_hs]; exact hl _ i hi hs
  · refine in2_nr (fun i hi hs => ?_)
    rw [q_cnt_nd] at hi; rw [q_cnt_sa] at hs; rw [q_cnt_hs]; exact hl _ i hi hs
theorem in2_new : q_in2 q_new := fun i hi _ => absurd hi (by show ¬ ((i : Int) < 0); omega)
theorem in2_sun {R : Nat → Int} {v : Int} (h : q_in2 R) : q_in2 (q_sun R v) := fun i hi hs => by
  have e : ∀ k, k ≠ 2 → q_sun R v k = R k := fun k hk => up_ne _ _ hk
  rw [show q_hs (q_sun R v) i = q_hs R i from e _ (by omega)]
  refine h i ?_ ?_
  · rw [← show q_nd (q_sun R v) = q_nd R from e 7 (by decide)]; exact hi
  · rw [← show q_sa (q_sun R v) i = q_sa R i from e _ (by omega)]; exact hs
theorem q_tl_in2 {T R : Nat → Int} {n s : Nat} (h : q_in2 R) : q_in2 (q_tl T n s R).2.2 := by
  unfold q_tl
  split
  · split
    · exact in2_srk h
    · exact h
  · exact h
theorem q_go_in2 {T : Nat → Int} {n : Nat} : ∀ (f s : Nat) {R : Nat → Int}, q_in2 R → 0 ≤ q_nd R → q_in2 (q_go T n f s R).2.2
  | 0, s, R, h, _ => q_tl_in2 h
  | f + 1, s, R, h, h0 => by
    rw [q_go]
    split
    · split
      · refine q_go_in2 f (s + 4) ?_ ?_
        · unfold q_dgp; exact in2_ent h (by omega)
        · unfold q_dgp; rw [q_ent_nd]; omega
      · exact h
    · exact q_tl_in2 h
theorem q_rdt_in2 (T : Nat → Int) (n : Nat) : q_in2 (q_rdt T n).2.2 := by
  unfold q_rdt
  split
  · split
    · have e : ∀ v, q_sun q_new v 7 = q_new 7 := fun v => up_ne _ _ (by decide)
      exact q_go_in2 12 4 (in2_sun in2_new) (by show 0 ≤ q_sun q_new _ 7; rw [e]; exact Int.le_refl _)
    · exact in2_new
  · exact in2_new
theorem q_rdt_pok {T : Nat → Int} {n : Nat} (h : (q_rdt T n).1 = true) : q_pok (q_rdt T n).2.2 := ⟨(q_rdt_ok h).1, q_rdt_in2 T n⟩
/-! the law's out is no part of it -/
def q_c8 (M M1 : Nat → Nat → Int) : Prop := (∀ a, (a < 8 ∨ 24 ≤ a) → (a < 155 ∨ 165 ≤ a) → a ≠ 167 → a ≠ 178 → M1 a = M a) ∧ (∀ b : Nat, b ≠ 2 → M1 167 b = M 167 b) ∧ q_b12 M M1
theorem q_c8.of {M M1 : Nat → Nat → Int} (h : q_cs M M1) : q_c8 M M1 := ⟨fun a h1 h2 h3 _ => h.1 a h1 h2 h3, h.2.1, h.2.2⟩
theorem q_c8.wr {M Mx M1 : Nat → Nat → Int} {v : Int} (h : q_cs M Mx) (e : M1 = q_wr Mx 178 0 v) : q_c8 M M1 := by
  subst e
  exact ⟨fun a h1 h2 h3 h4 => (wr_off _ _ _ h4).trans (h.1 a h1 h2 h3), fun b hb => by rw [wr_off _ _ _ (by decide)]; exact h.2.1 b hb, fun hb j hj => by rw [wr_off _ _ _ (by decide)]; exact h.2.2 hb j hj⟩
theorem q_J.same {M M2 : Nat → Nat → Int} {o n tn : Nat} (h : q_J M o n tn) (hA : ∀ a, (a < 8 ∨ (24 ≤ a ∧ a < 155) ∨ a = 165 ∨ a = 168 ∨ a = 170 ∨ a = 172 ∨ a = 174 ∨ a = 175 ∨ a = 176) → M2 a = M a) (h1 : M2 167 1 = M 167 1) (h2 : M2 169 2 = M 169 2) (h8 : M2 169 8 = M 169 8) (hb : ∀ j : Nat, j < 12 → 0 ≤ M2 12 j ∧ M2 12 j ≤ 1) : q_J M2 o n tn := by
  obtain ⟨g1, ⟨g2, g3⟩, ⟨g4, g5, g6⟩, g7, g8, ⟨g9, g10, g11, g12⟩, g13⟩ := h
  have e172 := hA 172 (by omega)
  have e165 := hA 165 (by omega)
  have e174 := hA 174 (by omega)
  have e175 := hA 175 (by omega)
  have e168 := hA 168 (by omega)
  have hd : ∀ k, q_pgd M2 k = q_pgd M k := fun k => by unfold q_pgd; rw [e174]
  have hk : ∀ k, q_pgk M2 k = q_pgk M k := fun k => by unfold q_pgk; rw [e175]
  refine ⟨g1, ⟨?_, by rw [e172]; exact g3⟩, ⟨by rw [e165]; exact g4, by rw [e165]; exact g5, h8.trans g6⟩, fun k hk9 => ?_, fun j hj => ?_, ⟨h1.trans g9, h2.trans g10, by rw [e168, hA 170 (by omega)]; exact g11, fun j hj => by rw [e168]; exact g12 j hj⟩, hb⟩
  · rw [e172]; exact q_tr_keep g2 (fun a h4 h5 => hA a (by omega))
  · have hs := q_slot_in o k
    rw [hd k]
    exact ⟨q_tr_keep (g7 k hk9).1 (fun a h4 h5 => hA a (by omega)), (g7 k hk9).2⟩
  · have g := g8 j hj
    rw [hA 154 (by omega), hA 176 (by omega), hk j]
    exact ⟨g.1, g.2.1, fun h9 => ⟨q_tr_keep (g.2.2 h9).1 (fun a h4 h5 => hA a (by omega)), (g.2.2 h9).2⟩⟩
/-- what the law finds behind both calls -/
def q_fin (M2 : Nat → Nat → Int) (k b : Int) : Prop := M2 169 0 = k ∧ (k = 0 → M2 178 0 = (iZ b).toInt) ∧ ∃ o n tn, q_J M2 o n tn
/-- a query, or a call that was refused -/
theorem q_J.query {M M1 M2 : Nat → Nat → Int} {o n tn : Nat} {c : Int} (h : q_J M o n tn) (h1 : q_c8 M M1) (h2 : q_mq c M1 M2) : q_J M2 o n tn := by
  refine h.same (fun a ha => ?_) ?_ ?_ ?_ ?_
  · rw [h2.2.1 a (by omega) (by omega) (by omega) (by omega)]; exact h1.1 a (by omega) (by omega) (by omega) (by omega)
  · rw [h2.2.1 167 (by omega) (by omega) (by omega) (by omega)]; exact h1.2.1 1 (by decide)
  · rw [h2.2.2.1, h1.1 169 (by omega) (by omega) (by omega) (by omega)]
  · rw [h2.2.2.2, h1.1 169 (by omega) (by omega) (by omega) (by omega)]
  · rw [h2.2.1 12 (by omega) (by omega) (by omega) (by omega)]; exact h1.2.2 h.2.2.2.2.2.2
/-- an action on both sides -/
theorem q_J.act {M Mx M1 M2 : Nat → Nat → Int} {R1 : Nat → Int} {o n tn : Nat} {v c : Int} (h : q_J M o n tn) (h1 : q_act M Mx (M 172) R1 o n) (e : M1 = q_wr Mx 178 0 v) (h2 : q_mz c n M1 M2) (h3 : M2 172 = R1) (hp : q_pok R1) : q_J M2 (q_ro o n) (q_rn n + 1) tn := by
  obtain ⟨g1, ⟨g2, g3⟩, ⟨g4, g5, g6⟩, g7, g8, ⟨g9, g10, g11, g12⟩, g13⟩ := h
  obtain ⟨a1, a2, a3, a4, a5, a6, a7⟩ := h1
  obtain ⟨z1, z2, z3, z4, z5, z6⟩ := h2
  have E1 : ∀ a, a ≠ 178 → M1 a = Mx a := fun a ha => by rw [e]; exact wr_off _ _ _ ha
  have hs := q_slot_in (q_ro o n) (q_rn n)
  have e2 : ∀ a, a ≠ 169 → a ≠ 171 → a ≠ 172 → a ≠ 173 → a ≠ 174 → a ≠ 177 → a ≠ 178 → M2 a = Mx a := fun a h4 h5 h6 h7 h8 h9 h10 => (z6 a h4 h5 h6 h7 h8 h9).trans (E1 a h10)
  have x174 : M1 174 = M 174 := (E1 174 (by decide)).trans (a5 174 (by omega) (by omega) (by omega) (by omega))
  have x172 : M1 172 = M 172 := (E1 172 (by decide)).trans (a5 172 (by omega) (by omega) (by omega) (by omega))
  have x175 : M2 175 = M 175 := (e2 175 (by omega) (by omega) (by omega) (by omega) (by omega) (by omega) (by omega)).trans (a5 175 (by omega) (by omega) (by omega) (by omega))
  have x154 : M2 154 = M 154 := (e2 154 (by omega) (by omega) (by omega) (by omega) (by omega) (by omega) (by omega)).trans (a5 154 (by omega) (by omega) (by omega) (by omega))
  have x176 : M2 176 = M 176 := (e2 176 (by omega) (by omega) (by omega) (by omega) (by omega) (by omega) (by omega)).trans (a5 176 (by omega) (by omega) (by omega) (by omega))
  have x168 : M2 168 = M 168 := (e2 168 (by omega) (by omega) (by omega) (by omega) (by omega) (by omega) (by omega)).trans (a5 168 (by omega) (by omega) (by omega) (by omega))
  have x170 : M2 170 = M 170 := (e2 170 (by omega) (by omega) (by omega) (by omega) (by omega) (by omega) (by omega)).trans (a5 170 (by omega) (by omega) (by omega) (by omega))
  have x165 : M2 165 = Mx 165 := e2 165 (by omega) (by omega) (by omega) (by omega) (by omega) (by omega) (by omega)
  have hk : ∀ k, q_pgk M2 k = q_pgk M k := fun k => by unfold q_pgk; rw [x175]
  have hro : q_ro o n < 14 := by unfold q_ro; split <;> omega
  have hrn : q_rn n + 1 ≤ 14 := by unfold q_rn; split <;> omega
  refine ⟨⟨hro, hrn, g1.2.2⟩, ⟨by rw [h3]; exact q_tr_keep a1 (fun a h4 h5 => e2 a (by omega) (by omega) (by omega) (by omega) (by omega) (by omega) (by omega)), by rw [h3]; exact hp⟩, ⟨by rw [x165]; exact a2, by rw [x165]; exact a3, z3⟩, fun k hk9 => ?_, fun j hj => ?_, ⟨?_, ?_, by rw [x168, x170]; exact g11, fun j hj => by rw [x168]; exact g12 j hj⟩, ?_⟩
  · by_cases hkn : k = q_rn n
    · subst hkn
      have hsm : q_same (M 172) (q_pgd M2 (q_rn n)) := fun j hj => by
        have := z5 j hj
        rw [x172] at this
        exact this.symm
      exact ⟨q_same_tr hsm g3.1.1.2 (q_tr_keep a4 (fun a h4 h5 => e2 a (by omega) (by omega) (by omega) (by omega) (by omega) (by omega) (by omega))), q_same_pok hsm g3⟩
    · obtain ⟨k1, hk1⟩ : ∃ k1, k1 = if n = 14 then k + 1 else k := ⟨_, rfl⟩
      have hr : q_rn n = if n = 14 then 13 else n := rfl
      have hk1n : k1 < n := by rw [hk1]; split at hr <;> split <;> omega
      have hsl : q_slot (q_ro o n) k = q_slot o k1 := by
        unfold q_slot q_ro
        rw [hk1]
        by_cases h14 : n = 14
        · rw [if_pos h14, if_pos h14]; omega
        · rw [if_neg h14, if_neg h14]
      have hne : q_slot o k1 + 8 ≤ q_slot (q_ro o n) (q_rn n) ∨ q_slot (q_ro o n) (q_rn n) + 8 ≤ q_slot o k1 := by
        unfold q_slot q_ro
        rw [hr, hk1]
        by_cases h14 : n = 14
        · rw [if_pos h14, if_pos h14, if_pos h14]; rw [if_pos h14] at hr; omega
        · rw [if_neg h14, if_neg h14, if_neg h14]; rw [if_neg h14] at hr; omega
      have hs1 := q_slot_in o k1
      have hsm : q_same (q_pgd M k1) (q_pgd M2 k) := fun j hj => by
        have := z4 (146 * k + j) (by omega)
        rw [x174] at this
        show M 174 (146 * k1 + j) = M2 174 (146 * k + j)
        rw [this, hk1]
        by_cases h14 : n = 14
        · rw [if_pos h14, if_pos h14]; congr 1; omega
        · rw [if_neg h14, if_neg h14]
      have hg := g7 k1 hk1n
      rw [hsl]
      exact ⟨q_same_tr hsm hg.2.1.1.2 (q_tr_keep hg.1 (fun a h4 h5 => (e2 a (by omega) (by omega) (by omega) (by omega) (by omega) (by omega) (by omega)).trans (a5 a (by omega) (by omega) (by omega) (by omega)))), q_same_pok hsm hg.2⟩
  · have g := g8 j hj
    rw [x154, x176, hk j]
    exact ⟨g.1, g.2.1, fun h9 => ⟨q_tr_keep (g.2.2 h9).1 (fun a h4 h5 => (e2 a (by omega) (by omega) (by omega) (by omega) (by omega) (by omega) (by omega)).trans (a5 a (by omega) (by omega) (by omega) (by omega))), (g.2.2 h9).2⟩⟩
  · rw [e2 167 (by omega) (by omega) (by omega) (by omega) (by omega) (by omega) (by omega)]; exact (a6 1 (by decide)).trans g9
  · rw [z2, E1 169 (by decide), a5 169 (by omega) (by omega) (by omega) (by omega)]; exact g10
  · rw [e2 12 (by omega) (by omega) (by omega) (by omega) (by omega) (by omega) (by omega)]; exact a7 g13
theorem q_J.load {M Mx M1 M2 : Nat → Nat → Int} {P : Nat → Int} {o n tn : Nat} {v : Int} (h : q_J M o n tn) (h1 : q_lod M Mx P) (e : M1 = q_wr Mx 178 0 v) (h2 : q_mld M1 M2) (h3 : M2 172 = P) (hp : q_pok P) : q_J M2 o 0 tn := by
  obtain ⟨g1, ⟨g2, g3⟩, ⟨g4, g5, g6⟩, g7, g8, ⟨g9, g10, g11, g12⟩, g13⟩ := h
  obtain ⟨a1, a2, a3, a4, a5, a6, a7, a8⟩ := h1
  obtain ⟨z1, z2, z3, z4, z5⟩ := h2
  have E1 : ∀ a, a ≠ 178 → M1 a = Mx a := fun a ha => by rw [e]; exact wr_off _ _ _ ha
  have e2 : ∀ a, a ≠ 169 → a ≠ 171 → a ≠ 172 → a ≠ 173 → a ≠ 176 → a ≠ 177 → a ≠ 178 → M2 a = Mx a := fun a h4 h5 h6 h7 h8 h9 h10 => (z5 a h4 h5 h6 h7 h8 h9).trans (E1 a h10)
  have x168 : M2 168 = M 168 := (e2 168 (by omega) (by omega) (by omega) (by omega) (by omega) (by omega) (by omega)).trans (a6 168 (by omega) (by omega) (by omega) (by omega))
  have x170 : M2 170 = M 170 := (e2 170 (by omega) (by omega) (by omega) (by omega) (by omega) (by omega) (by omega)).trans (a6 170 (by omega) (by omega) (by omega) (by omega))
  have x165 : M2 165 = Mx 165 := e2 165 (by omega) (by omega) (by omega) (by omega) (by omega) (by omega) (by omega)
  have x154 : M2 154 = Mx 154 := e2 154 (by omega) (by omega) (by omega) (by omega) (by omega) (by omega) (by omega)
  refine ⟨⟨g1.1, Nat.zero_le _, g1.2.2⟩, ⟨by rw [h3]; exact q_tr_keep a1 (fun a h4 h5 => e2 a (by omega) (by omega) (by omega) (by omega) (by omega) (by omega) (by omega)), by rw [h3]; exact hp⟩, ⟨by rw [x165]; exact a2.trans g4, by rw [x165]; exact a3, z2⟩, fun k hk9 => absurd hk9 (Nat.not_lt_zero _), fun j hj => ?_, ⟨?_, ?_, by rw [x168, x170]; exact g11, fun j hj => by rw [x168]; exact g12 j hj⟩, ?_⟩
  · rw [x154]
    rcases (show j = 0 ∨ j = 1 by omega) with rfl | rfl
    · exact ⟨a4.trans z3.symm, Or.inl a4, fun h9 => by rw [a4] at h9; omega⟩
    · exact ⟨a5.trans z4.symm, Or.inl a5, fun h9 => by rw [a5] at h9; omega⟩
  · rw [e2 167 (by omega) (by omega) (by omega) (by omega) (by omega) (by omega) (by omega)]; exact (a7 1 (by decide)).trans g9
  · rw [z1, E1 169 (by decide), a6 169 (by omega) (by omega) (by omega) (by omega)]; exact g10
  · rw [e2 12 (by omega) (by omega) (by omega) (by omega) (by omega) (by omega) (by omega)]; exact a8 g13
/-- undone, or restored -/
theorem q_J.back {M Mx M1 M2 : Nat → Nat → Int} {P : Nat → Int} {o n n1 tn : Nat} {v : Int} (h : q_J M o n tn) (hn1 : n1 ≤ n) (hp : q_pok P) (c1 : q_tr Mx 0 P) (c2 : Mx 165 1 = (o : Int)) (c3 : Mx 165 2 = (n1 : Int)) (c4 : ∀ a, a ≠ 165 → 8 ≤ a → Mx a = M a) (e : M1 = q_wr Mx 178 0 v) (d1 : M2 172 = P) (d2 : M2 169 8 = (n1 : Int)) (d3 : M2 169 2 = M1 169 2) (d4 : ∀ x, x ≠ 169 → x ≠ 172 → M2 x = M1 x) : q_J M2 o n1 tn := by
  obtain ⟨g1, ⟨g2, g3⟩, ⟨g4, g5, g6⟩, g7, g8, ⟨g9, g10, g11, g12⟩, g13⟩ := h
  have E1 : ∀ a, a ≠ 178 → M1 a = Mx a := fun a ha => by rw [e]; exact wr_off _ _ _ ha
  have e2 : ∀ a, a ≠ 169 → a ≠ 172 → a ≠ 178 → M2 a = Mx a := fun a h4 h5 h6 => (d4 a h4 h5).trans (E1 a h6)
  have e3 : ∀ a, a ≠ 165 → 8 ≤ a → a ≠ 169 → a ≠ 172 → a ≠ 178 → M2 a = M a := fun a h4 h5 h6 h7 h8 => (e2 a h6 h7 h8).trans (c4 a h4 h5)
  have hd : ∀ k, q_pgd M2 k = q_pgd M k := fun k => by unfold q_pgd; rw [e3 174 (by omega) (by omega) (by omega) (by omega) (by omega)]
  have hk : ∀ k, q_pgk M2 k = q_pgk M k := fun k => by unfold q_pgk; rw [e3 175 (by omega) (by omega) (by omega) (by omega) (by omega)]
  have x168 := e3 168 (by omega) (by omega) (by omega) (by omega) (by omega)
  refine ⟨⟨g1.1, by omega, g1.2.2⟩, ⟨by rw [d1]; exact q_tr_keep c1 (fun a h4 h5 => e2 a (by omega) (by omega) (by omega)), by rw [d1]; exact hp⟩, ⟨by rw [e2 165 (by omega) (by omega) (by omega)]; exact c2, by rw [e2 165 (by omega) (by omega) (by omega)]; exact c3, d2⟩, fun k hk9 => ?_, fun j hj => ?_, ⟨?_, ?_, by rw [x168, e3 170 (by omega) (by omega) (by omega) (by omega) (by omega)]; exact g11, fun j hj => by rw [x168]; exact g12 j hj⟩, ?_⟩
  · have hs := q_slot_in o k
    rw [hd k]
    exact ⟨q_tr_keep (g7 k (by omega)).1 (fun a h4 h5 => e3 a (by omega) (by omega) (by omega) (by omega) (by omega)), (g7 k (by omega)).2⟩
  · have g := g8 j hj
    rw [e3 154 (by omega) (by omega) (by omega) (by omega) (by omega), e3 176 (by omega) (by omega) (by omega) (by omega) (by omega), hk j]
    exact ⟨g.1, g.2.1, fun h9 => ⟨q_tr_keep (g.2.2 h9).1 (fun a h4 h5 => e3 a (by omega) (by omega) (by omega) (by omega) (by omega)), (g.2.2 h9).2⟩⟩
  · rw [e3 167 (by omega) (by omega) (by omega) (by omega) (by omega)]; exact g9
  · rw [d3, E1 169 (by decide), c4 169 (by omega) (by omega)]; exact g10
  · rw [e3 12 (by omega) (by omega) (by omega) (by omega) (by omega)]; exact g13
theorem q_J.save {M Mx M1 M2 : Nat → Nat → Int} {o n tn j0 : Nat} {v : Int} (h : q_J M o n tn) (hj0 : j0 < 2) (c1 : q_tr Mx (24 + 8 * j0) (M 172)) (c2 : Mx 154 j0 = 1 ∧ ∀ b : Nat, b ≠ j0 → Mx 154 b = M 154 b) (c3 : ∀ x, x ≠ 154 → (x < 24 + 8 * j0 ∨ 24 + 8 * j0 + 8 ≤ x) → Mx x = M x) (e : M1 = q_wr Mx 178 0 v)
    (d1 : ∀ k : Nat, k < 146 → M2 175 (146 * j0 + k) = M1 172 k) (d2 : ∀ b : Nat, (b < 146 * j0 ∨ 146 * j0 + 146 ≤ b) → M2 175 b = M1 175 b) (d3 : M2 176 j0 = 1) (d4 : ∀ b : Nat, b ≠ j0 → M2 176 b = M1 176 b) (d5 : M2 169 2 = M1 169 2) (d6 : M2 169 8 = M1 169 8) (d7 : ∀ x, x ≠ 169 → x ≠ 175 → x ≠ 176 → M2 x = M1 x) : q_J M2 o n tn := by
  obtain ⟨g1, ⟨g2, g3⟩, ⟨g4, g5, g6⟩, g7, g8, ⟨g9, g10, g11, g12⟩, g13⟩ := h
  have E1 : ∀ a, a ≠ 178 → M1 a = Mx a := fun a ha => by rw [e]; exact wr_off _ _ _ ha
  have e3 : ∀ a, a ≠ 154 → a ≠ 169 → a ≠ 175 → a ≠ 176 → a ≠ 178 → (a < 24 + 8 * j0 ∨ 24 + 8 * j0 + 8 ≤ a) → M2 a = M a := fun a h4 h5 h6 h7 h8 h9 => ((d7 a h5 h6 h7).trans (E1 a h8)).trans (c3 a h4 h9)
  have x172 : M1 172 = M 172 := (E1 172 (by decide)).trans (c3 172 (by decide) (by omega))
  have x175 : M1 175 = M 175 := (E1 175 (by decide)).trans (c3 175 (by decide) (by omega))
  have x176 : M1 176 = M 176 := (E1 176 (by decide)).trans (c3 176 (by decide) (by omega))
  have x169 : M1 169 = M 169 := (E1 169 (by decide)).trans (c3 169 (by decide) (by omega))
  have x154 : M2 154 = Mx 154 := (d7 154 (by decide) (by decide) (by decide)).trans (E1 154 (by decide))
  have y172 := e3 172 (by omega) (by omega) (by omega) (by omega) (by omega) (by omega)
  have y165 := e3 165 (by omega) (by omega) (by omega) (by omega) (by omega) (by omega)
  have y168 := e3 168 (by omega) (by omega) (by omega) (by omega) (by omega) (by omega)
  have hd : ∀ k, q_pgd M2 k = q_pgd M k := fun k => by unfold q_pgd; rw [e3 174 (by omega) (by omega) (by omega) (by omega) (by omega) (by omega)]
  refine ⟨g1, ⟨by rw [y172]; exact q_tr_keep g2 (fun a h4 h5 => e3 a (by omega) (by omega) (by omega) (by omega) (by omega) (by omega)), by rw [y172]; exact g3⟩, ⟨by rw [y165]; exact g4, by rw [y165]; exact g5, by rw [d6, x169]; exact g6⟩, fun k hk9 => ?_, fun j hj => ?_, ⟨?_, by rw [d5, x169]; exact g10, by rw [y168, e3 170 (by omega) (by omega) (by omega) (by omega) (by omega) (by omega)]; exact g11, fun j hj => by rw [y168]; exact g12 j hj⟩, ?_⟩
  · have hs := q_slot_in o k
    rw [hd k]
    exact ⟨q_tr_keep (g7 k hk9).1 (fun a h4 h5 => e3 a (by omega) (by omega) (by omega) (by omega) (by omega) (by omega)), (g7 k hk9).2⟩
  · rw [x154]
    by_cases ej : j = j0
    · subst ej
      have hsm : q_same (M 172) (q_pgk M2 j) := fun i hi => by
        have := d1 i hi
        rw [x172] at this
        exact this.symm
      refine ⟨c2.1.trans d3.symm, Or.inr c2.1, fun _ => ⟨q_same_tr hsm g3.1.1.2 (q_tr_keep c1 (fun a h4 h5 => (d7 a (by omega) (by omega) (by omega)).trans (E1 a (by omega)))), q_same_pok hsm g3⟩⟩
    · have g := g8 j hj
      have hsm : q_same (q_pgk M j) (q_pgk M2 j) := fun i hi => by
        have := d2 (146 * j + i) (by omega)
        rw [x175] at this
        exact this.symm
      rw [c2.2 j ej, d4 j ej, x176]
      exact ⟨g.1, g.2.1, fun h9 => ⟨q_same_tr hsm (g.2.2 h9).2.1.1.2 (q_tr_keep (g.2.2 h9).1 (fun a h4 h5 => e3 a (by omega) (by omega) (by omega) (by omega) (by omega) (by omega))), q_same_pok hsm (g.2.2 h9).2⟩⟩
  · rw [e3 167 (by omega) (by omega) (by omega) (by omega) (by omega) (by omega)]; exact g9
  · rw [e3 12 (by omega) (by omega) (by omega) (by omega) (by omega) (by omega)]; exact g13
theorem q_J.app {M Mx M1 M2 : Nat → Nat → Int} {o n tn : Nat} {v a : Int} (h : q_J M o n tn) (ht : tn < 70) (ha : 0 ≤ a ∧ a ≤ 255) (c1 : Mx = q_wr (q_wr M 168 tn a) 167 1 ((tn : Int) + 1)) (e : M1 = q_wr Mx 178 0 v) (d1 : M2 = q_wr (q_wr (q_wr M1 169 0 0) 170 tn a) 169 2 ((tn : Int) + 1)) : q_J M2 o n (tn + 1) := by
  obtain ⟨g1, ⟨g2, g3⟩, ⟨g4, g5, g6⟩, g7, g8, ⟨g9, g10, g11, g12⟩, g13⟩ := h
  have e3 : ∀ x, x ≠ 167 → x ≠ 168 → x ≠ 169 → x ≠ 170 → x ≠ 178 → M2 x = M x := fun x h4 h5 h6 h7 h8 => by rw [d1, wr_off _ _ _ h6, wr_off _ _ _ h7, wr_off _ _ _ h6, e, wr_off _ _ _ h8, c1, wr_off _ _ _ h4, wr_off _ _ _ h5]
  have x168 : M2 168 = q_up (M 168) tn a := by rw [d1, wr_off _ _ _ (by decide), wr_off _ _ _ (by decide), wr_off _ _ _ (by decide), e, wr_off _ _ _ (by decide), c1, wr_off _ _ _ (by decide), wr_at]
  have x170 : M2 170 = q_up (M 170) tn a := by rw [d1, wr_off _ _ _ (by decide), wr_at, wr_off _ _ _ (by decide), e, wr_off _ _ _ (by decide), c1, wr_off _ _ _ (by decide), wr_off _ _ _ (by decide)]
  have hd : ∀ k, q_pgd M2 k = q_pgd M k := fun k => by unfold q_pgd; rw [e3 174 (by omega) (by omega) (by omega) (by omega) (by omega)]
  have hk : ∀ k, q_pgk M2 k = q_pgk M k := fun k => by unfold q_pgk; rw [e3 175 (by omega) (by omega) (by omega) (by omega) (by omega)]
  have y172 := e3 172 (by omega) (by omega) (by omega) (by omega) (by omega)
  have y165 := e3 165 (by omega) (by omega) (by omega) (by omega) (by omega)
  refine ⟨⟨g1.1, g1.2.1, by omega⟩, ⟨by rw [y172]; exact q_tr_keep g2 (fun x h4 h5 => e3 x (by omega) (by omega) (by omega) (by omega) (by omega)), by rw [y172]; exact g3⟩, ⟨by rw [y165]; exact g4, by rw [y165]; exact g5, ?_⟩, fun k hk9 => ?_, fun j hj => ?_, ⟨?_, ?_, by rw [x168, x170, g11], fun j hj => ?_⟩, ?_⟩
  · rw [d1, wr_ne _ _ _ (by decide), wr_off _ _ _ (by decide), wr_ne _ _ _ (by decide), e, wr_off _ _ _ (by decide), c1, wr_off _ _ _ (by decide), wr_off _ _ _ (by decide)]; exact g6
  · have hs := q_slot_in o k
    rw [hd k]
    exact ⟨q_tr_keep (g7 k hk9).1 (fun x h4 h5 => e3 x (by omega) (by omega) (by omega) (by omega) (by omega)), (g7 k hk9).2⟩
  · have g := g8 j hj
    rw [e3 154 (by omega) (by omega) (by omega) (by omega) (by omega), e3 176 (by omega) (by omega) (by omega) (by omega) (by omega), hk j]
    exact ⟨g.1, g.2.1, fun h9 => ⟨q_tr_keep (g.2.2 h9).1 (fun x h4 h5 => e3 x (by omega) (by omega) (by omega) (by omega) (by omega)), (g.2.2 h9).2⟩⟩
  · rw [d1, wr_off _ _ _ (by decide), wr_off _ _ _ (by decide), wr_off _ _ _ (by decide), e, wr_off _ _ _ (by decide), c1, wr_eq]; omega
  · rw [d1, wr_eq]; omega
  · rw [x168]
    by_cases ej : j = tn
    · rw [ej, up_eq]; exact ha
    · rw [up_ne _ _ ej]; exact g12 j (by omega)
  · rw [e3 12 (by omega) (by omega) (by omega) (by omega) (by omega)]; exact g13
theorem q_J.clr {M M1 M2 : Nat → Nat → Int} {o n tn : Nat} (h : q_J M o n tn) (e : M1 = q_wr M 167 1 0) (d1 : M2 = q_wr (q_wr M1 169 0 0) 169 2 0) : q_J M2 o n 0 := by
  obtain ⟨g1, ⟨g2, g3⟩, ⟨g4, g5, g6⟩, g7, g8, ⟨g9, g10, g11, g12⟩, g13⟩ := h
  have e3 : ∀ x, x ≠ 167 → x ≠ 169 → M2 x = M x := fun x h4 h6 => by rw [d1, wr_off _ _ _ h6, wr_off _ _ _ h6, e, wr_off _ _ _ h4]
  have hd : ∀ k, q_pgd M2 k = q_pgd M k := fun k => by unfold q_pgd; rw [e3 174 (by omega) (by omega)]
  have hk : ∀ k, q_pgk M2 k = q_pgk M k := fun k => by unfold q_pgk; rw [e3 175 (by omega) (by omega)]
  have y172 := e3 172 (by omega) (by omega)
  have y165 := e3 165 (by omega) (by omega)
  refine ⟨⟨g1.1, g1.2.1, Nat.zero_le _⟩, ⟨by rw [y172]; exact q_tr_keep g2 (fun x h4 h5 => e3 x (by omega) (by omega)), by rw [y172]; exact g3⟩, ⟨by rw [y165]; exact g4, by rw [y165]; exact g5, ?_⟩, fun k hk9 => ?_, fun j hj => ?_, ⟨?_, ?_, by rw [e3 168 (by omega) (by omega), e3 170 (by omega) (by omega)]; exact g11, fun j hj => absurd hj (Nat.not_lt_zero _)⟩, ?_⟩
  · rw [d1, wr_ne _ _ _ (by decide), wr_ne _ _ _ (by decide), e, wr_off _ _ _ (by decide)]; exact g6
  · have hs := q_slot_in o k
    rw [hd k]
    exact ⟨q_tr_keep (g7 k hk9).1 (fun x h4 h5 => e3 x (by omega) (by omega)), (g7 k hk9).2⟩
  · have g := g8 j hj
    rw [e3 154 (by omega) (by omega), e3 176 (by omega) (by omega), hk j]
    exact ⟨g.1, g.2.1, fun h9 => ⟨q_tr_keep (g.2.2 h9).1 (fun x h4 h5 => e3 x (by omega) (by omega)), (g.2.2 h9).2⟩⟩
  · rw [d1, wr_off _ _ _ (by decide), wr_off _ _ _ (by decide), e, wr_eq]; rfl
  · rw [d1, wr_eq]; rfl
  · rw [e3 12 (by omega) (by omega)]; exact g13
