/-! STATES of one object, as the law sees them: the page now, how many are remembered, their pages, which slots are saved, their pages -/
abbrev gS : Type := (Nat → Int) × Nat × (Nat → Nat → Int) × (Nat → Int) × (Nat → Nat → Int)
def q_in3 (R : Nat → Int) : Prop := ∀ i : Nat, (i : Int) < q_nd R → (q_sa R i = 0 → q_hs R i = 0) ∧ (q_sa R i = 1 → q_fr R i = 6) ∧ (q_sa R i = 2 → q_fr R i < 6)
def q_pk (R : Nat → Int) : Prop := q_inv R ∧ q_in3 R ∧ 1 ≤ q_nd R
def s_ok (σ : gS) : Prop := q_pk σ.1 ∧ σ.2.1 ≤ 14 ∧ (∀ k : Nat, k < σ.2.1 → q_pk (σ.2.2.1 k)) ∧ (∀ j : Nat, j < 2 → (σ.2.2.2.1 j = 0 ∨ σ.2.2.2.1 j = 1) ∧ (σ.2.2.2.1 j = 1 → q_pk (σ.2.2.2.2 j)))
def q_K (M : Nat → Nat → Int) (σ : gS) : Prop := q_tr M 0 σ.1 ∧ (∃ o : Nat, o < 14 ∧ M 165 1 = (o : Int) ∧ ∀ k : Nat, k < σ.2.1 → q_tr M (q_slot o k) (σ.2.2.1 k)) ∧ M 165 2 = (σ.2.1 : Int) ∧ (∀ j : Nat, j < 2 → M 154 j = σ.2.2.2.1 j ∧ (σ.2.2.2.1 j = 1 → q_tr M (24 + 8 * j) (σ.2.2.2.2 j))) ∧ (∃ tn : Nat, tn ≤ 70 ∧ M 167 1 = (tn : Int)) ∧ (∀ j : Nat, j < 12 → 0 ≤ M 12 j ∧ M 12 j ≤ 1)
/-- beyond the object nothing changes -/
def q_bd (M M1 : Nat → Nat → Int) : Prop := ∀ a, 169 ≤ a → M1 a = M a
theorem q_bd.rf (M : Nat → Nat → Int) : q_bd M M := fun _ _ => rfl
theorem q_bd.tr {M M1 M2 : Nat → Nat → Int} (h : q_bd M M1) (h2 : q_bd M1 M2) : q_bd M M2 := fun a ha => (h2 a ha).trans (h a ha)
theorem q_bd.cs {M M1 : Nat → Nat → Int} (h : q_cs M M1) : q_bd M M1 := fun a ha => h.1 a (by omega) (by omega) (by omega)
theorem q_K.keep {M M1 : Nat → Nat → Int} {σ : gS} (h : q_K M σ) (e : ∀ a, a < 169 → M1 a = M a) : q_K M1 σ := by
  obtain ⟨h1, ⟨o, h2, h3, h4⟩, h5, h6, h7, h8⟩ := h
  refine ⟨q_tr_keep h1 (fun a _ _ => e a (by omega)), ⟨o, h2, by rw [e 165 (by omega)]; exact h3, fun k hk => ?_⟩, by rw [e 165 (by omega)]; exact h5, fun j hj => ?_, ?_, ?_⟩
  · have hs := q_slot_in o k
    exact q_tr_keep (h4 k hk) (fun a _ _ => e a (by omega))
  · rw [e 154 (by omega)]
    exact ⟨(h6 j hj).1, fun hv => q_tr_keep ((h6 j hj).2 hv) (fun a _ _ => e a (by omega))⟩
  · rw [e 167 (by omega)]; exact h7
  · rw [e 12 (by omega)]; exact h8
theorem q_K.cs {M M1 : Nat → Nat → Int} {σ : gS} (h : q_K M σ) (h1 : q_cs M M1) : q_K M1 σ := by
  obtain ⟨g1, ⟨o, g2, g3, g4⟩, g5, g6, ⟨tn, g7, g8⟩, g9⟩ := h
  refine ⟨h1.tr0 g1, ⟨o, g2, by rw [h1.mem]; exact g3, fun k hk => ?_⟩, by rw [h1.mem]; exact g5, fun j hj => ?_, ⟨tn, g7, by rw [h1.2.1 1 (by decide)]; exact g8⟩, h1.2.2 g9⟩
  · have hs := q_slot_in o k
    exact q_tr_keep (g4 k hk) (fun a _ _ => h1.1 a (by omega) (by omega) (by omega))
  · rw [h1.1 154 (by omega) (by omega) (by omega)]
    exact ⟨(g6 j hj).1, fun hv => q_tr_keep ((g6 j hj).2 hv) (fun a _ _ => h1.1 a (by omega) (by omega) (by omega))⟩
/-! an action, undo, save, restore, load -/
def s_act (σ : gS) (R1 : Nat → Int) : gS := (R1, q_rn σ.2.1 + 1, (fun k => if k = q_rn σ.2.1 then σ.1 else σ.2.2.1 (if σ.2.1 = 14 then k + 1 else k)), σ.2.2.2)
def s_und (σ : gS) : gS := (σ.2.2.1 (σ.2.1 - 1), σ.2.1 - 1, σ.2.2)
def s_sav (σ : gS) (a : Nat) : gS := (σ.1, σ.2.1, σ.2.2.1, q_up σ.2.2.2.1 a 1, fun j => if j = a then σ.1 else σ.2.2.2.2 j)
def s_res (σ : gS) (a : Nat) : gS := (σ.2.2.2.2 a, 0, σ.2.2)
def s_new (P : Nat → Int) : gS := (P, 0, (fun _ => q_new), (fun _ => 0), fun _ => q_new)
theorem q_slot_act {o n k : Nat} (ho : o < 14) (hn : n ≤ 14) (hk : k < q_rn n) : q_slot (q_ro o n) k = q_slot o (if n = 14 then k + 1 else k) := by
  unfold q_slot q_ro
  unfold q_rn at hk
  by_cases h14 : n = 14
  · rw [if_pos h14, if_pos h14]; omega
  · rw [if_neg h14, if_neg h14]
theorem q_slot_ne {o n k : Nat} (ho : o < 14) (hn : n ≤ 14) (hk : k < q_rn n) : q_slot (q_ro o n) k + 8 ≤ q_slot (q_ro o n) (q_rn n) ∨ q_slot (q_ro o n) (q_rn n) + 8 ≤ q_slot (q_ro o n) k := by
  have h1 : q_ro o n < 14 := by unfold q_ro; split <;> omega
  have h2 : q_rn n < 14 := by unfold q_rn; split <;> omega
  unfold q_slot
  omega
theorem q_K.act {M M1 : Nat → Nat → Int} {σ : gS} {R1 : Nat → Int} {o : Nat} (h : q_K M σ) (hn : σ.2.1 ≤ 14) (ho : o < 14) (hm : M 165 1 = (o : Int)) (h1 : q_act M M1 σ.1 R1 o σ.2.1) : q_K M1 (s_act σ R1) := by
  obtain ⟨g1, ⟨o', g2, g3, g4⟩, g5, g6, ⟨tn, g7, g8⟩, g9⟩ := h
  have ho' : o' = o := by omega
  subst ho'
  obtain ⟨a1, a2, a3, a4, a5, a6, a7⟩ := h1
  have hro : q_ro o' σ.2.1 < 14 := by unfold q_ro; split <;> omega
  have hs0 := q_slot_in (q_ro o' σ.2.1) (q_rn σ.2.1)
  refine ⟨a1, ⟨q_ro o' σ.2.1, hro, a2, fun k hk => ?_⟩, a3, fun j hj => ?_, ⟨tn, g7, by rw [a6 1 (by decide)]; exact g8⟩, a7 g9⟩
  · have hk : k < q_rn σ.2.1 + 1 := hk
    show q_tr M1 _ (if k = q_rn σ.2.1 then σ.1 else σ.2.2.1 (if σ.2.1 = 14 then k + 1 else k))
    by_cases ek : k = q_rn σ.2.1
    · rw [if_pos ek, ek]; exact a4
    · rw [if_neg ek]
      have hk2 : k < q_rn σ.2.1 := by omega
      have hne := q_slot_ne g2 hn hk2
      have hs := q_slot_in (q_ro o' σ.2.1) k
      have hkn : (if σ.2.1 = 14 then k + 1 else k) < σ.2.1 := by unfold q_rn at hk2; split <;> (split at hk2 <;> omega)
      have h9 := g4 _ hkn
      rw [← q_slot_act g2 hn hk2] at h9
      exact q_tr_keep h9 (fun a h7 h8 => a5 a (by omega) (by omega) (by omega) (by omega))
  · rw [a5 154 (by omega) (by omega) (by omega) (by omega)]
    exact ⟨(g6 j hj).1, fun hv => q_tr_keep ((g6 j hj).2 hv) (fun a h7 h8 => a5 a (by omega) (by omega) (by omega) (by omega))⟩
theorem q_bd.act {M M1 : Nat → Nat → Int} {R R1 : Nat → Int} {o n : Nat} (h : q_act M M1 R R1 o n) : q_bd M M1 := fun a ha => h.2.2.2.2.1 a (by omega) (by omega) (by have := q_slot_in (q_ro o n) (q_rn n); omega) (by omega)
theorem q_K.back {M M1 : Nat → Nat → Int} {σ : gS} {P : Nat → Int} {o n1 : Nat} (h : q_K M σ) (ho : o < 14) (hm : M 165 1 = (o : Int)) (hn : n1 ≤ σ.2.1) (c1 : q_tr M1 0 P) (c2 : M1 165 1 = (o : Int)) (c3 : M1 165 2 = (n1 : Int)) (c4 : ∀ a, a ≠ 165 → 8 ≤ a → M1 a = M a) : q_K M1 (P, n1, σ.2.2) := by
  obtain ⟨g1, ⟨o', g2, g3, g4⟩, g5, g6, ⟨tn, g7, g8⟩, g9⟩ := h
  have ho' : o' = o := by omega
  subst ho'
  refine ⟨c1, ⟨o', g2, c2, fun k hk => ?_⟩, c3, fun j hj => ?_, ⟨tn, g7, by rw [c4 167 (by omega) (by omega)]; exact g8⟩, by rw [c4 12 (by omega) (by omega)]; exact g9⟩
  · have hk : k < n1 := hk
    have hs := q_slot_in o' k
    exact q_tr_keep (g4 k (by omega)) (fun a _ _ => c4 a (by omega) (by omega))
  · rw [c4 154 (by omega) (by omega)]
    exact ⟨(g6 j hj).1, fun hv => q_tr_keep ((g6 j hj).2 hv) (fun a _ _ => c4 a (by omega) (by omega))⟩
theorem q_K.sav {M M1 : Nat → Nat → Int} {σ : gS} {j0 : Nat} (h : q_K M σ) (hj0 : j0 < 2) (c1 : q_tr M1 (24 + 8 * j0) σ.1) (c2 : M1 154 j0 = 1 ∧ ∀ b : Nat, b ≠ j0 → M1 154 b = M 154 b) (c3 : ∀ x, x ≠ 154 → (x < 24 + 8 * j0 ∨ 24 + 8 * j0 + 8 ≤ x) → M1 x = M x) : q_K M1 (s_sav σ j0) := by
  obtain ⟨g1, ⟨o, g2, g3, g4⟩, g5, g6, ⟨tn, g7, g8⟩, g9⟩ := h
  refine ⟨q_tr_keep g1 (fun a _ _ => c3 a (by omega) (by omega)), ⟨o, g2, by rw [c3 165 (by omega) (by omega)]; exact g3, fun k hk => ?_⟩, by rw [c3 165 (by omega) (by omega)]; exact g5, fun j hj => ?_, ⟨tn, g7, by rw [c3 167 (by omega) (by omega)]; exact g8⟩, by rw [c3 12 (by omega) (by omega)]; exact g9⟩
  · have hs := q_slot_in o k
    exact q_tr_keep (g4 k hk) (fun a _ _ => c3 a (by omega) (by omega))
  · show M1 154 j = q_up σ.2.2.2.1 j0 1 j ∧ (q_up σ.2.2.2.1 j0 1 j = 1 → q_tr M1 (24 + 8 * j) (if j = j0 then σ.1 else σ.2.2.2.2 j))
    by_cases ej : j = j0
    · subst ej
      rw [up_eq, if_pos rfl]
      exact ⟨c2.1, fun _ => c1⟩
    · rw [up_ne _ _ ej, if_neg ej, c2.2 j ej]
      exact ⟨(g6 j hj).1, fun hv => q_tr_keep ((g6 j hj).2 hv) (fun a _ _ => c3 a (by omega) (by omega))⟩
/-! WHAT A STATE MUST BE STAYS SO -/
theorem in3_ent {R : Nat → Int} {n : Nat} {o d : Int} (h : q_in3 R) (hn : q_nd R = (n : Int)) : q_in3 (q_ent R n o d) := fun i hi => by
  rw [q_ent_nd] at hi
  rw [q_ent_sa, q_ent_hs, q_ent_fr]
  by_cases e : i = n
  · rw [if_pos e, if_pos e, if_pos e]; exact ⟨fun _ => rfl, fun h9 => by omega, fun h9 => by omega⟩
  · rw [if_neg e, if_neg e, if_neg e]; exact h i (by omega)
theorem in3_gon {R : Nat → Int} {j : Nat} (h : q_in3 R) : q_in3 (q_gon R j) := fun i hi => by
  rw [q_gon_nd] at hi
  rw [q_gon_sa, q_gon_hs, q_gon_fr]
  by_cases e : i = j
  · rw [if_pos e]; exact ⟨fun h9 => by omega, fun h9 => by omega, fun h9 => by omega⟩
  · rw [if_neg e]; exact h i hi
theorem in3_brk {R : Nat → Int} {j : Nat} {ph : Int} (h : q_in3 R) (hp : ph ≤ 5) : q_in3 (q_brk R j ph) := fun i hi => by
  rw [q_brk_nd] at hi
  rw [q_brk_sa, q_brk_hs, q_brk_fr]
  by_cases e : i = j
  · rw [if_pos e, if_pos e]; exact ⟨fun h9 => by omega, fun h9 => by omega, fun h9 => by omega⟩
  · rw [if_neg e, if_neg e]; exact h i hi
theorem in3_nxt {R : Nat → Int} {v : Int} (h : q_in3 R) : q_in3 (q_nxt R v) := fun i hi => by
  rw [q_nxt_nd] at hi; rw [q_nxt_sa, q_nxt_hs, q_nxt_fr]; exact h i hi
theorem in3_srk {R f : Nat → Int} (h : q_in3 R) : q_in3 (q_srk R f) := fun i hi => by
  rw [q_srk_nd] at hi; rw [q_srk_sa, q_srk_hs, q_srk_fr]; exact h i hi
theorem in3_sdr {R : Nat → Int} {j : Nat} {d : Int} (h : q_in3 R) : q_in3 (q_sdr R j d) := fun i hi => by
  rw [q_sdr_nd] at hi; rw [q_sdr_sa, q_sdr_hs, q_sdr_fr]; exact h i hi
theorem in3_nr {R : Nat → Int} {j : Nat} {L : Nat → Int} (h : q_in3 R) : q_in3 (q_nr R j L) := fun i hi => by
  rw [q_nr_nd] at hi
  rw [q_nr_sa, q_nr_hs, q_nr_fr]
  by_cases e : i = j
  · rw [if_pos e, if_pos e, if_pos e]; exact ⟨fun h9 => by omega, fun _ => rfl, fun h9 => by omega⟩
  · rw [if_neg e, if_neg e, if_neg e]; exact h i hi
theorem in3_rno {R : Nat → Int} {j : Nat} {mi : Int} {L : Nat → Int} (h : q_in3 R) : q_in3 (q_rno R j mi L) := by
  have hl : ∀ v, q_in3 (q_lst R v) := fun v i hi => by rw [q_lst_nd] at hi; rw [q_lst_sa, q_lst_hs, q_lst_fr]; exact h i hi
  unfold q_rno
  split
  · intro i hi; rw [q_drk_nd] at hi; rw [q_drk_sa, q_drk_hs, q_drk_fr]; exact hl _ i hi
  · refine in3_nr (fun i hi => ?_)
    rw [q_cnt_nd] at hi; rw [q_cnt_sa, q_cnt_hs, q_cnt_fr]; exact hl _ i hi
theorem s_ok.act {σ : gS} {R1 : Nat → Int} (h : s_ok σ) (h1 : q_pk R1) : s_ok (s_act σ R1) := by
  obtain ⟨a, b, c, d⟩ := h
  refine ⟨h1, ?_, fun k hk => ?_, d⟩
  · show q_rn σ.2.1 + 1 ≤ 14
    unfold q_rn; split <;> omega
  · have hk : k < q_rn σ.2.1 + 1 := hk
    show q_pk (if k = q_rn σ.2.1 then σ.1 else σ.2.2.1 (if σ.2.1 = 14 then k + 1 else k))
    by_cases ek : k = q_rn σ.2.1
    · rw [if_pos ek]; exact a
    · rw [if_neg ek]
      have hk2 : k < q_rn σ.2.1 := by omega
      exact c _ (by unfold q_rn at hk2; split <;> (split at hk2 <;> omega))
theorem s_ok.und {σ : gS} (h : s_ok σ) (hn : σ.2.1 ≠ 0) : s_ok (s_und σ) := by
  obtain ⟨a, b, c, d⟩ := h
  refine ⟨c _ (by omega), ?_, fun k hk => c k ?_, d⟩
  · show σ.2.1 - 1 ≤ 14; omega
  · have hk : k < σ.2.1 - 1 := hk; omega
theorem s_ok.sav {σ : gS} (h : s_ok σ) (j0 : Nat) : s_ok (s_sav σ j0) := by
  obtain ⟨a, b, c, d⟩ := h
  refine ⟨a, b, c, fun j hj => ?_⟩
  show (q_up σ.2.2.2.1 j0 1 j = 0 ∨ q_up σ.2.2.2.1 j0 1 j = 1) ∧ (q_up σ.2.2.2.1 j0 1 j = 1 → q_pk (if j = j0 then σ.1 else σ.2.2.2.2 j))
  by_cases ej : j = j0
  · subst ej
    rw [up_eq, if_pos rfl]
    exact ⟨Or.inr rfl, fun _ => a⟩
  · rw [up_ne _ _ ej, if_neg ej]
    exact d j hj
theorem s_ok.res {σ : gS} (h : s_ok σ) {j : Nat} (hj : j < 2) (hv : σ.2.2.2.1 j = 1) : s_ok (s_res σ j) :=
  ⟨(h.2.2.2 j hj).2 hv, Nat.zero_le _, fun k hk => absurd hk (Nat.not_lt_zero _), h.2.2.2⟩
theorem s_ok.new {P : Nat → Int} (h : q_pk P) : s_ok (s_new P) :=
  ⟨h, Nat.zero_le _, fun k hk => absurd hk (Nat.not_lt_zero _), fun j _ => ⟨Or.inl rfl, fun h9 => absurd (show (0 : Int) = 1 from h9) (by decide)⟩⟩
theorem q_K.lod {M M1 : Nat → Nat → Int} {P : Nat → Int} {o tn : Nat} (ho : o < 14) (hm : M 165 1 = (o : Int)) (ht : tn ≤ 70) (hm2 : M 167 1 = (tn : Int)) (hb : ∀ j : Nat, j < 12 → 0 ≤ M 12 j ∧ M 12 j ≤ 1) (h : q_lod M M1 P) : q_K M1 (s_new P) := by
  obtain ⟨a1, a2, a3, a4, a5, a6, a7, a8⟩ := h
  refine ⟨a1, ⟨o, ho, a2.trans hm, fun k hk => absurd hk (Nat.not_lt_zero _)⟩, a3, fun j hj => ⟨?_, fun h9 => absurd (show (0 : Int) = 1 from h9) (by decide)⟩, ⟨tn, ht, (a7 1 (by decide)).trans hm2⟩, a8 hb⟩
  rcases (show j = 0 ∨ j = 1 by omega) with rfl | rfl
  · exact a4
  · exact a5
/-! pages behind the actions -/
theorem p_ent {R : Nat → Int} {a b : Int} (h : q_pk R) (hc : (if ¬ (0 ≤ a ∧ a ≤ 5 ∧ 1 ≤ b ∧ b ≤ 99) then (1 : Int) else if 12 ≤ q_nd R ∨ q_dn R b (-9) (q_nd R).toNat = true then 2 else 0) = 0) : q_pk (q_ent R (q_nd R).toNat a b) := by
  have hn := h.1.1
  by_cases c1 : 0 ≤ a ∧ a ≤ 5 ∧ 1 ≤ b ∧ b ≤ 99
  · rw [if_neg (fun h9 => h9 c1)] at hc
    by_cases c2 : 12 ≤ q_nd R ∨ q_dn R b (-9) (q_nd R).toNat = true
    · rw [if_pos c2] at hc; exact absurd hc (by decide)
    · have c3 : ¬ 12 ≤ q_nd R := fun h9 => c2 (Or.inl h9)
      have c4 : q_dn R b (-9) (q_nd R).toNat = false := by cases h9 : q_dn R b (-9) (q_nd R).toNat with | true => exact absurd (Or.inr h9) c2 | false => rfl
      exact ⟨inv_ent h.1 (by omega) (by omega) ⟨c1.1, c1.2.1⟩ c1.2.2 (fun j hj => q_dn_of c4 j hj (by omega)), in3_ent h.2.1 (by omega), by rw [q_ent_nd]; have := h.2.2; omega⟩
  · rw [if_pos c1] at hc; exact absurd hc (by decide)
theorem p_gon {R : Nat → Int} {j : Nat} (h : q_pk R) : q_pk (q_gon R j) := ⟨inv_gon h.1, in3_gon h.2.1, by rw [q_gon_nd]; exact h.2.2⟩
theorem p_brk {R : Nat → Int} {a b : Int} (h : q_pk R) (hc : (if ¬ (0 ≤ a ∧ a < q_nd R ∧ 0 ≤ b ∧ b ≤ 5) then (1 : Int) else if q_sa R a.toNat ≠ 1 then 2 else 0) = 0) : q_pk (q_brk R a.toNat b) := by
  by_cases c1 : 0 ≤ a ∧ a < q_nd R ∧ 0 ≤ b ∧ b ≤ 5
  · rw [if_neg (fun h9 => h9 c1)] at hc
    by_cases c2 : q_sa R a.toNat = 1
    · have hd := dok h.1 a.toNat (by omega)
      exact ⟨inv_brk h.1 (hd.2.2.2.2.2.2 c2) c1.2.2, in3_brk h.2.1 c1.2.2.2, by rw [q_brk_nd]; exact h.2.2⟩
    · rw [if_pos c2] at hc; exact absurd hc (by decide)
  · rw [if_pos c1] at hc; exact absurd hc (by decide)
theorem p_nxt {R : Nat → Int} {a : Int} (h : q_pk R) (hc : (if 60 ≤ a ∧ a ≤ 600 then (0 : Int) else 1) = 0) : q_pk (q_nxt R a) := by
  by_cases c1 : 60 ≤ a ∧ a ≤ 600
  · exact ⟨inv_nxt h.1 c1, in3_nxt h.2.1, by rw [q_nxt_nd]; exact h.2.2⟩
  · rw [if_neg c1] at hc; exact absurd hc (by decide)
theorem p_srk {R : Nat → Int} {a : Int} (h : q_pk R) (hc : (if q_isr a = true then (0 : Int) else 1) = 0) : q_pk (q_srk R (fun k => q_kd a (5 - k))) := by
  by_cases c1 : q_isr a = true
  · exact ⟨inv_srk h.1 (q_isr_dig c1).2, in3_srk h.2.1, by rw [q_srk_nd]; exact h.2.2⟩
  · rw [if_neg c1] at hc; exact absurd hc (by decide)
theorem p_sdr {R : Nat → Int} {a b : Int} (h : q_pk R) (hc : (if ¬ (0 ≤ a ∧ a < q_nd R) then (1 : Int) else if ¬ (1 ≤ b ∧ b ≤ 99) then 2 else if q_dn R b a (q_nd R).toNat = true then 3 else 0) = 0) : q_pk (q_sdr R a.toNat b) := by
  by_cases c1 : 0 ≤ a ∧ a < q_nd R
  · rw [if_neg (fun h9 => h9 c1)] at hc
    by_cases c2 : 1 ≤ b ∧ b ≤ 99
    · rw [if_neg (fun h9 => h9 c2)] at hc
      have c4 : q_dn R b a (q_nd R).toNat = false := by cases h9 : q_dn R b a (q_nd R).toNat with | true => (rw [if_pos h9] at hc; exact absurd hc (by decide)) | false => rfl
      exact ⟨inv_sdr h.1 (by omega) c2 (fun j hj hne => q_dn_of c4 j (by omega) (by omega)), in3_sdr h.2.1, by rw [q_sdr_nd]; exact h.2.2⟩
    · rw [if_pos c2] at hc; exact absurd hc (by decide)
  · rw [if_pos c1] at hc; exact absurd hc (by decide)
theorem p_run {R : Nat → Int} {v b : Int} (h : q_pk R) (hc : (if ¬ (q_ptb v 6 = true ∧ 1 ≤ b ∧ b ≤ 30) then (1 : Int) else if q_ob R ≠ 0 then 2 else 0) = 0) : q_pk (q_rno R (q_first R).toNat b (q_dig v)) := by
  by_cases c1 : q_ptb v 6 = true ∧ 1 ≤ b ∧ b ≤ 30
  · rw [if_neg (fun h9 => h9 c1)] at hc
    by_cases c2 : q_ob R = 0
    · have hf := q_first_in h.1 (q_ob_wait c2)
      have hp := (q_ptb_pts v).mp c1.1
      exact ⟨inv_rno h.1 (by omega) (by omega) (fun p hp9 => ⟨(q_dig_in v p).1, hp.2 p hp9⟩), in3_rno h.2.1, by rw [q_rno_nd]; exact h.2.2⟩
    · rw [if_pos c2] at hc; exact absurd hc (by decide)
  · rw [if_pos c1] at hc; exact absurd hc (by decide)
