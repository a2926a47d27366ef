/-! FORECASTS: a run of the first dog as well as it can, and one that loses as much as it may; undone -/
theorem sc_congr {P P' : Nat → Int} (h : ∀ k, 7 ≤ k → P k = P' k) : q_sc P = q_sc P' := by
  have e1 : q_hs P = q_hs P' := funext fun j => h _ (by omega)
  have e2 : ∀ i, q_fr P i = q_fr P' i := fun i => h _ (by omega)
  have e3 : ∀ i p, q_ls P i p = q_ls P' i p := fun i p => h _ (by omega)
  have e4 : ∀ i, q_lo P i = q_lo P' i := fun i => funext fun p => by unfold q_lo; rw [e2, e3]
  funext i
  unfold q_sc; rw [e1, e4]
theorem pl_congr {P P' : Nat → Int} (h : ∀ k, 7 ≤ k → P k = P' k) (i : Nat) : q_pl P i = q_pl P' i := by
  have e0 : q_nd P = q_nd P' := h 7 (by omega)
  have e1 : q_hs P = q_hs P' := funext fun j => h _ (by omega)
  have e2 : ∀ i, q_fr P i = q_fr P' i := fun i => h _ (by omega)
  have e3 : ∀ i p, q_ls P i p = q_ls P' i p := fun i p => h _ (by omega)
  have e4 : ∀ i p, q_lo P i p = q_lo P' i p := fun i p => by unfold q_lo; rw [e2, e3]
  have e5 : ∀ k, q_rkn P k = q_rkn P' k := fun k => by unfold q_rkn; rw [show q_rk P k = q_rk P' k from h _ (by omega)]
  have e6 : ∀ a b n, q_ti P a b n = q_ti P' a b n := fun a b n => by
    induction n with
    | zero => rfl
    | succ n ih => rw [q_ti, q_ti, ih, e5, e4, e4]
  have e7 : ∀ a b, q_bt P a b = q_bt P' a b := fun a b => by unfold q_bt; rw [sc_congr h, e6]
  unfold q_pl
  rw [e0, e1]
  simp only [e7]
theorem first_di {R : Nat → Int} (h : q_inv R) (h0 : 0 < q_orn R) : q_first R = (q_di R 0 : Int) := by
  unfold q_first; rw [if_neg (by omega)]; exact di_eq h h0
theorem ob0 {R : Nat → Int} (h : q_inv R) (h0 : q_ob R = 0) : 0 < q_orn R ∧ R 1 < R 2 := by
  have h1 := orn_wait h
  have h2 := nwait_in h
  unfold q_ob at h0
  split at h0
  · omega
  · split at h0 <;> omega
/-- the page behind a run of a minute, so many points lost -/
def q_tp (R : Nat → Int) (v : Int) : Nat → Int := q_rno R (q_first R).toNat 1 (q_dig v)
theorem lst_cnt (R : Nat → Int) (v m : Int) {k : Nat} (hk : 7 ≤ k) : (q_cnt (q_lst R v) m) k = R k := by
  unfold q_cnt q_lst
  rw [up_ne _ _ (by omega), up_ne _ _ (by omega), up_ne _ _ (by omega)]
theorem nr_same {R P : Nat → Int} (h : ∀ k, 7 ≤ k → P k = R k) (i : Nat) (L : Nat → Int) : ∀ k, 7 ≤ k → q_nr P i L k = q_nr R i L k := fun k hk => by
  have e : q_fp P i = q_fp R i := by
    unfold q_fp
    rw [show q_sa P i = q_sa R i from h _ (by omega), show q_fr P i = q_fr R i from h _ (by omega)]
  unfold q_nr
  rw [e, h k hk]
theorem tp_eq {R : Nat → Int} (h : q_inv R) (h0 : q_ob R = 0) (v : Int) : q_tp R v = q_nr (q_cnt (q_lst R (q_di R 0 : Int)) 1) (q_di R 0) (q_dig v) := by
  have h1 := ob0 h h0
  unfold q_tp q_rno
  rw [if_neg (by omega), first_di h h1.1, Int.toNat_natCast]
theorem tp_same {R : Nat → Int} (h : q_inv R) (h0 : q_ob R = 0) (v : Int) : ∀ k, 7 ≤ k → q_tp R v k = q_nr R (q_di R 0) (q_dig v) k := by
  rw [tp_eq h h0]
  exact nr_same (fun k hk => lst_cnt R _ _ hk) _ _
theorem tp_nd {R : Nat → Int} (h : q_inv R) (h0 : q_ob R = 0) (v : Int) : q_nd (q_tp R v) = q_nd R := by rw [tp_eq h h0, q_nr_nd, q_cnt_nd, q_lst_nd]
theorem tp_sa {R : Nat → Int} (h : q_inv R) (h0 : q_ob R = 0) (v : Int) : q_sa (q_tp R v) (q_di R 0) = 1 := by rw [tp_eq h h0, q_nr_sa, if_pos rfl]
theorem tp_3 {R : Nat → Int} (h : q_inv R) (h0 : q_ob R = 0) (v : Int) : (q_tp R v) 3 = (q_di R 0 : Int) := by rw [tp_eq h h0, q_nr_s3, q_cnt_s3, q_lst_s3]
theorem dig0 (p : Nat) : q_dig 0 p = 0 := by
  have e : ∀ n, q_rst 0 n = 0 := by
    intro n; induction n with
    | zero => rfl
    | succ n ih => rw [q_rst, ih]; rfl
  unfold q_dig; rw [e]; rfl
theorem tp_bp {R : Nat → Int} (h : q_inv R) (h0 : q_ob R = 0) : q_pl (q_tp R 0) (q_di R 0) = q_bp R (q_di R 0) := by
  have h1 := ob0 h h0
  have h2 := di_in h h1.1
  have ht : q_torun R (q_di R 0) = true := by unfold q_torun; exact decide_eq_true h2.2
  unfold q_bp
  rw [if_pos ht, pl_congr (tp_same h h0 0), q_nr_congr R (q_di R 0) (L := q_dig 0) (L' := fun _ => 0) (fun p _ => dig0 p)]
theorem tp_bp2 {R : Nat → Int} (h : q_inv R) (h0 : q_ob R = 0) : q_bp (q_tp R 0) (q_di R 0) = q_bp R (q_di R 0) := by
  have hs := tp_sa h h0 0
  rw [← tp_bp h h0]
  unfold q_bp
  rw [if_neg]
  unfold q_torun
  intro h9
  have h9 := of_decide_eq_true h9
  omega
theorem bp_in {R : Nat → Int} (h : q_inv R) (i : Nat) : -9 ≤ q_bp R i ∧ q_bp R i ≤ 13 := by
  have hp : ∀ P : Nat → Int, q_nd P = q_nd R → -9 ≤ q_pl P i ∧ q_pl P i ≤ 13 := fun P hP => by
    have h8 := ct_in (fun j => decide (q_hs P j = 1) && q_bt P j i) (q_nd P).toNat
    have h0 := h.1
    unfold q_pl; split <;> omega
  unfold q_bp
  split
  · exact hp _ (q_nr_nd _ _ _)
  · exact hp _ rfl
theorem run1 {σ : gS} (h : q_inv σ.1) (h0 : q_ob σ.1 = 0) {v : Int} (hv : q_ptb v 6 = true) : cd_run σ v 1 = 0 ∧ a_run σ v 1 = q_sc (q_tp σ.1 v) (q_di σ.1 0) ∧ t_run σ v 1 = s_act σ (q_tp σ.1 v) := by
  have h1 := ob0 h h0
  have hc : cd_run σ v 1 = 0 := by unfold cd_run; rw [if_neg (fun h9 => h9 ⟨hv, by omega, by omega⟩), if_neg (fun h9 => h9 h0)]
  refine ⟨hc, ?_, t_run_0 hc⟩
  rw [ax_run_0 hc, if_pos (by unfold q_rz; rw [if_neg (by omega)]), first_di h h1.1, Int.toNat_natCast]
  unfold q_tp
  rw [first_di h h1.1, Int.toNat_natCast]
/-- undone: the page as before, one remembered less, if all fourteen were -/
def s_bk (σ : gS) : gS := (σ.1, q_rn σ.2.1, (fun k => if k = q_rn σ.2.1 then σ.1 else σ.2.2.1 (if σ.2.1 = 14 then k + 1 else k)), σ.2.2.2)
theorem und_act (σ : gS) (R1 : Nat → Int) : cd_undo (s_act σ R1) = 0 ∧ t_undo (s_act σ R1) = s_bk σ ∧ a_undo (s_act σ R1) = (q_rn σ.2.1 : Int) := by
  have hc : cd_undo (s_act σ R1) = 0 := by
    unfold cd_undo
    exact if_neg (show ¬ q_rn σ.2.1 + 1 = 0 by omega)
  refine ⟨hc, ?_, ?_⟩
  · rw [t_undo_0 hc]
    show ((if q_rn σ.2.1 + 1 - 1 = q_rn σ.2.1 then σ.1 else _), q_rn σ.2.1 + 1 - 1, _) = _
    rw [Nat.add_sub_cancel, if_pos rfl]
    rfl
  · rw [ax_undo_0 hc]
    show ((q_rn σ.2.1 + 1 : Nat) : Int) - 1 = _
    omega
theorem ok_bk {σ : gS} (h : s_ok σ) : s_ok (s_bk σ) := by
  have h1 := (h.act (R1 := σ.1) h.1).und (by show q_rn σ.2.1 + 1 ≠ 0; omega)
  have h2 := (und_act σ σ.1).2.1
  rw [t_undo_0 (und_act σ σ.1).1] at h2
  rw [← h2]; exact h1
theorem rn_in {σ : gS} (h : s_ok σ) : q_rn σ.2.1 ≤ 13 := by have := h.2.1; unfold q_rn; split <;> omega
/-! so many points spread over the phases -/
def q_lf (f L : Int) : Nat → Int | 0 => L | p + 1 => q_lf f L p - (if (p : Int) < f then 0 else if q_lf f L p < q_wth p then q_lf f L p else q_wth p)
def q_pa (f L : Int) (p : Nat) : Int := if (p : Int) < f then 0 else if q_lf f L p < q_wth p then q_lf f L p else q_wth p
theorem lf_step (f L : Int) (p : Nat) : q_lf f L (p + 1) = q_lf f L p - q_pa f L p := rfl
theorem lf_in {f L : Int} (hL : 0 ≤ L) : ∀ (p : Nat), 0 ≤ q_lf f L p ∧ q_lf f L p ≤ L
  | 0 => ⟨hL, Int.le_refl _⟩
  | p + 1 => by
    have ih := lf_in (f := f) hL p
    have hw := wth_in p
    rw [lf_step]; unfold q_pa
    (repeat' split) <;> omega
theorem pa_in {f L : Int} (hL : 0 ≤ L) (p : Nat) : 0 ≤ q_pa f L p ∧ q_pa f L p ≤ q_wth p := by
  have ih := lf_in (f := f) hL p
  have hw := wth_in p
  unfold q_pa; (repeat' split) <;> omega
theorem smw_mono {a b : Nat} (h : a ≤ b) : q_sm q_wth a ≤ q_sm q_wth b := by
  induction b with
  | zero => have : a = 0 := by omega
            subst this; exact Int.le_refl _
  | succ b ih =>
    by_cases e : a = b + 1
    · subst e; exact Int.le_refl _
    · have := ih (by omega); have hw := wth_in b; rw [q_sm]; omega
theorem lf_val {f L : Int} (hf : 0 ≤ f) (hL : 0 ≤ L) : ∀ (p : Nat), q_lf f L p = if (p : Int) ≤ f then L else max 0 (L - (q_sm q_wth p - q_sm q_wth f.toNat))
  | 0 => by rw [if_pos (by omega)]; rfl
  | p + 1 => by
    have ih := lf_val hf hL p
    have hw := wth_in p
    have hm : q_sm q_wth (p + 1) = q_sm q_wth p + q_wth p := rfl
    rw [lf_step]; unfold q_pa
    by_cases h1 : (p : Int) < f
    · rw [if_pos h1, if_pos (by omega), ih, if_pos (by omega)]; omega
    · rw [if_neg h1, if_neg (show ¬ ((p + 1 : Nat) : Int) ≤ f by omega)]
      by_cases h2 : (p : Int) ≤ f
      · rw [if_pos h2] at ih
        have e : f.toNat = p := by omega
        rw [ih, e, hm]
        split <;> omega
      · rw [if_neg h2] at ih
        have hmo := smw_mono (a := f.toNat) (b := p) (by omega)
        rw [ih, hm]
        split <;> omega
theorem lf_end {R : Nat → Int} {i : Nat} {L : Int} (hf : 0 ≤ q_fp R i ∧ q_fp R i ≤ 6) (hL : 0 ≤ L ∧ L ≤ q_tw R i) : q_lf (q_fp R i) L 6 = 0 := by
  rw [lf_val hf.1 hL.1]
  unfold q_tw at hL
  split
  · have e : (q_fp R i).toNat = 6 := by omega
    rw [e] at hL; omega
  · omega
/-- a number by its pairs of digits -/
def q_pd (a : Nat → Int) : Nat → Int | 0 => 0 | p + 1 => 100 * q_pd a p + a p
theorem pd_in {a : Nat → Int} (ha : ∀ p, 0 ≤ a p ∧ a p < 100) : ∀ (p : Nat), 0 ≤ q_pd a p ∧ q_pd a p < 100 ^ p
  | 0 => ⟨Int.le_refl 0, (show (0 : Int) < 1 by decide)⟩
  | p + 1 => by
    have ih := pd_in ha p
    have h1 := ha p
    rw [q_pd, Int.pow_succ]; omega
theorem pd_rst {a : Nat → Int} (ha : ∀ p, 0 ≤ a p ∧ a p < 100) : ∀ (n : Nat), n ≤ 6 → q_rst (q_pd a 6) n = q_pd a (6 - n)
  | 0, _ => rfl
  | n + 1, hn => by
    have h1 := ha (6 - (n + 1))
    rw [q_rst, pd_rst ha n (by omega), show 6 - n = (6 - (n + 1)) + 1 by omega, q_pd]
    omega
theorem pd_dig {a : Nat → Int} (ha : ∀ p, 0 ≤ a p ∧ a p < 100) {p : Nat} (hp : p < 6) : q_dig (q_pd a 6) p = a p := by
  have h1 := ha p
  unfold q_dig
  rw [pd_rst ha _ (by omega), show 6 - (5 - p) = p + 1 by omega, q_pd]
  omega
theorem pd_ptb {a : Nat → Int} (ha : ∀ p, 0 ≤ a p ∧ a p ≤ q_wth p) : q_ptb (q_pd a 6) 6 = true ∧ 0 ≤ q_pd a 6 ∧ q_pd a 6 ≤ 999999999999 := by
  have h1 : ∀ p, 0 ≤ a p ∧ a p < 100 := fun p => by have := ha p; have := wth_in p; omega
  have h2 := pd_in h1 6
  rw [show (100 : Int) ^ 6 = 1000000000000 by decide] at h2
  refine ⟨(q_ptb_pts _).mpr ⟨by omega, fun p hp => ?_⟩, by omega⟩
  rw [pd_dig h1 hp]; exact (ha p).2
/-! what may be lost -/
theorem dsc_in {P : Nat → Bool} : ∀ {w : Nat}, q_dsc P w ≠ -9 → ∃ k, k ≤ w ∧ P k = true ∧ q_dsc P w = (k : Int)
  | 0, h => by
    rw [q_dsc] at h ⊢
    by_cases h0 : P 0 = true
    · exact ⟨0, Nat.le_refl _, h0, if_pos h0⟩
    · rw [if_neg h0] at h; exact absurd rfl h
  | w + 1, h => by
    rw [q_dsc] at h ⊢
    by_cases h0 : P (w + 1) = true
    · exact ⟨w + 1, Nat.le_refl _, h0, if_pos h0⟩
    · rw [if_neg h0] at h ⊢
      obtain ⟨k, a, b, c⟩ := dsc_in h
      exact ⟨k, by omega, b, c⟩
theorem ml_in {R : Nat → Int} {i : Nat} {b : Int} (hf : 0 ≤ q_fp R i ∧ q_fp R i ≤ 6) (h : q_ml R i b ≠ -9) : (0 ≤ q_ml R i b ∧ q_ml R i b ≤ q_tw R i) ∧ q_ab R (q_sc (q_nr R i (fun _ => 0)) i - q_ml R i b) ≤ b - 1 := by
  unfold q_ml at h ⊢
  by_cases ht : q_torun R i = true
  · rw [if_pos ht] at h ⊢
    obtain ⟨k, h1, h2, h3⟩ := dsc_in h
    rw [h3]
    have h2 := of_decide_eq_true h2
    have h7 := smw_mono (a := (q_fp R i).toNat) (b := 6) (by omega)
    have h5 : 0 ≤ q_tw R i := by unfold q_tw; omega
    exact ⟨by omega, h2⟩
  · rw [if_neg ht] at h; exact absurd rfl h
theorem sm_add (f g : Nat → Int) : ∀ (n : Nat), q_sm (fun p => f p + g p) n = q_sm f n + q_sm g n
  | 0 => rfl
  | n + 1 => by rw [q_sm, q_sm, q_sm, sm_add f g n]; omega
theorem sm_congr {f g : Nat → Int} : ∀ {n : Nat}, (∀ p, p < n → f p = g p) → q_sm f n = q_sm g n
  | 0, _ => rfl
  | n + 1, h => by rw [q_sm, q_sm, sm_congr (fun p hp => h p (by omega)), h n (by omega)]
theorem sm_pa (f L : Int) : ∀ (n : Nat), q_sm (q_pa f L) n = L - q_lf f L n
  | 0 => by show (0 : Int) = L - L; omega
  | n + 1 => by rw [q_sm, sm_pa f L n, lf_step]; omega
theorem nr_lo (R : Nat → Int) (i : Nat) (L : Nat → Int) {p : Nat} (hp : p < 6) : q_lo (q_nr R i L) i p = if q_fp R i ≤ (p : Int) then L p else q_ls R i p := by
  unfold q_lo
  rw [q_nr_fr, if_pos rfl, if_neg (by omega), q_nr_ls _ _ _ _ _ hp]
  by_cases h : q_fp R i ≤ (p : Int)
  · rw [if_pos ⟨rfl, h⟩, if_pos h]
  · rw [if_neg (fun h9 => h h9.2), if_neg h]
theorem nr_sc (R : Nat → Int) (i : Nat) (L : Nat → Int) : q_sc (q_nr R i L) i = 100 - q_sm (fun p => if q_fp R i ≤ (p : Int) then L p else q_ls R i p) 6 := by
  unfold q_sc
  rw [q_nr_hs, if_pos rfl, if_pos rfl, sm_congr (fun p hp => nr_lo R i L hp)]
theorem sc_off (R : Nat → Int) (i : Nat) (L : Nat → Int) {j : Nat} (hj : j ≠ i) : q_sc (q_nr R i L) j = q_sc R j := by
  have e : ∀ p, p < 6 → q_lo (q_nr R i L) j p = q_lo R j p := fun p hp => by
    unfold q_lo
    rw [q_nr_fr, if_neg hj, q_nr_ls _ _ _ _ _ hp, show (if j = i ∧ q_fp R i ≤ (p : Int) then L p else q_ls R j p) = q_ls R j p from if_neg (fun h9 => hj h9.1)]
  unfold q_sc
  rw [q_nr_hs, if_neg hj, sm_congr e]
/-- what is lost is told: the score is so much less -/
theorem lose_sc {R : Nat → Int} (h : q_inv R) (h0 : q_ob R = 0) {L : Int} (hL : 0 ≤ L ∧ L ≤ q_tw R (q_di R 0)) (hf : 0 ≤ q_fp R (q_di R 0) ∧ q_fp R (q_di R 0) ≤ 6) : q_sc (q_tp R (q_pd (q_pa (q_fp R (q_di R 0)) L) 6)) (q_di R 0) = q_sc (q_nr R (q_di R 0) (fun _ => 0)) (q_di R 0) - L := by
  have ha : ∀ p, 0 ≤ q_pa (q_fp R (q_di R 0)) L p ∧ q_pa (q_fp R (q_di R 0)) L p < 100 := fun p => by have := pa_in (f := q_fp R (q_di R 0)) hL.1 p; have := wth_in p; omega
  rw [sc_congr (tp_same h h0 _), nr_sc, nr_sc]
  have e : q_sm (fun p => if q_fp R (q_di R 0) ≤ (p : Int) then q_dig (q_pd (q_pa (q_fp R (q_di R 0)) L) 6) p else q_ls R (q_di R 0) p) 6 = q_sm (fun p => (if q_fp R (q_di R 0) ≤ (p : Int) then 0 else q_ls R (q_di R 0) p) + q_pa (q_fp R (q_di R 0)) L p) 6 := sm_congr (fun p hp => by
    by_cases h1 : q_fp R (q_di R 0) ≤ (p : Int)
    · rw [if_pos h1, if_pos h1, pd_dig ha hp]; omega
    · rw [if_neg h1, if_neg h1]; unfold q_pa; rw [if_pos (by omega)]; omega)
  rw [e, sm_add, sm_pa, lf_end hf hL]
  omega
theorem lose_ab {R : Nat → Int} (h : q_inv R) (h0 : q_ob R = 0) {v s : Int} (hs : q_sc (q_tp R v) (q_di R 0) = s) : q_ct (fun j => decide (s < q_sc (q_tp R v) j)) (q_nd R).toNat ≤ q_ab R s := by
  unfold q_ab
  refine ct_le (fun j hj hp => ?_)
  have hp := of_decide_eq_true hp
  by_cases e : j = q_di R 0
  · rw [e, hs] at hp; omega
  · rw [sc_congr (tp_same h h0 v), sc_off _ _ _ e] at hp
    exact decide_eq_true hp
theorem fp_in {R : Nat → Int} (h : q_inv R) {i : Nat} (hi : (i : Int) < q_nd R) : 0 ≤ q_fp R i ∧ q_fp R i ≤ 6 := by
  have := dok5 h i hi
  unfold q_fp; split <;> omega
/-- the state behind the law's tries -/
def t_tries (σ : gS) (a : Int) : gS := if q_ob σ.1 ≠ 0 then σ else if q_ml σ.1 (q_di σ.1 0) a = -9 then s_bk σ else s_bk (s_bk σ)
theorem ok_tries {σ : gS} (h : s_ok σ) (a : Int) : s_ok (t_tries σ a) := by
  unfold t_tries
  split
  · exact h
  · split
    · exact ok_bk h
    · exact ok_bk (ok_bk h)
theorem tries_page (σ : gS) (a : Int) : (t_tries σ a).1 = σ.1 := by
  unfold t_tries
  split
  · rfl
  · split <;> rfl
theorem a_best_in {σ : gS} {i : Nat} (hi : (i : Int) < q_nd σ.1) : a_best σ (i : Int) = q_bp σ.1 i := by
  have h : cd_best σ (i : Int) = 0 := by unfold cd_best; exact if_pos ⟨by omega, hi⟩
  rw [ax_best_0 h, Int.toNat_natCast]
theorem a_may_in {σ : gS} {i : Nat} {b : Int} (hi : (i : Int) < q_nd σ.1) (hb : 1 ≤ b ∧ b ≤ 12) : a_may σ (i : Int) b = q_ml σ.1 i b := by
  have h : cd_may σ (i : Int) b = 0 := by unfold cd_may; rw [if_neg (fun h9 => h9 ⟨by omega, hi⟩), if_neg (fun h9 => h9 hb)]
  rw [ax_may_0 h, Int.toNat_natCast]
theorem run_no {σ : gS} (h0 : q_ob σ.1 ≠ 0) : cd_run σ 0 30 = 2 := by
  unfold cd_run
  rw [if_neg (fun h9 => h9 ⟨by decide +kernel, by omega, by omega⟩), if_pos h0]
theorem atk_0 {R : Nat → Int} (h : q_inv R) (h0 : 0 < q_orn R) : q_atk R 0 = (q_di R 0 : Int) := atk_di h h0
theorem ml_rng {R : Nat → Int} {i : Nat} (hf : 0 ≤ q_fp R i ∧ q_fp R i ≤ 6) (b : Int) : -9 ≤ q_ml R i b ∧ q_ml R i b ≤ 100 := by
  by_cases h : q_ml R i b = -9
  · omega
  · have h1 := (ml_in hf h).1
    have h2 := smw_mono (a := 0) (b := (q_fp R i).toNat) (by omega)
    have h3 : q_sm q_wth 0 = 0 := rfl
    have h4 := wth6
    unfold q_tw at h1; omega
