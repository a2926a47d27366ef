/-! WHAT A PAGE MUST BE STAYS SO -/
theorem inv_brk {R : Nat → Int} {i : Nat} {ph : Int} (h : q_inv R) (hs : q_hs R i = 1) (hp : 0 ≤ ph ∧ ph ≤ 5) : q_inv (q_brk R i ph) := by
  obtain ⟨h1, h2, h3, h4, h5, h6, h7⟩ := h
  refine ⟨?_, fun j hj => ?_, fun k hk => ?_, ?_, ?_, ?_, fun j k hj hk he => ?_⟩
  · rw [q_brk_nd]; omega
  · rw [q_brk_nd] at hj; unfold q_dogok; rw [q_brk_ow, q_brk_dr, q_brk_sa, q_brk_hs, q_brk_fr]
    obtain ⟨a1, a2, a3, a4, a5, f7, a6, a8⟩ := h2 j hj
    have hs9 : j = i → q_hs R j = 1 := fun e => by rw [e]; exact hs
    refine ⟨?_, ?_, ?_, ?_, ?_, fun p hp => ?_, ?_, ?_⟩
    · (repeat' split) <;> omega
    · (repeat' split) <;> omega
    · (repeat' split) <;> omega
    · (repeat' split) <;> omega
    · (repeat' split) <;> omega
    · rw [q_brk_ls _ i ph j p hp]; have f9 := f7 p hp; (repeat' split) <;> omega
    · (repeat' split) <;> omega
    · (repeat' split) <;> omega
  · rw [q_brk_rk _ i ph k hk]; exact h3 k hk
  · rw [q_brk_s1, q_brk_s2]; omega
  · rw [q_brk_s2]; omega
  · rw [q_brk_s3, q_brk_nd]; omega
  · rw [q_brk_nd] at hj hk; rw [q_brk_dr, q_brk_dr] at he; exact h7 j k hj hk he
theorem inv_nxt {R : Nat → Int} {v : Int} (h : q_inv R) (hv : 60 ≤ v ∧ v ≤ 600) : q_inv (q_nxt R v) := by
  obtain ⟨h1, h2, h3, h4, h5, h6, h7⟩ := h
  refine ⟨?_, fun j hj => ?_, fun k hk => ?_, ?_, ?_, ?_, fun j k hj hk he => ?_⟩
  · rw [q_nxt_nd]; omega
  · rw [q_nxt_nd] at hj; unfold q_dogok; rw [q_nxt_ow, q_nxt_dr, q_nxt_sa, q_nxt_hs, q_nxt_fr]
    obtain ⟨a1, a2, a3, a4, a5, f7, a6, a8⟩ := h2 j hj
    refine ⟨?_, ?_, ?_, ?_, ?_, fun p hp => ?_, ?_, ?_⟩
    · (repeat' split) <;> omega
    · (repeat' split) <;> omega
    · (repeat' split) <;> omega
    · (repeat' split) <;> omega
    · (repeat' split) <;> omega
    · rw [q_nxt_ls _ v j p hp]; have f9 := f7 p hp; (repeat' split) <;> omega
    · (repeat' split) <;> omega
    · (repeat' split) <;> omega
  · rw [q_nxt_rk _ v k hk]; exact h3 k hk
  · rw [q_nxt_s1, q_nxt_s2]; omega
  · rw [q_nxt_s2]; omega
  · rw [q_nxt_s3, q_nxt_nd]; omega
  · rw [q_nxt_nd] at hj hk; rw [q_nxt_dr, q_nxt_dr] at he; exact h7 j k hj hk he
theorem inv_gon {R : Nat → Int} {i : Nat} (h : q_inv R)  : q_inv (q_gon R i) := by
  obtain ⟨h1, h2, h3, h4, h5, h6, h7⟩ := h
  refine ⟨?_, fun j hj => ?_, fun k hk => ?_, ?_, ?_, ?_, fun j k hj hk he => ?_⟩
  · rw [q_gon_nd]; omega
  · rw [q_gon_nd] at hj; unfold q_dogok; rw [q_gon_ow, q_gon_dr, q_gon_sa, q_gon_hs, q_gon_fr]
    obtain ⟨a1, a2, a3, a4, a5, f7, a6, a8⟩ := h2 j hj
    refine ⟨?_, ?_, ?_, ?_, ?_, fun p hp => ?_, ?_, ?_⟩
    · (repeat' split) <;> omega
    · (repeat' split) <;> omega
    · (repeat' split) <;> omega
    · (repeat' split) <;> omega
    · (repeat' split) <;> omega
    · rw [q_gon_ls _ i j p hp]; have f9 := f7 p hp; (repeat' split) <;> omega
    · (repeat' split) <;> omega
    · (repeat' split) <;> omega
  · rw [q_gon_rk _ i k hk]; exact h3 k hk
  · rw [q_gon_s1, q_gon_s2]; omega
  · rw [q_gon_s2]; omega
  · rw [q_gon_s3, q_gon_nd]; omega
  · rw [q_gon_nd] at hj hk; rw [q_gon_dr, q_gon_dr] at he; exact h7 j k hj hk he
theorem inv_lst {R : Nat → Int} {v : Int} (h : q_inv R) (hv : 0 ≤ v ∧ v < q_nd R) : q_inv (q_lst R v) := by
  obtain ⟨h1, h2, h3, h4, h5, h6, h7⟩ := h
  refine ⟨?_, fun j hj => ?_, fun k hk => ?_, ?_, ?_, ?_, fun j k hj hk he => ?_⟩
  · rw [q_lst_nd]; omega
  · rw [q_lst_nd] at hj; unfold q_dogok; rw [q_lst_ow, q_lst_dr, q_lst_sa, q_lst_hs, q_lst_fr]
    obtain ⟨a1, a2, a3, a4, a5, f7, a6, a8⟩ := h2 j hj
    refine ⟨?_, ?_, ?_, ?_, ?_, fun p hp => ?_, ?_, ?_⟩
    · (repeat' split) <;> omega
    · (repeat' split) <;> omega
    · (repeat' split) <;> omega
    · (repeat' split) <;> omega
    · (repeat' split) <;> omega
    · rw [q_lst_ls _ v j p hp]; have f9 := f7 p hp; (repeat' split) <;> omega
    · (repeat' split) <;> omega
    · (repeat' split) <;> omega
  · rw [q_lst_rk _ v k hk]; exact h3 k hk
  · rw [q_lst_s1, q_lst_s2]; omega
  · rw [q_lst_s2]; omega
  · rw [q_lst_s3, q_lst_nd]; omega
  · rw [q_lst_nd] at hj hk; rw [q_lst_dr, q_lst_dr] at he; exact h7 j k hj hk he
theorem inv_drk {R : Nat → Int}  (h : q_inv R)  : q_inv (q_drk R) := by
  obtain ⟨h1, h2, h3, h4, h5, h6, h7⟩ := h
  refine ⟨?_, fun j hj => ?_, fun k hk => ?_, ?_, ?_, ?_, fun j k hj hk he => ?_⟩
  · rw [q_drk_nd]; omega
  · rw [q_drk_nd] at hj; unfold q_dogok; rw [q_drk_ow, q_drk_dr, q_drk_sa, q_drk_hs, q_drk_fr]
    obtain ⟨a1, a2, a3, a4, a5, f7, a6, a8⟩ := h2 j hj
    refine ⟨?_, ?_, ?_, ?_, ?_, fun p hp => ?_, ?_, ?_⟩
    · (repeat' split) <;> omega
    · (repeat' split) <;> omega
    · (repeat' split) <;> omega
    · (repeat' split) <;> omega
    · (repeat' split) <;> omega
    · rw [q_drk_ls _ j p hp]; have f9 := f7 p hp; (repeat' split) <;> omega
    · (repeat' split) <;> omega
    · (repeat' split) <;> omega
  · rw [q_drk_rk _ k hk]; exact h3 k hk
  · rw [q_drk_s1, q_drk_s2]; omega
  · rw [q_drk_s2]; omega
  · rw [q_drk_s3, q_drk_nd]; omega
  · rw [q_drk_nd] at hj hk; rw [q_drk_dr, q_drk_dr] at he; exact h7 j k hj hk he
theorem inv_cnt {R : Nat → Int} {v : Int} (h : q_inv R) (hv : 0 ≤ v ∧ R 1 + v ≤ R 2) : q_inv (q_cnt R v) := by
  obtain ⟨h1, h2, h3, h4, h5, h6, h7⟩ := h
  refine ⟨?_, fun j hj => ?_, fun k hk => ?_, ?_, ?_, ?_, fun j k hj hk he => ?_⟩
  · rw [q_cnt_nd]; omega
  · rw [q_cnt_nd] at hj; unfold q_dogok; rw [q_cnt_ow, q_cnt_dr, q_cnt_sa, q_cnt_hs, q_cnt_fr]
    obtain ⟨a1, a2, a3, a4, a5, f7, a6, a8⟩ := h2 j hj
    refine ⟨?_, ?_, ?_, ?_, ?_, fun p hp => ?_, ?_, ?_⟩
    · (repeat' split) <;> omega
    · (repeat' split) <;> omega
    · (repeat' split) <;> omega
    · (repeat' split) <;> omega
    · (repeat' split) <;> omega
    · rw [q_cnt_ls _ v j p hp]; have f9 := f7 p hp; (repeat' split) <;> omega
    · (repeat' split) <;> omega
    · (repeat' split) <;> omega
  · rw [q_cnt_rk _ v k hk]; exact h3 k hk
  · rw [q_cnt_s1, q_cnt_s2]; omega
  · rw [q_cnt_s2]; omega
  · rw [q_cnt_s3, q_cnt_nd]; omega
  · rw [q_cnt_nd] at hj hk; rw [q_cnt_dr, q_cnt_dr] at he; exact h7 j k hj hk he
theorem inv_nr {R : Nat → Int} {i : Nat} {L : Nat → Int} (h : q_inv R) (hL : ∀ p : Nat, p < 6 → 0 ≤ L p ∧ L p ≤ q_wth p) : q_inv (q_nr R i L) := by
  obtain ⟨h1, h2, h3, h4, h5, h6, h7⟩ := h
  refine ⟨?_, fun j hj => ?_, fun k hk => ?_, ?_, ?_, ?_, fun j k hj hk he => ?_⟩
  · rw [q_nr_nd]; omega
  · rw [q_nr_nd] at hj; unfold q_dogok; rw [q_nr_ow, q_nr_dr, q_nr_sa, q_nr_hs, q_nr_fr]
    obtain ⟨a1, a2, a3, a4, a5, f7, a6, a8⟩ := h2 j hj
    refine ⟨?_, ?_, ?_, ?_, ?_, fun p hp => ?_, ?_, ?_⟩
    · (repeat' split) <;> omega
    · (repeat' split) <;> omega
    · (repeat' split) <;> omega
    · (repeat' split) <;> omega
    · (repeat' split) <;> omega
    · rw [q_nr_ls _ i L j p hp]; have f9 := f7 p hp; have l9 := hL p hp; (repeat' split) <;> omega
    · (repeat' split) <;> omega
    · (repeat' split) <;> omega
  · rw [q_nr_rk _ i L k hk]; exact h3 k hk
  · rw [q_nr_s1, q_nr_s2]; omega
  · rw [q_nr_s2]; omega
  · rw [q_nr_s3, q_nr_nd]; omega
  · rw [q_nr_nd] at hj hk; rw [q_nr_dr, q_nr_dr] at he; exact h7 j k hj hk he
theorem inv_srk {R : Nat → Int} {f : Nat → Int} (h : q_inv R) (hf : ∀ k, k < 6 → 0 ≤ f k ∧ f k < 6) : q_inv (q_srk R f) := by
  obtain ⟨h1, h2, h3, h4, h5, h6, h7⟩ := h
  refine ⟨?_, fun j hj => ?_, fun k hk => ?_, ?_, ?_, ?_, fun j k hj hk he => ?_⟩
  · rw [q_srk_nd]; omega
  · rw [q_srk_nd] at hj; unfold q_dogok; rw [q_srk_ow, q_srk_dr, q_srk_sa, q_srk_hs, q_srk_fr]
    obtain ⟨a1, a2, a3, a4, a5, f7, a6, a8⟩ := h2 j hj
    refine ⟨?_, ?_, ?_, ?_, ?_, fun p hp => ?_, ?_, ?_⟩
    · (repeat' split) <;> omega
    · (repeat' split) <;> omega
    · (repeat' split) <;> omega
    · (repeat' split) <;> omega
    · (repeat' split) <;> omega
    · rw [q_srk_ls _ f j p hp]; have f9 := f7 p hp; (repeat' split) <;> omega
    · (repeat' split) <;> omega
    · (repeat' split) <;> omega
  · rw [q_srk_rk _ f k hk]; exact hf k hk
  · rw [q_srk_s1, q_srk_s2]; omega
  · rw [q_srk_s2]; omega
  · rw [q_srk_s3, q_srk_nd]; omega
  · rw [q_srk_nd] at hj hk; rw [q_srk_dr, q_srk_dr] at he; exact h7 j k hj hk he
theorem inv_sdr {R : Nat → Int} {i : Nat} {d : Int} (h : q_inv R) (hi : (i : Int) < q_nd R) (hd : 1 ≤ d ∧ d ≤ 99) (hn : ∀ j : Nat, (j : Int) < q_nd R → j ≠ i → q_dr R j ≠ d) : q_inv (q_sdr R i d) := by
  obtain ⟨h1, h2, h3, h4, h5, h6, h7⟩ := h
  refine ⟨?_, fun j hj => ?_, fun k hk => ?_, ?_, ?_, ?_, fun j k hj hk he => ?_⟩
  · rw [q_sdr_nd]; omega
  · rw [q_sdr_nd] at hj; unfold q_dogok; rw [q_sdr_ow, q_sdr_dr, q_sdr_sa, q_sdr_hs, q_sdr_fr]
    obtain ⟨a1, a2, a3, a4, a5, f7, a6, a8⟩ := h2 j hj
    refine ⟨?_, ?_, ?_, ?_, ?_, fun p hp => ?_, ?_, ?_⟩
    · (repeat' split) <;> omega
    · (repeat' split) <;> omega
    · (repeat' split) <;> omega
    · (repeat' split) <;> omega
    · (repeat' split) <;> omega
    · rw [q_sdr_ls _ i d j p hp]; have f9 := f7 p hp; (repeat' split) <;> omega
    · (repeat' split) <;> omega
    · (repeat' split) <;> omega
  · rw [q_sdr_rk _ i d k hk]; exact h3 k hk
  · rw [q_sdr_s1, q_sdr_s2]; omega
  · rw [q_sdr_s2]; omega
  · rw [q_sdr_s3, q_sdr_nd]; omega
  · rw [q_sdr_nd] at hj hk; rw [q_sdr_dr, q_sdr_dr] at he; by_cases e1 : j = i
    · by_cases e2 : k = i
      · omega
      · rw [if_pos e1, if_neg e2] at he; exact absurd he.symm (hn k hk e2)
    · by_cases e2 : k = i
      · rw [if_neg e1, if_pos e2] at he; exact absurd he (hn j hj e1)
      · rw [if_neg e1, if_neg e2] at he; exact h7 j k hj hk he
theorem inv_ent {R : Nat → Int} {n : Nat} {o d : Int} (h : q_inv R) (hn : q_nd R = (n : Int)) (hn2 : n < 12) (ho : 0 ≤ o ∧ o ≤ 5) (hd : 1 ≤ d ∧ d ≤ 99) (hu : ∀ j : Nat, j < n → q_dr R j ≠ d) : q_inv (q_ent R n o d) := by
  obtain ⟨h1, h2, h3, h4, h5, h6, h7⟩ := h
  refine ⟨?_, fun j hj => ?_, fun k hk => ?_, ?_, ?_, ?_, fun j k hj hk he => ?_⟩
  · rw [q_ent_nd]; omega
  · rw [q_ent_nd] at hj; unfold q_dogok; rw [q_ent_ow, q_ent_dr, q_ent_sa, q_ent_hs, q_ent_fr]
    by_cases e1 : j = n
    · have w9 := fun p => wth_in p
      refine ⟨?_, ?_, ?_, ?_, ?_, fun p hp => ?_, ?_, ?_⟩
      · (repeat' split) <;> omega
      · (repeat' split) <;> omega
      · (repeat' split) <;> omega
      · (repeat' split) <;> omega
      · (repeat' split) <;> omega
      · rw [q_ent_ls _ n o d j p hp, if_pos e1]; have w8 := w9 p; omega
      · (repeat' split) <;> omega
      · (repeat' split) <;> omega
    · obtain ⟨a, b, c, d9, e, f, g, i9⟩ := h2 j (by omega)
      refine ⟨?_, ?_, ?_, ?_, ?_, fun p hp => ?_, ?_, ?_⟩
      · (repeat' split) <;> omega
      · (repeat' split) <;> omega
      · (repeat' split) <;> omega
      · (repeat' split) <;> omega
      · (repeat' split) <;> omega
      · rw [q_ent_ls _ n o d j p hp, if_neg e1]; exact f p hp
      · (repeat' split) <;> omega
      · (repeat' split) <;> omega
  · rw [q_ent_rk _ n o d k hk]; exact h3 k hk
  · rw [q_ent_s1, q_ent_s2]; omega
  · rw [q_ent_s2]; omega
  · rw [q_ent_s3, q_ent_nd]; omega
  · rw [q_ent_nd] at hj hk; rw [q_ent_dr, q_ent_dr] at he; by_cases e1 : j = n
    · by_cases e2 : k = n
      · omega
      · rw [if_pos e1, if_neg e2] at he; exact absurd he.symm (hu k (by omega))
    · by_cases e2 : k = n
      · rw [if_neg e1, if_pos e2] at he; exact absurd he (hu j (by omega))
      · rw [if_neg e1, if_neg e2] at he; exact h7 j k (by omega) (by omega) he
