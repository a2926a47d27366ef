/-! WHAT WRITES DO TO A PAGE -/
def q_set (M : Nat → Nat → Int) (k : Nat) (P : Nat → Int) : Nat → Nat → Int := fun a => if a = k then P else M a
theorem q_wr_set (M : Nat → Nat → Int) (k j : Nat) (v : Int) : q_wr M k j v = q_set M k (q_up (M k) j v) := rfl
theorem q_set_at (M : Nat → Nat → Int) (k : Nat) (P : Nat → Int) : q_set M k P k = P := if_pos rfl
theorem q_set_off (M : Nat → Nat → Int) {k a : Nat} (P : Nat → Int) (h : a ≠ k) : q_set M k P a = M a := if_neg h
theorem q_set_set (M : Nat → Nat → Int) (k : Nat) (P P' : Nat → Int) : q_set (q_set M k P) k P' = q_set M k P' := by
  funext a; unfold q_set; by_cases h : a = k <;> simp [h]
theorem q_set_wr (M : Nat → Nat → Int) (k j : Nat) (P : Nat → Int) (v : Int) : q_wr (q_set M k P) k j v = q_set M k (q_up P j v) := by
  rw [q_wr_set, q_set_at, q_set_set]
def q_brk (R : Nat → Int) (i : Nat) (ph : Int) : Nat → Int := q_up (q_up (q_up R (14 + 11 * i + 2) 2) (14 + 11 * i + 4) ph) 6 (R 6 + 1)
theorem q_brk_nd (R : Nat → Int) (i : Nat) (ph : Int) : q_nd (q_brk R i ph) = q_nd R := by
  unfold q_brk q_nd
  (try simp only [q_up, reduceIte, Nat.reduceEqDiff]) <;> (repeat' split) <;> first | omega | (exfalso; omega) | (congr 1; omega) | (congr 1; done) | rfl
theorem q_brk_ow (R : Nat → Int) (i : Nat) (ph : Int) (j : Nat) : q_ow (q_brk R i ph) j = q_ow R j := by
  unfold q_brk q_ow
  (try simp only [q_up, reduceIte, Nat.reduceEqDiff]) <;> (repeat' split) <;> first | omega | (exfalso; omega) | (congr 1; omega) | (congr 1; done) | rfl
theorem q_brk_dr (R : Nat → Int) (i : Nat) (ph : Int) (j : Nat) : q_dr (q_brk R i ph) j = q_dr R j := by
  unfold q_brk q_dr
  (try simp only [q_up, reduceIte, Nat.reduceEqDiff]) <;> (repeat' split) <;> first | omega | (exfalso; omega) | (congr 1; omega) | (congr 1; done) | rfl
theorem q_brk_sa (R : Nat → Int) (i : Nat) (ph : Int) (j : Nat) : q_sa (q_brk R i ph) j = if j = i then 2 else q_sa R j := by
  unfold q_brk q_sa
  (try simp only [q_up, reduceIte, Nat.reduceEqDiff]) <;> (repeat' split) <;> first | omega | (exfalso; omega) | (congr 1; omega) | (congr 1; done) | rfl
theorem q_brk_hs (R : Nat → Int) (i : Nat) (ph : Int) (j : Nat) : q_hs (q_brk R i ph) j = q_hs R j := by
  unfold q_brk q_hs
  (try simp only [q_up, reduceIte, Nat.reduceEqDiff]) <;> (repeat' split) <;> first | omega | (exfalso; omega) | (congr 1; omega) | (congr 1; done) | rfl
theorem q_brk_fr (R : Nat → Int) (i : Nat) (ph : Int) (j : Nat) : q_fr (q_brk R i ph) j = if j = i then ph else q_fr R j := by
  unfold q_brk q_fr
  (try simp only [q_up, reduceIte, Nat.reduceEqDiff]) <;> (repeat' split) <;> first | omega | (exfalso; omega) | (congr 1; omega) | (congr 1; done) | rfl
theorem q_brk_ls (R : Nat → Int) (i : Nat) (ph : Int) (j p : Nat) (hp : p < 6) : q_ls (q_brk R i ph) j p = q_ls R j p := by
  unfold q_brk q_ls
  (try simp only [q_up, reduceIte, Nat.reduceEqDiff]) <;> (repeat' split) <;> first | omega | (exfalso; omega) | (congr 1; omega) | (congr 1; done) | rfl
theorem q_brk_rk (R : Nat → Int) (i : Nat) (ph : Int) (k : Nat) (hk : k < 6) : q_rk (q_brk R i ph) k = q_rk R k := by
  unfold q_brk q_rk
  (try simp only [q_up, reduceIte, Nat.reduceEqDiff]) <;> (repeat' split) <;> first | omega | (exfalso; omega) | (congr 1; omega) | (congr 1; done) | rfl
theorem q_brk_s0 (R : Nat → Int) (i : Nat) (ph : Int) : (q_brk R i ph) 0 = R 0 := by
  unfold q_brk 
  (try simp only [q_up, reduceIte, Nat.reduceEqDiff]) <;> (repeat' split) <;> first | omega | (exfalso; omega) | (congr 1; omega) | (congr 1; done) | rfl
theorem q_brk_s1 (R : Nat → Int) (i : Nat) (ph : Int) : (q_brk R i ph) 1 = R 1 := by
  unfold q_brk 
  (try simp only [q_up, reduceIte, Nat.reduceEqDiff]) <;> (repeat' split) <;> first | omega | (exfalso; omega) | (congr 1; omega) | (congr 1; done) | rfl
theorem q_brk_s2 (R : Nat → Int) (i : Nat) (ph : Int) : (q_brk R i ph) 2 = R 2 := by
  unfold q_brk 
  (try simp only [q_up, reduceIte, Nat.reduceEqDiff]) <;> (repeat' split) <;> first | omega | (exfalso; omega) | (congr 1; omega) | (congr 1; done) | rfl
theorem q_brk_s3 (R : Nat → Int) (i : Nat) (ph : Int) : (q_brk R i ph) 3 = R 3 := by
  unfold q_brk 
  (try simp only [q_up, reduceIte, Nat.reduceEqDiff]) <;> (repeat' split) <;> first | omega | (exfalso; omega) | (congr 1; omega) | (congr 1; done) | rfl
theorem q_brk_s4 (R : Nat → Int) (i : Nat) (ph : Int) : (q_brk R i ph) 4 = R 4 := by
  unfold q_brk 
  (try simp only [q_up, reduceIte, Nat.reduceEqDiff]) <;> (repeat' split) <;> first | omega | (exfalso; omega) | (congr 1; omega) | (congr 1; done) | rfl
theorem q_brk_s5 (R : Nat → Int) (i : Nat) (ph : Int) : (q_brk R i ph) 5 = R 5 := by
  unfold q_brk 
  (try simp only [q_up, reduceIte, Nat.reduceEqDiff]) <;> (repeat' split) <;> first | omega | (exfalso; omega) | (congr 1; omega) | (congr 1; done) | rfl
theorem q_brk_s6 (R : Nat → Int) (i : Nat) (ph : Int) : (q_brk R i ph) 6 = R 6 + 1 := by
  unfold q_brk 
  (try simp only [q_up, reduceIte, Nat.reduceEqDiff]) <;> (repeat' split) <;> first | omega | (exfalso; omega) | (congr 1; omega) | (congr 1; done) | rfl
def q_nxt (R : Nat → Int) (v : Int) : Nat → Int := q_up (q_up (q_up R 0 (R 0 + 1)) 1 0) 2 v
theorem q_nxt_nd (R : Nat → Int) (v : Int) : q_nd (q_nxt R v) = q_nd R := by
  unfold q_nxt q_nd
  (try simp only [q_up, reduceIte, Nat.reduceEqDiff]) <;> (repeat' split) <;> first | omega | (exfalso; omega) | (congr 1; omega) | (congr 1; done) | rfl
theorem q_nxt_ow (R : Nat → Int) (v : Int) (j : Nat) : q_ow (q_nxt R v) j = q_ow R j := by
  unfold q_nxt q_ow
  (try simp only [q_up, reduceIte, Nat.reduceEqDiff]) <;> (repeat' split) <;> first | omega | (exfalso; omega) | (congr 1; omega) | (congr 1; done) | rfl
theorem q_nxt_dr (R : Nat → Int) (v : Int) (j : Nat) : q_dr (q_nxt R v) j = q_dr R j := by
  unfold q_nxt q_dr
  (try simp only [q_up, reduceIte, Nat.reduceEqDiff]) <;> (repeat' split) <;> first | omega | (exfalso; omega) | (congr 1; omega) | (congr 1; done) | rfl
theorem q_nxt_sa (R : Nat → Int) (v : Int) (j : Nat) : q_sa (q_nxt R v) j = q_sa R j := by
  unfold q_nxt q_sa
  (try simp only [q_up, reduceIte, Nat.reduceEqDiff]) <;> (repeat' split) <;> first | omega | (exfalso; omega) | (congr 1; omega) | (congr 1; done) | rfl
theorem q_nxt_hs (R : Nat → Int) (v : Int) (j : Nat) : q_hs (q_nxt R v) j = q_hs R j := by
  unfold q_nxt q_hs
  (try simp only [q_up, reduceIte, Nat.reduceEqDiff]) <;> (repeat' split) <;> first | omega | (exfalso; omega) | (congr 1; omega) | (congr 1; done) | rfl
theorem q_nxt_fr (R : Nat → Int) (v : Int) (j : Nat) : q_fr (q_nxt R v) j = q_fr R j := by
  unfold q_nxt q_fr
  (try simp only [q_up, reduceIte, Nat.reduceEqDiff]) <;> (repeat' split) <;> first | omega | (exfalso; omega) | (congr 1; omega) | (congr 1; done) | rfl
theorem q_nxt_ls (R : Nat → Int) (v : Int) (j p : Nat) (hp : p < 6) : q_ls (q_nxt R v) j p = q_ls R j p := by
  unfold q_nxt q_ls
  (try simp only [q_up, reduceIte, Nat.reduceEqDiff]) <;> (repeat' split) <;> first | omega | (exfalso; omega) | (congr 1; omega) | (congr 1; done) | rfl
theorem q_nxt_rk (R : Nat → Int) (v : Int) (k : Nat) (hk : k < 6) : q_rk (q_nxt R v) k = q_rk R k := by
  unfold q_nxt q_rk
  (try simp only [q_up, reduceIte, Nat.reduceEqDiff]) <;> (repeat' split) <;> first | omega | (exfalso; omega) | (congr 1; omega) | (congr 1; done) | rfl
theorem q_nxt_s0 (R : Nat → Int) (v : Int) : (q_nxt R v) 0 = R 0 + 1 := by
  unfold q_nxt 
  (try simp only [q_up, reduceIte, Nat.reduceEqDiff]) <;> (repeat' split) <;> first | omega | (exfalso; omega) | (congr 1; omega) | (congr 1; done) | rfl
theorem q_nxt_s1 (R : Nat → Int) (v : Int) : (q_nxt R v) 1 = 0 := by
  unfold q_nxt 
  (try simp only [q_up, reduceIte, Nat.reduceEqDiff]) <;> (repeat' split) <;> first | omega | (exfalso; omega) | (congr 1; omega) | (congr 1; done) | rfl
theorem q_nxt_s2 (R : Nat → Int) (v : Int) : (q_nxt R v) 2 = v := by
  unfold q_nxt 
  (try simp only [q_up, reduceIte, Nat.reduceEqDiff]) <;> (repeat' split) <;> first | omega | (exfalso; omega) | (congr 1; omega) | (congr 1; done) | rfl
theorem q_nxt_s3 (R : Nat → Int) (v : Int) : (q_nxt R v) 3 = R 3 := by
  unfold q_nxt 
  (try simp only [q_up, reduceIte, Nat.reduceEqDiff]) <;> (repeat' split) <;> first | omega | (exfalso; omega) | (congr 1; omega) | (congr 1; done) | rfl
theorem q_nxt_s4 (R : Nat → Int) (v : Int) : (q_nxt R v) 4 = R 4 := by
  unfold q_nxt 
  (try simp only [q_up, reduceIte, Nat.reduceEqDiff]) <;> (repeat' split) <;> first | omega | (exfalso; omega) | (congr 1; omega) | (congr 1; done) | rfl
theorem q_nxt_s5 (R : Nat → Int) (v : Int) : (q_nxt R v) 5 = R 5 := by
  unfold q_nxt 
  (try simp only [q_up, reduceIte, Nat.reduceEqDiff]) <;> (repeat' split) <;> first | omega | (exfalso; omega) | (congr 1; omega) | (congr 1; done) | rfl
theorem q_nxt_s6 (R : Nat → Int) (v : Int) : (q_nxt R v) 6 = R 6 := by
  unfold q_nxt 
  (try simp only [q_up, reduceIte, Nat.reduceEqDiff]) <;> (repeat' split) <;> first | omega | (exfalso; omega) | (congr 1; omega) | (congr 1; done) | rfl
def q_gon (R : Nat → Int) (i : Nat) : Nat → Int := q_up R (14 + 11 * i + 2) 3
theorem q_gon_nd (R : Nat → Int) (i : Nat) : q_nd (q_gon R i) = q_nd R := by
  unfold q_gon q_nd
  (try simp only [q_up, reduceIte, Nat.reduceEqDiff]) <;> (repeat' split) <;> first | omega | (exfalso; omega) | (congr 1; omega) | (congr 1; done) | rfl
theorem q_gon_ow (R : Nat → Int) (i : Nat) (j : Nat) : q_ow (q_gon R i) j = q_ow R j := by
  unfold q_gon q_ow
  (try simp only [q_up, reduceIte, Nat.reduceEqDiff]) <;> (repeat' split) <;> first | omega | (exfalso; omega) | (congr 1; omega) | (congr 1; done) | rfl
theorem q_gon_dr (R : Nat → Int) (i : Nat) (j : Nat) : q_dr (q_gon R i) j = q_dr R j := by
  unfold q_gon q_dr
  (try simp only [q_up, reduceIte, Nat.reduceEqDiff]) <;> (repeat' split) <;> first | omega | (exfalso; omega) | (congr 1; omega) | (congr 1; done) | rfl
theorem q_gon_sa (R : Nat → Int) (i : Nat) (j : Nat) : q_sa (q_gon R i) j = if j = i then 3 else q_sa R j := by
  unfold q_gon q_sa
  (try simp only [q_up, reduceIte, Nat.reduceEqDiff]) <;> (repeat' split) <;> first | omega | (exfalso; omega) | (congr 1; omega) | (congr 1; done) | rfl
theorem q_gon_hs (R : Nat → Int) (i : Nat) (j : Nat) : q_hs (q_gon R i) j = q_hs R j := by
  unfold q_gon q_hs
  (try simp only [q_up, reduceIte, Nat.reduceEqDiff]) <;> (repeat' split) <;> first | omega | (exfalso; omega) | (congr 1; omega) | (congr 1; done) | rfl
theorem q_gon_fr (R : Nat → Int) (i : Nat) (j : Nat) : q_fr (q_gon R i) j = q_fr R j := by
  unfold q_gon q_fr
  (try simp only [q_up, reduceIte, Nat.reduceEqDiff]) <;> (repeat' split) <;> first | omega | (exfalso; omega) | (congr 1; omega) | (congr 1; done) | rfl
theorem q_gon_ls (R : Nat → Int) (i : Nat) (j p : Nat) (hp : p < 6) : q_ls (q_gon R i) j p = q_ls R j p := by
  unfold q_gon q_ls
  (try simp only [q_up, reduceIte, Nat.reduceEqDiff]) <;> (repeat' split) <;> first | omega | (exfalso; omega) | (congr 1; omega) | (congr 1; done) | rfl
theorem q_gon_rk (R : Nat → Int) (i : Nat) (k : Nat) (hk : k < 6) : q_rk (q_gon R i) k = q_rk R k := by
  unfold q_gon q_rk
  (try simp only [q_up, reduceIte, Nat.reduceEqDiff]) <;> (repeat' split) <;> first | omega | (exfalso; omega) | (congr 1; omega) | (congr 1; done) | rfl
theorem q_gon_s0 (R : Nat → Int) (i : Nat) : (q_gon R i) 0 = R 0 := by
  unfold q_gon 
  (try simp only [q_up, reduceIte, Nat.reduceEqDiff]) <;> (repeat' split) <;> first | omega | (exfalso; omega) | (congr 1; omega) | (congr 1; done) | rfl
theorem q_gon_s1 (R : Nat → Int) (i : Nat) : (q_gon R i) 1 = R 1 := by
  unfold q_gon 
  (try simp only [q_up, reduceIte, Nat.reduceEqDiff]) <;> (repeat' split) <;> first | omega | (exfalso; omega) | (congr 1; omega) | (congr 1; done) | rfl
theorem q_gon_s2 (R : Nat → Int) (i : Nat) : (q_gon R i) 2 = R 2 := by
  unfold q_gon 
  (try simp only [q_up, reduceIte, Nat.reduceEqDiff]) <;> (repeat' split) <;> first | omega | (exfalso; omega) | (congr 1; omega) | (congr 1; done) | rfl
theorem q_gon_s3 (R : Nat → Int) (i : Nat) : (q_gon R i) 3 = R 3 := by
  unfold q_gon 
  (try simp only [q_up, reduceIte, Nat.reduceEqDiff]) <;> (repeat' split) <;> first | omega | (exfalso; omega) | (congr 1; omega) | (congr 1; done) | rfl
theorem q_gon_s4 (R : Nat → Int) (i : Nat) : (q_gon R i) 4 = R 4 := by
  unfold q_gon 
  (try simp only [q_up, reduceIte, Nat.reduceEqDiff]) <;> (repeat' split) <;> first | omega | (exfalso; omega) | (congr 1; omega) | (congr 1; done) | rfl
theorem q_gon_s5 (R : Nat → Int) (i : Nat) : (q_gon R i) 5 = R 5 := by
  unfold q_gon 
  (try simp only [q_up, reduceIte, Nat.reduceEqDiff]) <;> (repeat' split) <;> first | omega | (exfalso; omega) | (congr 1; omega) | (congr 1; done) | rfl
theorem q_gon_s6 (R : Nat → Int) (i : Nat) : (q_gon R i) 6 = R 6 := by
  unfold q_gon 
  (try simp only [q_up, reduceIte, Nat.reduceEqDiff]) <;> (repeat' split) <;> first | omega | (exfalso; omega) | (congr 1; omega) | (congr 1; done) | rfl
def q_sdr (R : Nat → Int) (i : Nat) (d : Int) : Nat → Int := q_up R (14 + 11 * i + 1) d
theorem q_sdr_nd (R : Nat → Int) (i : Nat) (d : Int) : q_nd (q_sdr R i d) = q_nd R := by
  unfold q_sdr q_nd
  (try simp only [q_up, reduceIte, Nat.reduceEqDiff]) <;> (repeat' split) <;> first | omega | (exfalso; omega) | (congr 1; omega) | (congr 1; done) | rfl
theorem q_sdr_ow (R : Nat → Int) (i : Nat) (d : Int) (j : Nat) : q_ow (q_sdr R i d) j = q_ow R j := by
  unfold q_sdr q_ow
  (try simp only [q_up, reduceIte, Nat.reduceEqDiff]) <;> (repeat' split) <;> first | omega | (exfalso; omega) | (congr 1; omega) | (congr 1; done) | rfl
theorem q_sdr_dr (R : Nat → Int) (i : Nat) (d : Int) (j : Nat) : q_dr (q_sdr R i d) j = if j = i then d else q_dr R j := by
  unfold q_sdr q_dr
  (try simp only [q_up, reduceIte, Nat.reduceEqDiff]) <;> (repeat' split) <;> first | omega | (exfalso; omega) | (congr 1; omega) | (congr 1; done) | rfl
theorem q_sdr_sa (R : Nat → Int) (i : Nat) (d : Int) (j : Nat) : q_sa (q_sdr R i d) j = q_sa R j := by
  unfold q_sdr q_sa
  (try simp only [q_up, reduceIte, Nat.reduceEqDiff]) <;> (repeat' split) <;> first | omega | (exfalso; omega) | (congr 1; omega) | (congr 1; done) | rfl
theorem q_sdr_hs (R : Nat → Int) (i : Nat) (d : Int) (j : Nat) : q_hs (q_sdr R i d) j = q_hs R j := by
  unfold q_sdr q_hs
  (try simp only [q_up, reduceIte, Nat.reduceEqDiff]) <;> (repeat' split) <;> first | omega | (exfalso; omega) | (congr 1; omega) | (congr 1; done) | rfl
theorem q_sdr_fr (R : Nat → Int) (i : Nat) (d : Int) (j : Nat) : q_fr (q_sdr R i d) j = q_fr R j := by
  unfold q_sdr q_fr
  (try simp only [q_up, reduceIte, Nat.reduceEqDiff]) <;> (repeat' split) <;> first | omega | (exfalso; omega) | (congr 1; omega) | (congr 1; done) | rfl
theorem q_sdr_ls (R : Nat → Int) (i : Nat) (d : Int) (j p : Nat) (hp : p < 6) : q_ls (q_sdr R i d) j p = q_ls R j p := by
  unfold q_sdr q_ls
  (try simp only [q_up, reduceIte, Nat.reduceEqDiff]) <;> (repeat' split) <;> first | omega | (exfalso; omega) | (congr 1; omega) | (congr 1; done) | rfl
theorem q_sdr_rk (R : Nat → Int) (i : Nat) (d : Int) (k : Nat) (hk : k < 6) : q_rk (q_sdr R i d) k = q_rk R k := by
  unfold q_sdr q_rk
  (try simp only [q_up, reduceIte, Nat.reduceEqDiff]) <;> (repeat' split) <;> first | omega | (exfalso; omega) | (congr 1; omega) | (congr 1; done) | rfl
theorem q_sdr_s0 (R : Nat → Int) (i : Nat) (d : Int) : (q_sdr R i d) 0 = R 0 := by
  unfold q_sdr 
  (try simp only [q_up, reduceIte, Nat.reduceEqDiff]) <;> (repeat' split) <;> first | omega | (exfalso; omega) | (congr 1; omega) | (congr 1; done) | rfl
theorem q_sdr_s1 (R : Nat → Int) (i : Nat) (d : Int) : (q_sdr R i d) 1 = R 1 := by
  unfold q_sdr 
  (try simp only [q_up, reduceIte, Nat.reduceEqDiff]) <;> (repeat' split) <;> first | omega | (exfalso; omega) | (congr 1; omega) | (congr 1; done) | rfl
theorem q_sdr_s2 (R : Nat → Int) (i : Nat) (d : Int) : (q_sdr R i d) 2 = R 2 := by
  unfold q_sdr 
  (try simp only [q_up, reduceIte, Nat.reduceEqDiff]) <;> (repeat' split) <;> first | omega | (exfalso; omega) | (congr 1; omega) | (congr 1; done) | rfl
theorem q_sdr_s3 (R : Nat → Int) (i : Nat) (d : Int) : (q_sdr R i d) 3 = R 3 := by
  unfold q_sdr 
  (try simp only [q_up, reduceIte, Nat.reduceEqDiff]) <;> (repeat' split) <;> first | omega | (exfalso; omega) | (congr 1; omega) | (congr 1; done) | rfl
theorem q_sdr_s4 (R : Nat → Int) (i : Nat) (d : Int) : (q_sdr R i d) 4 = R 4 := by
  unfold q_sdr 
  (try simp only [q_up, reduceIte, Nat.reduceEqDiff]) <;> (repeat' split) <;> first | omega | (exfalso; omega) | (congr 1; omega) | (congr 1; done) | rfl
theorem q_sdr_s5 (R : Nat → Int) (i : Nat) (d : Int) : (q_sdr R i d) 5 = R 5 := by
  unfold q_sdr 
  (try simp only [q_up, reduceIte, Nat.reduceEqDiff]) <;> (repeat' split) <;> first | omega | (exfalso; omega) | (congr 1; omega) | (congr 1; done) | rfl
theorem q_sdr_s6 (R : Nat → Int) (i : Nat) (d : Int) : (q_sdr R i d) 6 = R 6 := by
  unfold q_sdr 
  (try simp only [q_up, reduceIte, Nat.reduceEqDiff]) <;> (repeat' split) <;> first | omega | (exfalso; omega) | (congr 1; omega) | (congr 1; done) | rfl
def q_lst (R : Nat → Int) (v : Int) : Nat → Int := q_up R 3 v
theorem q_lst_nd (R : Nat → Int) (v : Int) : q_nd (q_lst R v) = q_nd R := by
  unfold q_lst q_nd
  (try simp only [q_up, reduceIte, Nat.reduceEqDiff]) <;> (repeat' split) <;> first | omega | (exfalso; omega) | (congr 1; omega) | (congr 1; done) | rfl
theorem q_lst_ow (R : Nat → Int) (v : Int) (j : Nat) : q_ow (q_lst R v) j = q_ow R j := by
  unfold q_lst q_ow
  (try simp only [q_up, reduceIte, Nat.reduceEqDiff]) <;> (repeat' split) <;> first | omega | (exfalso; omega) | (congr 1; omega) | (congr 1; done) | rfl
theorem q_lst_dr (R : Nat → Int) (v : Int) (j : Nat) : q_dr (q_lst R v) j = q_dr R j := by
  unfold q_lst q_dr
  (try simp only [q_up, reduceIte, Nat.reduceEqDiff]) <;> (repeat' split) <;> first | omega | (exfalso; omega) | (congr 1; omega) | (congr 1; done) | rfl
theorem q_lst_sa (R : Nat → Int) (v : Int) (j : Nat) : q_sa (q_lst R v) j = q_sa R j := by
  unfold q_lst q_sa
  (try simp only [q_up, reduceIte, Nat.reduceEqDiff]) <;> (repeat' split) <;> first | omega | (exfalso; omega) | (congr 1; omega) | (congr 1; done) | rfl
theorem q_lst_hs (R : Nat → Int) (v : Int) (j : Nat) : q_hs (q_lst R v) j = q_hs R j := by
  unfold q_lst q_hs
  (try simp only [q_up, reduceIte, Nat.reduceEqDiff]) <;> (repeat' split) <;> first | omega | (exfalso; omega) | (congr 1; omega) | (congr 1; done) | rfl
theorem q_lst_fr (R : Nat → Int) (v : Int) (j : Nat) : q_fr (q_lst R v) j = q_fr R j := by
  unfold q_lst q_fr
  (try simp only [q_up, reduceIte, Nat.reduceEqDiff]) <;> (repeat' split) <;> first | omega | (exfalso; omega) | (congr 1; omega) | (congr 1; done) | rfl
theorem q_lst_ls (R : Nat → Int) (v : Int) (j p : Nat) (hp : p < 6) : q_ls (q_lst R v) j p = q_ls R j p := by
  unfold q_lst q_ls
  (try simp only [q_up, reduceIte, Nat.reduceEqDiff]) <;> (repeat' split) <;> first | omega | (exfalso; omega) | (congr 1; omega) | (congr 1; done) | rfl
theorem q_lst_rk (R : Nat → Int) (v : Int) (k : Nat) (hk : k < 6) : q_rk (q_lst R v) k = q_rk R k := by
  unfold q_lst q_rk
  (try simp only [q_up, reduceIte, Nat.reduceEqDiff]) <;> (repeat' split) <;> first | omega | (exfalso; omega) | (congr 1; omega) | (congr 1; done) | rfl
theorem q_lst_s0 (R : Nat → Int) (v : Int) : (q_lst R v) 0 = R 0 := by
  unfold q_lst 
  (try simp only [q_up, reduceIte, Nat.reduceEqDiff]) <;> (repeat' split) <;> first | omega | (exfalso; omega) | (congr 1; omega) | (congr 1; done) | rfl
theorem q_lst_s1 (R : Nat → Int) (v : Int) : (q_lst R v) 1 = R 1 := by
  unfold q_lst 
  (try simp only [q_up, reduceIte, Nat.reduceEqDiff]) <;> (repeat' split) <;> first | omega | (exfalso; omega) | (congr 1; omega) | (congr 1; done) | rfl
theorem q_lst_s2 (R : Nat → Int) (v : Int) : (q_lst R v) 2 = R 2 := by
  unfold q_lst 
  (try simp only [q_up, reduceIte, Nat.reduceEqDiff]) <;> (repeat' split) <;> first | omega | (exfalso; omega) | (congr 1; omega) | (congr 1; done) | rfl
theorem q_lst_s3 (R : Nat → Int) (v : Int) : (q_lst R v) 3 = v := by
  unfold q_lst 
  (try simp only [q_up, reduceIte, Nat.reduceEqDiff]) <;> (repeat' split) <;> first | omega | (exfalso; omega) | (congr 1; omega) | (congr 1; done) | rfl
theorem q_lst_s4 (R : Nat → Int) (v : Int) : (q_lst R v) 4 = R 4 := by
  unfold q_lst 
  (try simp only [q_up, reduceIte, Nat.reduceEqDiff]) <;> (repeat' split) <;> first | omega | (exfalso; omega) | (congr 1; omega) | (congr 1; done) | rfl
theorem q_lst_s5 (R : Nat → Int) (v : Int) : (q_lst R v) 5 = R 5 := by
  unfold q_lst 
  (try simp only [q_up, reduceIte, Nat.reduceEqDiff]) <;> (repeat' split) <;> first | omega | (exfalso; omega) | (congr 1; omega) | (congr 1; done) | rfl
theorem q_lst_s6 (R : Nat → Int) (v : Int) : (q_lst R v) 6 = R 6 := by
  unfold q_lst 
  (try simp only [q_up, reduceIte, Nat.reduceEqDiff]) <;> (repeat' split) <;> first | omega | (exfalso; omega) | (congr 1; omega) | (congr 1; done) | rfl
def q_drk (R : Nat → Int)  : Nat → Int := q_up (q_up R 1 (R 2)) 5 (R 5 + 1)
theorem q_drk_nd (R : Nat → Int)  : q_nd (q_drk R ) = q_nd R := by
  unfold q_drk q_nd
  (try simp only [q_up, reduceIte, Nat.reduceEqDiff]) <;> (repeat' split) <;> first | omega | (exfalso; omega) | (congr 1; omega) | (congr 1; done) | rfl
theorem q_drk_ow (R : Nat → Int)  (j : Nat) : q_ow (q_drk R ) j = q_ow R j := by
  unfold q_drk q_ow
  (try simp only [q_up, reduceIte, Nat.reduceEqDiff]) <;> (repeat' split) <;> first | omega | (exfalso; omega) | (congr 1; omega) | (congr 1; done) | rfl
theorem q_drk_dr (R : Nat → Int)  (j : Nat) : q_dr (q_drk R ) j = q_dr R j := by
  unfold q_drk q_dr
  (try simp only [q_up, reduceIte, Nat.reduceEqDiff]) <;> (repeat' split) <;> first | omega | (exfalso; omega) | (congr 1; omega) | (congr 1; done) | rfl
theorem q_drk_sa (R : Nat → Int)  (j : Nat) : q_sa (q_drk R ) j = q_sa R j := by
  unfold q_drk q_sa
  (try simp only [q_up, reduceIte, Nat.reduceEqDiff]) <;> (repeat' split) <;> first | omega | (exfalso; omega) | (congr 1; omega) | (congr 1; done) | rfl
theorem q_drk_hs (R : Nat → Int)  (j : Nat) : q_hs (q_drk R ) j = q_hs R j := by
  unfold q_drk q_hs
  (try simp only [q_up, reduceIte, Nat.reduceEqDiff]) <;> (repeat' split) <;> first | omega | (exfalso; omega) | (congr 1; omega) | (congr 1; done) | rfl
theorem q_drk_fr (R : Nat → Int)  (j : Nat) : q_fr (q_drk R ) j = q_fr R j := by
  unfold q_drk q_fr
  (try simp only [q_up, reduceIte, Nat.reduceEqDiff]) <;> (repeat' split) <;> first | omega | (exfalso; omega) | (congr 1; omega) | (congr 1; done) | rfl
theorem q_drk_ls (R : Nat → Int)  (j p : Nat) (hp : p < 6) : q_ls (q_drk R ) j p = q_ls R j p := by
  unfold q_drk q_ls
  (try simp only [q_up, reduceIte, Nat.reduceEqDiff]) <;> (repeat' split) <;> first | omega | (exfalso; omega) | (congr 1; omega) | (congr 1; done) | rfl
theorem q_drk_rk (R : Nat → Int)  (k : Nat) (hk : k < 6) : q_rk (q_drk R ) k = q_rk R k := by
  unfold q_drk q_rk
  (try simp only [q_up, reduceIte, Nat.reduceEqDiff]) <;> (repeat' split) <;> first | omega | (exfalso; omega) | (congr 1; omega) | (congr 1; done) | rfl
theorem q_drk_s0 (R : Nat → Int)  : (q_drk R ) 0 = R 0 := by
  unfold q_drk 
  (try simp only [q_up, reduceIte, Nat.reduceEqDiff]) <;> (repeat' split) <;> first | omega | (exfalso; omega) | (congr 1; omega) | (congr 1; done) | rfl
theorem q_drk_s1 (R : Nat → Int)  : (q_drk R ) 1 = R 2 := by
  unfold q_drk 
  (try simp only [q_up, reduceIte, Nat.reduceEqDiff]) <;> (repeat' split) <;> first | omega | (exfalso; omega) | (congr 1; omega) | (congr 1; done) | rfl
theorem q_drk_s2 (R : Nat → Int)  : (q_drk R ) 2 = R 2 := by
  unfold q_drk 
  (try simp only [q_up, reduceIte, Nat.reduceEqDiff]) <;> (repeat' split) <;> first | omega | (exfalso; omega) | (congr 1; omega) | (congr 1; done) | rfl
theorem q_drk_s3 (R : Nat → Int)  : (q_drk R ) 3 = R 3 := by
  unfold q_drk 
  (try simp only [q_up, reduceIte, Nat.reduceEqDiff]) <;> (repeat' split) <;> first | omega | (exfalso; omega) | (congr 1; omega) | (congr 1; done) | rfl
theorem q_drk_s4 (R : Nat → Int)  : (q_drk R ) 4 = R 4 := by
  unfold q_drk 
  (try simp only [q_up, reduceIte, Nat.reduceEqDiff]) <;> (repeat' split) <;> first | omega | (exfalso; omega) | (congr 1; omega) | (congr 1; done) | rfl
theorem q_drk_s5 (R : Nat → Int)  : (q_drk R ) 5 = R 5 + 1 := by
  unfold q_drk 
  (try simp only [q_up, reduceIte, Nat.reduceEqDiff]) <;> (repeat' split) <;> first | omega | (exfalso; omega) | (congr 1; omega) | (congr 1; done) | rfl
theorem q_drk_s6 (R : Nat → Int)  : (q_drk R ) 6 = R 6 := by
  unfold q_drk 
  (try simp only [q_up, reduceIte, Nat.reduceEqDiff]) <;> (repeat' split) <;> first | omega | (exfalso; omega) | (congr 1; omega) | (congr 1; done) | rfl
def q_cnt (R : Nat → Int) (v : Int) : Nat → Int := q_up (q_up R 1 (R 1 + v)) 4 (R 4 + 1)
theorem q_cnt_nd (R : Nat → Int) (v : Int) : q_nd (q_cnt R v) = q_nd R := by
  unfold q_cnt q_nd
  (try simp only [q_up, reduceIte, Nat.reduceEqDiff]) <;> (repeat' split) <;> first | omega | (exfalso; omega) | (congr 1; omega) | (congr 1; done) | rfl
theorem q_cnt_ow (R : Nat → Int) (v : Int) (j : Nat) : q_ow (q_cnt R v) j = q_ow R j := by
  unfold q_cnt q_ow
  (try simp only [q_up, reduceIte, Nat.reduceEqDiff]) <;> (repeat' split) <;> first | omega | (exfalso; omega) | (congr 1; omega) | (congr 1; done) | rfl
theorem q_cnt_dr (R : Nat → Int) (v : Int) (j : Nat) : q_dr (q_cnt R v) j = q_dr R j := by
  unfold q_cnt q_dr
  (try simp only [q_up, reduceIte, Nat.reduceEqDiff]) <;> (repeat' split) <;> first | omega | (exfalso; omega) | (congr 1; omega) | (congr 1; done) | rfl
theorem q_cnt_sa (R : Nat → Int) (v : Int) (j : Nat) : q_sa (q_cnt R v) j = q_sa R j := by
  unfold q_cnt q_sa
  (try simp only [q_up, reduceIte, Nat.reduceEqDiff]) <;> (repeat' split) <;> first | omega | (exfalso; omega) | (congr 1; omega) | (congr 1; done) | rfl
theorem q_cnt_hs (R : Nat → Int) (v : Int) (j : Nat) : q_hs (q_cnt R v) j = q_hs R j := by
  unfold q_cnt q_hs
  (try simp only [q_up, reduceIte, Nat.reduceEqDiff]) <;> (repeat' split) <;> first | omega | (exfalso; omega) | (congr 1; omega) | (congr 1; done) | rfl
theorem q_cnt_fr (R : Nat → Int) (v : Int) (j : Nat) : q_fr (q_cnt R v) j = q_fr R j := by
  unfold q_cnt q_fr
  (try simp only [q_up, reduceIte, Nat.reduceEqDiff]) <;> (repeat' split) <;> first | omega | (exfalso; omega) | (congr 1; omega) | (congr 1; done) | rfl
theorem q_cnt_ls (R : Nat → Int) (v : Int) (j p : Nat) (hp : p < 6) : q_ls (q_cnt R v) j p = q_ls R j p := by
  unfold q_cnt q_ls
  (try simp only [q_up, reduceIte, Nat.reduceEqDiff]) <;> (repeat' split) <;> first | omega | (exfalso; omega) | (congr 1; omega) | (congr 1; done) | rfl
theorem q_cnt_rk (R : Nat → Int) (v : Int) (k : Nat) (hk : k < 6) : q_rk (q_cnt R v) k = q_rk R k := by
  unfold q_cnt q_rk
  (try simp only [q_up, reduceIte, Nat.reduceEqDiff]) <;> (repeat' split) <;> first | omega | (exfalso; omega) | (congr 1; omega) | (congr 1; done) | rfl
theorem q_cnt_s0 (R : Nat → Int) (v : Int) : (q_cnt R v) 0 = R 0 := by
  unfold q_cnt 
  (try simp only [q_up, reduceIte, Nat.reduceEqDiff]) <;> (repeat' split) <;> first | omega | (exfalso; omega) | (congr 1; omega) | (congr 1; done) | rfl
theorem q_cnt_s1 (R : Nat → Int) (v : Int) : (q_cnt R v) 1 = R 1 + v := by
  unfold q_cnt 
  (try simp only [q_up, reduceIte, Nat.reduceEqDiff]) <;> (repeat' split) <;> first | omega | (exfalso; omega) | (congr 1; omega) | (congr 1; done) | rfl
theorem q_cnt_s2 (R : Nat → Int) (v : Int) : (q_cnt R v) 2 = R 2 := by
  unfold q_cnt 
  (try simp only [q_up, reduceIte, Nat.reduceEqDiff]) <;> (repeat' split) <;> first | omega | (exfalso; omega) | (congr 1; omega) | (congr 1; done) | rfl
theorem q_cnt_s3 (R : Nat → Int) (v : Int) : (q_cnt R v) 3 = R 3 := by
  unfold q_cnt 
  (try simp only [q_up, reduceIte, Nat.reduceEqDiff]) <;> (repeat' split) <;> first | omega | (exfalso; omega) | (congr 1; omega) | (congr 1; done) | rfl
theorem q_cnt_s4 (R : Nat → Int) (v : Int) : (q_cnt R v) 4 = R 4 + 1 := by
  unfold q_cnt 
  (try simp only [q_up, reduceIte, Nat.reduceEqDiff]) <;> (repeat' split) <;> first | omega | (exfalso; omega) | (congr 1; omega) | (congr 1; done) | rfl
theorem q_cnt_s5 (R : Nat → Int) (v : Int) : (q_cnt R v) 5 = R 5 := by
  unfold q_cnt 
  (try simp only [q_up, reduceIte, Nat.reduceEqDiff]) <;> (repeat' split) <;> first | omega | (exfalso; omega) | (congr 1; omega) | (congr 1; done) | rfl
theorem q_cnt_s6 (R : Nat → Int) (v : Int) : (q_cnt R v) 6 = R 6 := by
  unfold q_cnt 
  (try simp only [q_up, reduceIte, Nat.reduceEqDiff]) <;> (repeat' split) <;> first | omega | (exfalso; omega) | (congr 1; omega) | (congr 1; done) | rfl
def q_nr (R : Nat → Int) (i : Nat) (L : Nat → Int) : Nat → Int := fun k => if k = 14 + 11 * i + 2 then 1 else if k = 14 + 11 * i + 3 then 1 else if k = 14 + 11 * i + 4 then 6 else if 14 + 11 * i + 5 ≤ k ∧ k < 14 + 11 * i + 11 ∧ q_fp R i ≤ ((k - (14 + 11 * i + 5) : Nat) : Int) then L (k - (14 + 11 * i + 5)) else R k
theorem q_nr_nd (R : Nat → Int) (i : Nat) (L : Nat → Int) : q_nd (q_nr R i L) = q_nd R := by
  unfold q_nr q_nd
  (try simp only [q_up, reduceIte, Nat.reduceEqDiff]) <;> (repeat' split) <;> first | omega | (exfalso; omega) | (congr 1; omega) | (congr 1; done) | rfl
theorem q_nr_ow (R : Nat → Int) (i : Nat) (L : Nat → Int) (j : Nat) : q_ow (q_nr R i L) j = q_ow R j := by
  unfold q_nr q_ow
  (try simp only [q_up, reduceIte, Nat.reduceEqDiff]) <;> (repeat' split) <;> first | omega | (exfalso; omega) | (congr 1; omega) | (congr 1; done) | rfl
theorem q_nr_dr (R : Nat → Int) (i : Nat) (L : Nat → Int) (j : Nat) : q_dr (q_nr R i L) j = q_dr R j := by
  unfold q_nr q_dr
  (try simp only [q_up, reduceIte, Nat.reduceEqDiff]) <;> (repeat' split) <;> first | omega | (exfalso; omega) | (congr 1; omega) | (congr 1; done) | rfl
theorem q_nr_sa (R : Nat → Int) (i : Nat) (L : Nat → Int) (j : Nat) : q_sa (q_nr R i L) j = if j = i then 1 else q_sa R j := by
  unfold q_nr q_sa
  (try simp only [q_up, reduceIte, Nat.reduceEqDiff]) <;> (repeat' split) <;> first | omega | (exfalso; omega) | (congr 1; omega) | (congr 1; done) | rfl
theorem q_nr_hs (R : Nat → Int) (i : Nat) (L : Nat → Int) (j : Nat) : q_hs (q_nr R i L) j = if j = i then 1 else q_hs R j := by
  unfold q_nr q_hs
  (try simp only [q_up, reduceIte, Nat.reduceEqDiff]) <;> (repeat' split) <;> first | omega | (exfalso; omega) | (congr 1; omega) | (congr 1; done) | rfl
theorem q_nr_fr (R : Nat → Int) (i : Nat) (L : Nat → Int) (j : Nat) : q_fr (q_nr R i L) j = if j = i then 6 else q_fr R j := by
  unfold q_nr q_fr
  (try simp only [q_up, reduceIte, Nat.reduceEqDiff]) <;> (repeat' split) <;> first | omega | (exfalso; omega) | (congr 1; omega) | (congr 1; done) | rfl
theorem q_nr_ls (R : Nat → Int) (i : Nat) (L : Nat → Int) (j p : Nat) (hp : p < 6) : q_ls (q_nr R i L) j p = if j = i ∧ q_fp R i ≤ (p : Int) then L p else q_ls R j p := by
  unfold q_nr q_ls
  (try simp only [q_up, reduceIte, Nat.reduceEqDiff]) <;> (repeat' split) <;> first | omega | (exfalso; omega) | (congr 1; omega) | (congr 1; done) | rfl
theorem q_nr_rk (R : Nat → Int) (i : Nat) (L : Nat → Int) (k : Nat) (hk : k < 6) : q_rk (q_nr R i L) k = q_rk R k := by
  unfold q_nr q_rk
  (try simp only [q_up, reduceIte, Nat.reduceEqDiff]) <;> (repeat' split) <;> first | omega | (exfalso; omega) | (congr 1; omega) | (congr 1; done) | rfl
theorem q_nr_s0 (R : Nat → Int) (i : Nat) (L : Nat → Int) : (q_nr R i L) 0 = R 0 := by
  unfold q_nr 
  (try simp only [q_up, reduceIte, Nat.reduceEqDiff]) <;> (repeat' split) <;> first | omega | (exfalso; omega) | (congr 1; omega) | (congr 1; done) | rfl
theorem q_nr_s1 (R : Nat → Int) (i : Nat) (L : Nat → Int) : (q_nr R i L) 1 = R 1 := by
  unfold q_nr 
  (try simp only [q_up, reduceIte, Nat.reduceEqDiff]) <;> (repeat' split) <;> first | omega | (exfalso; omega) | (congr 1; omega) | (congr 1; done) | rfl
theorem q_nr_s2 (R : Nat → Int) (i : Nat) (L : Nat → Int) : (q_nr R i L) 2 = R 2 := by
  unfold q_nr 
  (try simp only [q_up, reduceIte, Nat.reduceEqDiff]) <;> (repeat' split) <;> first | omega | (exfalso; omega) | (congr 1; omega) | (congr 1; done) | rfl
theorem q_nr_s3 (R : Nat → Int) (i : Nat) (L : Nat → Int) : (q_nr R i L) 3 = R 3 := by
  unfold q_nr 
  (try simp only [q_up, reduceIte, Nat.reduceEqDiff]) <;> (repeat' split) <;> first | omega | (exfalso; omega) | (congr 1; omega) | (congr 1; done) | rfl
theorem q_nr_s4 (R : Nat → Int) (i : Nat) (L : Nat → Int) : (q_nr R i L) 4 = R 4 := by
  unfold q_nr 
  (try simp only [q_up, reduceIte, Nat.reduceEqDiff]) <;> (repeat' split) <;> first | omega | (exfalso; omega) | (congr 1; omega) | (congr 1; done) | rfl
theorem q_nr_s5 (R : Nat → Int) (i : Nat) (L : Nat → Int) : (q_nr R i L) 5 = R 5 := by
  unfold q_nr 
  (try simp only [q_up, reduceIte, Nat.reduceEqDiff]) <;> (repeat' split) <;> first | omega | (exfalso; omega) | (congr 1; omega) | (congr 1; done) | rfl
theorem q_nr_s6 (R : Nat → Int) (i : Nat) (L : Nat → Int) : (q_nr R i L) 6 = R 6 := by
  unfold q_nr 
  (try simp only [q_up, reduceIte, Nat.reduceEqDiff]) <;> (repeat' split) <;> first | omega | (exfalso; omega) | (congr 1; omega) | (congr 1; done) | rfl
def q_ent (R : Nat → Int) (n : Nat) (o d : Int) : Nat → Int := fun k => if k = 7 then R 7 + 1 else if k = 14 + 11 * n then o else if k = 14 + 11 * n + 1 then d else if k = 14 + 11 * n + 4 then 6 else if 14 + 11 * n ≤ k ∧ k < 14 + 11 * n + 11 then 0 else R k
theorem q_ent_nd (R : Nat → Int) (n : Nat) (o d : Int) : q_nd (q_ent R n o d) = q_nd R + 1 := by
  unfold q_ent q_nd
  (try simp only [q_up, reduceIte, Nat.reduceEqDiff]) <;> (repeat' split) <;> first | omega | (exfalso; omega) | (congr 1; omega) | (congr 1; done) | rfl
theorem q_ent_ow (R : Nat → Int) (n : Nat) (o d : Int) (j : Nat) : q_ow (q_ent R n o d) j = if j = n then o else q_ow R j := by
  unfold q_ent q_ow
  (try simp only [q_up, reduceIte, Nat.reduceEqDiff]) <;> (repeat' split) <;> first | omega | (exfalso; omega) | (congr 1; omega) | (congr 1; done) | rfl
theorem q_ent_dr (R : Nat → Int) (n : Nat) (o d : Int) (j : Nat) : q_dr (q_ent R n o d) j = if j = n then d else q_dr R j := by
  unfold q_ent q_dr
  (try simp only [q_up, reduceIte, Nat.reduceEqDiff]) <;> (repeat' split) <;> first | omega | (exfalso; omega) | (congr 1; omega) | (congr 1; done) | rfl
theorem q_ent_sa (R : Nat → Int) (n : Nat) (o d : Int) (j : Nat) : q_sa (q_ent R n o d) j = if j = n then 0 else q_sa R j := by
  unfold q_ent q_sa
  (try simp only [q_up, reduceIte, Nat.reduceEqDiff]) <;> (repeat' split) <;> first | omega | (exfalso; omega) | (congr 1; omega) | (congr 1; done) | rfl
theorem q_ent_hs (R : Nat → Int) (n : Nat) (o d : Int) (j : Nat) : q_hs (q_ent R n o d) j = if j = n then 0 else q_hs R j := by
  unfold q_ent q_hs
  (try simp only [q_up, reduceIte, Nat.reduceEqDiff]) <;> (repeat' split) <;> first | omega | (exfalso; omega) | (congr 1; omega) | (congr 1; done) | rfl
theorem q_ent_fr (R : Nat → Int) (n : Nat) (o d : Int) (j : Nat) : q_fr (q_ent R n o d) j = if j = n then 6 else q_fr R j := by
  unfold q_ent q_fr
  (try simp only [q_up, reduceIte, Nat.reduceEqDiff]) <;> (repeat' split) <;> first | omega | (exfalso; omega) | (congr 1; omega) | (congr 1; done) | rfl
theorem q_ent_ls (R : Nat → Int) (n : Nat) (o d : Int) (j p : Nat) (hp : p < 6) : q_ls (q_ent R n o d) j p = if j = n then 0 else q_ls R j p := by
  unfold q_ent q_ls
  (try simp only [q_up, reduceIte, Nat.reduceEqDiff]) <;> (repeat' split) <;> first | omega | (exfalso; omega) | (congr 1; omega) | (congr 1; done) | rfl
theorem q_ent_rk (R : Nat → Int) (n : Nat) (o d : Int) (k : Nat) (hk : k < 6) : q_rk (q_ent R n o d) k = q_rk R k := by
  unfold q_ent q_rk
  (try simp only [q_up, reduceIte, Nat.reduceEqDiff]) <;> (repeat' split) <;> first | omega | (exfalso; omega) | (congr 1; omega) | (congr 1; done) | rfl
theorem q_ent_s0 (R : Nat → Int) (n : Nat) (o d : Int) : (q_ent R n o d) 0 = R 0 := by
  unfold q_ent 
  (try simp only [q_up, reduceIte, Nat.reduceEqDiff]) <;> (repeat' split) <;> first | omega | (exfalso; omega) | (congr 1; omega) | (congr 1; done) | rfl
theorem q_ent_s1 (R : Nat → Int) (n : Nat) (o d : Int) : (q_ent R n o d) 1 = R 1 := by
  unfold q_ent 
  (try simp only [q_up, reduceIte, Nat.reduceEqDiff]) <;> (repeat' split) <;> first | omega | (exfalso; omega) | (congr 1; omega) | (congr 1; done) | rfl
theorem q_ent_s2 (R : Nat → Int) (n : Nat) (o d : Int) : (q_ent R n o d) 2 = R 2 := by
  unfold q_ent 
  (try simp only [q_up, reduceIte, Nat.reduceEqDiff]) <;> (repeat' split) <;> first | omega | (exfalso; omega) | (congr 1; omega) | (congr 1; done) | rfl
theorem q_ent_s3 (R : Nat → Int) (n : Nat) (o d : Int) : (q_ent R n o d) 3 = R 3 := by
  unfold q_ent 
  (try simp only [q_up, reduceIte, Nat.reduceEqDiff]) <;> (repeat' split) <;> first | omega | (exfalso; omega) | (congr 1; omega) | (congr 1; done) | rfl
theorem q_ent_s4 (R : Nat → Int) (n : Nat) (o d : Int) : (q_ent R n o d) 4 = R 4 := by
  unfold q_ent 
  (try simp only [q_up, reduceIte, Nat.reduceEqDiff]) <;> (repeat' split) <;> first | omega | (exfalso; omega) | (congr 1; omega) | (congr 1; done) | rfl
theorem q_ent_s5 (R : Nat → Int) (n : Nat) (o d : Int) : (q_ent R n o d) 5 = R 5 := by
  unfold q_ent 
  (try simp only [q_up, reduceIte, Nat.reduceEqDiff]) <;> (repeat' split) <;> first | omega | (exfalso; omega) | (congr 1; omega) | (congr 1; done) | rfl
theorem q_ent_s6 (R : Nat → Int) (n : Nat) (o d : Int) : (q_ent R n o d) 6 = R 6 := by
  unfold q_ent 
  (try simp only [q_up, reduceIte, Nat.reduceEqDiff]) <;> (repeat' split) <;> first | omega | (exfalso; omega) | (congr 1; omega) | (congr 1; done) | rfl
def q_srk (R : Nat → Int) (f : Nat → Int) : Nat → Int := fun k => if 8 ≤ k ∧ k < 14 then f (k - 8) else R k
theorem q_srk_nd (R : Nat → Int) (f : Nat → Int) : q_nd (q_srk R f) = q_nd R := by
  unfold q_srk q_nd
  (try simp only [q_up, reduceIte, Nat.reduceEqDiff]) <;> (repeat' split) <;> first | omega | (exfalso; omega) | (congr 1; omega) | (congr 1; done) | rfl
theorem q_srk_ow (R : Nat → Int) (f : Nat → Int) (j : Nat) : q_ow (q_srk R f) j = q_ow R j := by
  unfold q_srk q_ow
  (try simp only [q_up, reduceIte, Nat.reduceEqDiff]) <;> (repeat' split) <;> first | omega | (exfalso; omega) | (congr 1; omega) | (congr 1; done) | rfl
theorem q_srk_dr (R : Nat → Int) (f : Nat → Int) (j : Nat) : q_dr (q_srk R f) j = q_dr R j := by
  unfold q_srk q_dr
  (try simp only [q_up, reduceIte, Nat.reduceEqDiff]) <;> (repeat' split) <;> first | omega | (exfalso; omega) | (congr 1; omega) | (congr 1; done) | rfl
theorem q_srk_sa (R : Nat → Int) (f : Nat → Int) (j : Nat) : q_sa (q_srk R f) j = q_sa R j := by
  unfold q_srk q_sa
  (try simp only [q_up, reduceIte, Nat.reduceEqDiff]) <;> (repeat' split) <;> first | omega | (exfalso; omega) | (congr 1; omega) | (congr 1; done) | rfl
theorem q_srk_hs (R : Nat → Int) (f : Nat → Int) (j : Nat) : q_hs (q_srk R f) j = q_hs R j := by
  unfold q_srk q_hs
  (try simp only [q_up, reduceIte, Nat.reduceEqDiff]) <;> (repeat' split) <;> first | omega | (exfalso; omega) | (congr 1; omega) | (congr 1; done) | rfl
theorem q_srk_fr (R : Nat → Int) (f : Nat → Int) (j : Nat) : q_fr (q_srk R f) j = q_fr R j := by
  unfold q_srk q_fr
  (try simp only [q_up, reduceIte, Nat.reduceEqDiff]) <;> (repeat' split) <;> first | omega | (exfalso; omega) | (congr 1; omega) | (congr 1; done) | rfl
theorem q_srk_ls (R : Nat → Int) (f : Nat → Int) (j p : Nat) (hp : p < 6) : q_ls (q_srk R f) j p = q_ls R j p := by
  unfold q_srk q_ls
  (try simp only [q_up, reduceIte, Nat.reduceEqDiff]) <;> (repeat' split) <;> first | omega | (exfalso; omega) | (congr 1; omega) | (congr 1; done) | rfl
theorem q_srk_rk (R : Nat → Int) (f : Nat → Int) (k : Nat) (hk : k < 6) : q_rk (q_srk R f) k = f k := by
  unfold q_srk q_rk
  (try simp only [q_up, reduceIte, Nat.reduceEqDiff]) <;> (repeat' split) <;> first | omega | (exfalso; omega) | (congr 1; omega) | (congr 1; done) | rfl
theorem q_srk_s0 (R : Nat → Int) (f : Nat → Int) : (q_srk R f) 0 = R 0 := by
  unfold q_srk 
  (try simp only [q_up, reduceIte, Nat.reduceEqDiff]) <;> (repeat' split) <;> first | omega | (exfalso; omega) | (congr 1; omega) | (congr 1; done) | rfl
theorem q_srk_s1 (R : Nat → Int) (f : Nat → Int) : (q_srk R f) 1 = R 1 := by
  unfold q_srk 
  (try simp only [q_up, reduceIte, Nat.reduceEqDiff]) <;> (repeat' split) <;> first | omega | (exfalso; omega) | (congr 1; omega) | (congr 1; done) | rfl
theorem q_srk_s2 (R : Nat → Int) (f : Nat → Int) : (q_srk R f) 2 = R 2 := by
  unfold q_srk 
  (try simp only [q_up, reduceIte, Nat.reduceEqDiff]) <;> (repeat' split) <;> first | omega | (exfalso; omega) | (congr 1; omega) | (congr 1; done) | rfl
theorem q_srk_s3 (R : Nat → Int) (f : Nat → Int) : (q_srk R f) 3 = R 3 := by
  unfold q_srk 
  (try simp only [q_up, reduceIte, Nat.reduceEqDiff]) <;> (repeat' split) <;> first | omega | (exfalso; omega) | (congr 1; omega) | (congr 1; done) | rfl
theorem q_srk_s4 (R : Nat → Int) (f : Nat → Int) : (q_srk R f) 4 = R 4 := by
  unfold q_srk 
  (try simp only [q_up, reduceIte, Nat.reduceEqDiff]) <;> (repeat' split) <;> first | omega | (exfalso; omega) | (congr 1; omega) | (congr 1; done) | rfl
theorem q_srk_s5 (R : Nat → Int) (f : Nat → Int) : (q_srk R f) 5 = R 5 := by
  unfold q_srk 
  (try simp only [q_up, reduceIte, Nat.reduceEqDiff]) <;> (repeat' split) <;> first | omega | (exfalso; omega) | (congr 1; omega) | (congr 1; done) | rfl
theorem q_srk_s6 (R : Nat → Int) (f : Nat → Int) : (q_srk R f) 6 = R 6 := by
  unfold q_srk 
  (try simp only [q_up, reduceIte, Nat.reduceEqDiff]) <;> (repeat' split) <;> first | omega | (exfalso; omega) | (congr 1; omega) | (congr 1; done) | rfl
