theorem q_rno_nd (R : Nat → Int) (i : Nat) (mi : Int) (L : Nat → Int) : q_nd (q_rno R i mi L) = q_nd R := by
  unfold q_rno
  split
  · rw [q_drk_nd, q_lst_nd]
  · rw [q_nr_nd, q_cnt_nd, q_lst_nd]
