set_option maxHeartbeats 4000000 in
set_option maxRecDepth 100000 in
theorem law_k7 {p : Program} {l : Launch} {e : Env} {s : State} {m : MethodId} {below : List Frame} {meth : Method} {c : Code} {H : Heap} {locs : List Loc} {cells slots : Nat} {Q : State → Prop} {ls : Array Slot} {G : gG} {M : Nat → Nat → Int} {b L : Nat} {xs : Nat → Int32} (C : lw_C p l s m meth c G b L xs) {i o n tn : Nat} (hi : i + 4 ≤ L) (hJ : q_J M o n tn) (hG : gH G M s H locs) (hl : lv_has ls 7 (lw_ls b G i)) (hf : cells + 1 ≤ room_1.cells ∧ slots + 6 ≤ room_1.slots) (K : ∀ (M1 : Nat → Nat → Int) (H1 : Heap) (locs1 : List Loc) (ls1 : Array Slot), (∃ o n tn, q_J M1 o n tn) → gH G M1 s H1 locs1 → lv_has ls1 7 (lw_ls b G i) → W p l e room_1 s m #[Value.ref b] below meth c H1 locs1 (cells + 1) (slots + 6) Q (F0 m 1680 ls1 [])) : W p l e room_1 s m #[Value.ref b] below meth c H locs cells slots Q (F0 m 478 ls []) := by
  obtain ⟨hx, hb, hr, hml, hown, hts0, hX, hbl, hlocks, hgv⟩ := id C.1
  have hts := lw_hts C.1
  obtain ⟨-, hl0, hdm, hXt, hbA, hL⟩ := id C
  obtain ⟨⟨ho, hn, htn⟩, ⟨hR, hPk⟩, ⟨hm1, hm2, hm8⟩, hdi, hke, ⟨ht1, ht2, htx, hch⟩, hbo⟩ := id hJ
  have hl : lv_has ls 7 [(4, .int (iZ (i : Int))), (3, .ref (gad G 178)), (2, .ref (gad G 169)), (1, .ref (gad G 152)), (0, .ref b)] := hl
  obtain ⟨a0, e0, r0⟩ : ∃ z : Int, xs (i + 1) = iZ z ∧ (-2147483648 ≤ z ∧ z < 2147483648) := ⟨_, (iZ_of _).symm, lw_r32 _⟩
  refine lv_aload_n hx hb dL_law_478 rfl (lv_at hl 3 rfl) ?_
  refine law_arg C hG i (j := 1) (jn := 1) (by omega) rfl (lv_at hl 4 rfl) (lv_at hl 0 rfl) dL_law_479 dL_law_480 dL_law_482 dL_law_483 dL_law_484 ?_
  rw [e0]
  refine lv_aload_n hx hb dL_law_485 rfl (lv_at hl 1 rfl) ?_
  refine g_callW (As := [.ref (gad G 152), .int (iZ a0), .ref (gad G 178)]) (rest := []) ⟨hx, hb, hml, hown, hts⟩ (c_L_order l G M hl0 hdm (M 172) hR hPk.1 a0 r0) (vx_cwSW 3 hts gL_law_L_order rfl rfl rfl (by decide +kernel) ⟨Nat.le_of_ble_eq_true rfl, Nat.le_of_ble_eq_true rfl⟩) hXt hG rfl hl.1 rfl (Nat.le_of_ble_eq_true rfl) dL_law_486 hf (fun z1 M1 H locs hp1 hG => ?_)
  have hmd : q_mid M M1 := q_mid.of md_cs hp1.2
  have hz : 0 ≤ z1 ∧ z1 ≤ 3 := by rw [hp1.1]; (repeat' split) <;> decide
  refine lv_istore (lv' := [(5, .int (iZ z1)), (4, .int (iZ (i : Int))), (3, .ref (gad G 178)), (2, .ref (gad G 169)), (1, .ref (gad G 152)), (0, .ref b)]) hx hb dL_law_489 hl (by decide) rfl (fun ls hl => ?_)
  refine lv_aload_n hx hb dL_law_491 rfl (lv_at hl 3 rfl) ?_
  refine law_arg C hG i (j := 1) (jn := 1) (by omega) rfl (lv_at hl 5 rfl) (lv_at hl 1 rfl) dL_law_492 dL_law_493 dL_law_495 dL_law_496 dL_law_497 ?_
  rw [e0]
  refine g_callV (b := 169) (As := [.int (iZ a0)]) (rest := []) ⟨hx, hb, hml, hown, hts⟩ (c_X6_order l G M1 hdm (M 172) (hmd 172 (by decide) (by decide)) hPk.1 a0 r0) (cwV 1 hts gL_law_X6_order rfl rfl rfl (by decide +kernel) ⟨Nat.le_of_ble_eq_true rfl, Nat.le_of_ble_eq_true rfl⟩) hG (g_recv hG (b := 169) (hdm 169 (by decide)) rfl rfl) rfl hl.1 rfl (Nat.le_of_ble_eq_true rfl) dL_law_498 hf (fun z2 M2 H locs hp2 hG => ?_)
  exact law_tail C hf ⟨Nat.le_of_ble_eq_true rfl, Nat.le_of_ble_eq_true rfl⟩ hG hl hz (lw_q hJ hp1 hp2) dL_law_501 dL_law_503 dL_law_504 dL_law_507 dL_law_509 dL_law_514 dL_law_516 dL_law_519 dL_law_520 dL_law_521 dL_law_522 dL_law_524 dL_law_525 dL_law_526 dL_law_531 (by decide) K
set_option maxHeartbeats 4000000 in
set_option maxRecDepth 100000 in
theorem law_k8 {p : Program} {l : Launch} {e : Env} {s : State} {m : MethodId} {below : List Frame} {meth : Method} {c : Code} {H : Heap} {locs : List Loc} {cells slots : Nat} {Q : State → Prop} {ls : Array Slot} {G : gG} {M : Nat → Nat → Int} {b L : Nat} {xs : Nat → Int32} (C : lw_C p l s m meth c G b L xs) {i o n tn : Nat} (hi : i + 4 ≤ L) (hJ : q_J M o n tn) (hG : gH G M s H locs) (hl : lv_has ls 7 (lw_ls b G i)) (hf : cells + 1 ≤ room_1.cells ∧ slots + 6 ≤ room_1.slots) (K : ∀ (M1 : Nat → Nat → Int) (H1 : Heap) (locs1 : List Loc) (ls1 : Array Slot), (∃ o n tn, q_J M1 o n tn) → gH G M1 s H1 locs1 → lv_has ls1 7 (lw_ls b G i) → W p l e room_1 s m #[Value.ref b] below meth c H1 locs1 (cells + 1) (slots + 6) Q (F0 m 1680 ls1 [])) : W p l e room_1 s m #[Value.ref b] below meth c H locs cells slots Q (F0 m 534 ls []) := by
  obtain ⟨hx, hb, hr, hml, hown, hts0, hX, hbl, hlocks, hgv⟩ := id C.1
  have hts := lw_hts C.1
  obtain ⟨-, hl0, hdm, hXt, hbA, hL⟩ := id C
  obtain ⟨⟨ho, hn, htn⟩, ⟨hR, hPk⟩, ⟨hm1, hm2, hm8⟩, hdi, hke, ⟨ht1, ht2, htx, hch⟩, hbo⟩ := id hJ
  have hl : lv_has ls 7 [(4, .int (iZ (i : Int))), (3, .ref (gad G 178)), (2, .ref (gad G 169)), (1, .ref (gad G 152)), (0, .ref b)] := hl
  obtain ⟨a0, e0, r0⟩ : ∃ z : Int, xs (i + 1) = iZ z ∧ (-2147483648 ≤ z ∧ z < 2147483648) := ⟨_, (iZ_of _).symm, lw_r32 _⟩
  refine lv_aload_n hx hb dL_law_534 rfl (lv_at hl 3 rfl) ?_
  refine law_arg C hG i (j := 1) (jn := 1) (by omega) rfl (lv_at hl 4 rfl) (lv_at hl 0 rfl) dL_law_535 dL_law_536 dL_law_538 dL_law_539 dL_law_540 ?_
  rw [e0]
  refine lv_aload_n hx hb dL_law_541 rfl (lv_at hl 1 rfl) ?_
  refine g_callW (As := [.ref (gad G 152), .int (iZ a0), .ref (gad G 178)]) (rest := []) ⟨hx, hb, hml, hown, hts⟩ (c_L_standing l G M hl0 hdm (M 172) hR hPk.1 a0 r0) (vx_cwSW 3 hts gL_law_L_standing rfl rfl rfl (by decide +kernel) ⟨Nat.le_of_ble_eq_true rfl, Nat.le_of_ble_eq_true rfl⟩) hXt hG rfl hl.1 rfl (Nat.le_of_ble_eq_true rfl) dL_law_542 hf (fun z1 M1 H locs hp1 hG => ?_)
  have hmd : q_mid M M1 := q_mid.of md_cs hp1.2
  have hz : 0 ≤ z1 ∧ z1 ≤ 3 := by rw [hp1.1]; (repeat' split) <;> decide
  refine lv_istore (lv' := [(5, .int (iZ z1)), (4, .int (iZ (i : Int))), (3, .ref (gad G 178)), (2, .ref (gad G 169)), (1, .ref (gad G 152)), (0, .ref b)]) hx hb dL_law_545 hl (by decide) rfl (fun ls hl => ?_)
  refine lv_aload_n hx hb dL_law_547 rfl (lv_at hl 3 rfl) ?_
  refine law_arg C hG i (j := 1) (jn := 1) (by omega) rfl (lv_at hl 5 rfl) (lv_at hl 1 rfl) dL_law_548 dL_law_549 dL_law_551 dL_law_552 dL_law_553 ?_
  rw [e0]
  refine g_callV (b := 169) (As := [.int (iZ a0)]) (rest := []) ⟨hx, hb, hml, hown, hts⟩ (c_X6_standing l G M1 hdm (M 172) (hmd 172 (by decide) (by decide)) hPk.1 a0 r0) (cwV 1 hts gL_law_X6_standing rfl rfl rfl (by decide +kernel) ⟨Nat.le_of_ble_eq_true rfl, Nat.le_of_ble_eq_true rfl⟩) hG (g_recv hG (b := 169) (hdm 169 (by decide)) rfl rfl) rfl hl.1 rfl (Nat.le_of_ble_eq_true rfl) dL_law_554 hf (fun z2 M2 H locs hp2 hG => ?_)
  exact law_tail C hf ⟨Nat.le_of_ble_eq_true rfl, Nat.le_of_ble_eq_true rfl⟩ hG hl hz (lw_q hJ hp1 hp2) dL_law_557 dL_law_559 dL_law_560 dL_law_563 dL_law_565 dL_law_570 dL_law_572 dL_law_575 dL_law_576 dL_law_577 dL_law_578 dL_law_580 dL_law_581 dL_law_582 dL_law_587 (by decide) K
set_option maxHeartbeats 4000000 in
set_option maxRecDepth 100000 in
theorem law_k9 {p : Program} {l : Launch} {e : Env} {s : State} {m : MethodId} {below : List Frame} {meth : Method} {c : Code} {H : Heap} {locs : List Loc} {cells slots : Nat} {Q : State → Prop} {ls : Array Slot} {G : gG} {M : Nat → Nat → Int} {b L : Nat} {xs : Nat → Int32} (C : lw_C p l s m meth c G b L xs) {i o n tn : Nat} (hi : i + 4 ≤ L) (hJ : q_J M o n tn) (hG : gH G M s H locs) (hl : lv_has ls 7 (lw_ls b G i)) (hf : cells + 1 ≤ room_1.cells ∧ slots + 6 ≤ room_1.slots) (K : ∀ (M1 : Nat → Nat → Int) (H1 : Heap) (locs1 : List Loc) (ls1 : Array Slot), (∃ o n tn, q_J M1 o n tn) → gH G M1 s H1 locs1 → lv_has ls1 7 (lw_ls b G i) → W p l e room_1 s m #[Value.ref b] below meth c H1 locs1 (cells + 1) (slots + 6) Q (F0 m 1680 ls1 [])) : W p l e room_1 s m #[Value.ref b] below meth c H locs cells slots Q (F0 m 590 ls []) := by
  obtain ⟨hx, hb, hr, hml, hown, hts0, hX, hbl, hlocks, hgv⟩ := id C.1
  have hts := lw_hts C.1
  obtain ⟨-, hl0, hdm, hXt, hbA, hL⟩ := id C
  obtain ⟨⟨ho, hn, htn⟩, ⟨hR, hPk⟩, ⟨hm1, hm2, hm8⟩, hdi, hke, ⟨ht1, ht2, htx, hch⟩, hbo⟩ := id hJ
  have hl : lv_has ls 7 [(4, .int (iZ (i : Int))), (3, .ref (gad G 178)), (2, .ref (gad G 169)), (1, .ref (gad G 152)), (0, .ref b)] := hl
  obtain ⟨a0, e0, r0⟩ : ∃ z : Int, xs (i + 1) = iZ z ∧ (-2147483648 ≤ z ∧ z < 2147483648) := ⟨_, (iZ_of _).symm, lw_r32 _⟩
  refine lv_aload_n hx hb dL_law_590 rfl (lv_at hl 3 rfl) ?_
  refine law_arg C hG i (j := 1) (jn := 1) (by omega) rfl (lv_at hl 4 rfl) (lv_at hl 0 rfl) dL_law_591 dL_law_592 dL_law_594 dL_law_595 dL_law_596 ?_
  rw [e0]
  refine lv_aload_n hx hb dL_law_597 rfl (lv_at hl 1 rfl) ?_
  refine g_callW (As := [.ref (gad G 152), .int (iZ a0), .ref (gad G 178)]) (rest := []) ⟨hx, hb, hml, hown, hts⟩ (c_L_owner l G M hl0 hdm (M 172) hR hPk.1 a0 r0) (vx_cwSW 3 hts gL_law_L_owner rfl rfl rfl (by decide +kernel) ⟨Nat.le_of_ble_eq_true rfl, Nat.le_of_ble_eq_true rfl⟩) hXt hG rfl hl.1 rfl (Nat.le_of_ble_eq_true rfl) dL_law_598 hf (fun z1 M1 H locs hp1 hG => ?_)
  have hmd : q_mid M M1 := q_mid.of md_cs hp1.2
  have hz : 0 ≤ z1 ∧ z1 ≤ 3 := by rw [hp1.1]; (repeat' split) <;> decide
  refine lv_istore (lv' := [(5, .int (iZ z1)), (4, .int (iZ (i : Int))), (3, .ref (gad G 178)), (2, .ref (gad G 169)), (1, .ref (gad G 152)), (0, .ref b)]) hx hb dL_law_601 hl (by decide) rfl (fun ls hl => ?_)
  refine lv_aload_n hx hb dL_law_603 rfl (lv_at hl 3 rfl) ?_
  refine law_arg C hG i (j := 1) (jn := 1) (by omega) rfl (lv_at hl 5 rfl) (lv_at hl 1 rfl) dL_law_604 dL_law_605 dL_law_607 dL_law_608 dL_law_609 ?_
  rw [e0]
  refine g_callV (b := 169) (As := [.int (iZ a0)]) (rest := []) ⟨hx, hb, hml, hown, hts⟩ (c_X6_owner l G M1 hdm (M 172) (hmd 172 (by decide) (by decide)) hPk.1 a0 r0) (cwV 1 hts gL_law_X6_owner rfl rfl rfl (by decide +kernel) ⟨Nat.le_of_ble_eq_true rfl, Nat.le_of_ble_eq_true rfl⟩) hG (g_recv hG (b := 169) (hdm 169 (by decide)) rfl rfl) rfl hl.1 rfl (Nat.le_of_ble_eq_true rfl) dL_law_610 hf (fun z2 M2 H locs hp2 hG => ?_)
  exact law_tail C hf ⟨Nat.le_of_ble_eq_true rfl, Nat.le_of_ble_eq_true rfl⟩ hG hl hz (lw_q hJ hp1 hp2) dL_law_613 dL_law_615 dL_law_616 dL_law_619 dL_law_621 dL_law_626 dL_law_628 dL_law_631 dL_law_632 dL_law_633 dL_law_634 dL_law_636 dL_law_637 dL_law_638 dL_law_643 (by decide) K
set_option maxHeartbeats 4000000 in
set_option maxRecDepth 100000 in
theorem law_k10 {p : Program} {l : Launch} {e : Env} {s : State} {m : MethodId} {below : List Frame} {meth : Method} {c : Code} {H : Heap} {locs : List Loc} {cells slots : Nat} {Q : State → Prop} {ls : Array Slot} {G : gG} {M : Nat → Nat → Int} {b L : Nat} {xs : Nat → Int32} (C : lw_C p l s m meth c G b L xs) {i o n tn : Nat} (hi : i + 4 ≤ L) (hJ : q_J M o n tn) (hG : gH G M s H locs) (hl : lv_has ls 7 (lw_ls b G i)) (hf : cells + 1 ≤ room_1.cells ∧ slots + 6 ≤ room_1.slots) (K : ∀ (M1 : Nat → Nat → Int) (H1 : Heap) (locs1 : List Loc) (ls1 : Array Slot), (∃ o n tn, q_J M1 o n tn) → gH G M1 s H1 locs1 → lv_has ls1 7 (lw_ls b G i) → W p l e room_1 s m #[Value.ref b] below meth c H1 locs1 (cells + 1) (slots + 6) Q (F0 m 1680 ls1 [])) : W p l e room_1 s m #[Value.ref b] below meth c H locs cells slots Q (F0 m 646 ls []) := by
  obtain ⟨hx, hb, hr, hml, hown, hts0, hX, hbl, hlocks, hgv⟩ := id C.1
  have hts := lw_hts C.1
  obtain ⟨-, hl0, hdm, hXt, hbA, hL⟩ := id C
  obtain ⟨⟨ho, hn, htn⟩, ⟨hR, hPk⟩, ⟨hm1, hm2, hm8⟩, hdi, hke, ⟨ht1, ht2, htx, hch⟩, hbo⟩ := id hJ
  have hl : lv_has ls 7 [(4, .int (iZ (i : Int))), (3, .ref (gad G 178)), (2, .ref (gad G 169)), (1, .ref (gad G 152)), (0, .ref b)] := hl
  obtain ⟨a0, e0, r0⟩ : ∃ z : Int, xs (i + 1) = iZ z ∧ (-2147483648 ≤ z ∧ z < 2147483648) := ⟨_, (iZ_of _).symm, lw_r32 _⟩
  obtain ⟨a1, e1, r1⟩ : ∃ z : Int, xs (i + 2) = iZ z ∧ (-2147483648 ≤ z ∧ z < 2147483648) := ⟨_, (iZ_of _).symm, lw_r32 _⟩
  refine lv_aload_n hx hb dL_law_646 rfl (lv_at hl 3 rfl) ?_
  refine law_arg C hG i (j := 1) (jn := 1) (by omega) rfl (lv_at hl 4 rfl) (lv_at hl 0 rfl) dL_law_647 dL_law_648 dL_law_650 dL_law_651 dL_law_652 ?_
  rw [e0]
  refine law_arg C hG i (j := 2) (jn := 2) (by omega) rfl (lv_at hl 4 rfl) (lv_at hl 0 rfl) dL_law_653 dL_law_654 dL_law_656 dL_law_657 dL_law_658 ?_
  rw [e1]
  refine lv_aload_n hx hb dL_law_659 rfl (lv_at hl 1 rfl) ?_
  refine g_callW (As := [.ref (gad G 152), .int (iZ a0), .int (iZ a1), .ref (gad G 178)]) (rest := []) ⟨hx, hb, hml, hown, hts⟩ (c_L_enter l G M hl0 hdm (M 172) hR hPk.1 o n ho hn hm1 hm2 a0 r0 a1 r1) (vx_cwSW 4 hts gL_law_L_enter rfl rfl rfl (by decide +kernel) ⟨Nat.le_of_ble_eq_true rfl, Nat.le_of_ble_eq_true rfl⟩) hXt hG rfl hl.1 rfl (Nat.le_of_ble_eq_true rfl) dL_law_660 hf (fun z1 M1 H locs hp1 hG => ?_)
  have hmd : q_mid M M1 := q_mid.of md_act hp1.2
  have hz : 0 ≤ z1 ∧ z1 ≤ 3 := by rw [hp1.1]; (repeat' split) <;> decide
  refine lv_istore (lv' := [(5, .int (iZ z1)), (4, .int (iZ (i : Int))), (3, .ref (gad G 178)), (2, .ref (gad G 169)), (1, .ref (gad G 152)), (0, .ref b)]) hx hb dL_law_663 hl (by decide) rfl (fun ls hl => ?_)
  refine lv_aload_n hx hb dL_law_665 rfl (lv_at hl 3 rfl) ?_
  refine law_arg C hG i (j := 1) (jn := 1) (by omega) rfl (lv_at hl 5 rfl) (lv_at hl 1 rfl) dL_law_666 dL_law_667 dL_law_669 dL_law_670 dL_law_671 ?_
  rw [e0]
  refine law_arg C hG i (j := 2) (jn := 2) (by omega) rfl (lv_at hl 5 rfl) (lv_at hl 1 rfl) dL_law_672 dL_law_673 dL_law_675 dL_law_676 dL_law_677 ?_
  rw [e1]
  refine g_callV (b := 169) (As := [.int (iZ a0), .int (iZ a1)]) (rest := []) ⟨hx, hb, hml, hown, hts⟩ (c_X6_enter l G M1 hdm (M 172) (hmd 172 (by decide) (by decide)) hPk.1 n hn (by rw [hmd 169 (by decide) (by decide)]; exact hm8) a0 r0 a1 r1) (cwV 2 hts gL_law_X6_enter rfl rfl rfl (by decide +kernel) ⟨Nat.le_of_ble_eq_true rfl, Nat.le_of_ble_eq_true rfl⟩) hG (g_recv hG (b := 169) (hdm 169 (by decide)) rfl rfl) rfl hl.1 rfl (Nat.le_of_ble_eq_true rfl) dL_law_678 hf (fun z2 M2 H locs hp2 hG => ?_)
  exact law_tail C hf ⟨Nat.le_of_ble_eq_true rfl, Nat.le_of_ble_eq_true rfl⟩ hG hl hz (lw_a hJ hp1 hp2 (pk_ent hPk)) dL_law_681 dL_law_683 dL_law_684 dL_law_687 dL_law_689 dL_law_694 dL_law_696 dL_law_699 dL_law_700 dL_law_701 dL_law_702 dL_law_704 dL_law_705 dL_law_706 dL_law_711 (by decide) K
set_option maxHeartbeats 4000000 in
set_option maxRecDepth 100000 in
theorem law_k11 {p : Program} {l : Launch} {e : Env} {s : State} {m : MethodId} {below : List Frame} {meth : Method} {c : Code} {H : Heap} {locs : List Loc} {cells slots : Nat} {Q : State → Prop} {ls : Array Slot} {G : gG} {M : Nat → Nat → Int} {b L : Nat} {xs : Nat → Int32} (C : lw_C p l s m meth c G b L xs) {i o n tn : Nat} (hi : i + 4 ≤ L) (hJ : q_J M o n tn) (hG : gH G M s H locs) (hl : lv_has ls 7 (lw_ls b G i)) (hf : cells + 1 ≤ room_1.cells ∧ slots + 6 ≤ room_1.slots) (K : ∀ (M1 : Nat → Nat → Int) (H1 : Heap) (locs1 : List Loc) (ls1 : Array Slot), (∃ o n tn, q_J M1 o n tn) → gH G M1 s H1 locs1 → lv_has ls1 7 (lw_ls b G i) → W p l e room_1 s m #[Value.ref b] below meth c H1 locs1 (cells + 1) (slots + 6) Q (F0 m 1680 ls1 [])) : W p l e room_1 s m #[Value.ref b] below meth c H locs cells slots Q (F0 m 714 ls []) := by
  obtain ⟨hx, hb, hr, hml, hown, hts0, hX, hbl, hlocks, hgv⟩ := id C.1
  have hts := lw_hts C.1
  obtain ⟨-, hl0, hdm, hXt, hbA, hL⟩ := id C
  obtain ⟨⟨ho, hn, htn⟩, ⟨hR, hPk⟩, ⟨hm1, hm2, hm8⟩, hdi, hke, ⟨ht1, ht2, htx, hch⟩, hbo⟩ := id hJ
  have hl : lv_has ls 7 [(4, .int (iZ (i : Int))), (3, .ref (gad G 178)), (2, .ref (gad G 169)), (1, .ref (gad G 152)), (0, .ref b)] := hl
  obtain ⟨a0, e0, r0⟩ : ∃ z : Int, xs (i + 1) = iZ z ∧ (-2147483648 ≤ z ∧ z < 2147483648) := ⟨_, (iZ_of _).symm, lw_r32 _⟩
  refine lv_aload_n hx hb dL_law_714 rfl (lv_at hl 3 rfl) ?_
  refine law_arg C hG i (j := 1) (jn := 1) (by omega) rfl (lv_at hl 4 rfl) (lv_at hl 0 rfl) dL_law_715 dL_law_716 dL_law_718 dL_law_719 dL_law_720 ?_
  rw [e0]
  refine lv_aload_n hx hb dL_law_721 rfl (lv_at hl 1 rfl) ?_
  refine g_callW (As := [.ref (gad G 152), .int (iZ a0), .ref (gad G 178)]) (rest := []) ⟨hx, hb, hml, hown, hts⟩ (c_L_withdraw l G M hl0 hdm (M 172) hR hPk.1 o n ho hn hm1 hm2 a0 r0) (vx_cwSW 3 hts gL_law_L_withdraw rfl rfl rfl (by decide +kernel) ⟨Nat.le_of_ble_eq_true rfl, Nat.le_of_ble_eq_true rfl⟩) hXt hG rfl hl.1 rfl (Nat.le_of_ble_eq_true rfl) dL_law_722 hf (fun z1 M1 H locs hp1 hG => ?_)
  have hmd : q_mid M M1 := q_mid.of md_act hp1.2
  have hz : 0 ≤ z1 ∧ z1 ≤ 3 := by rw [hp1.1]; (repeat' split) <;> decide
  refine lv_istore (lv' := [(5, .int (iZ z1)), (4, .int (iZ (i : Int))), (3, .ref (gad G 178)), (2, .ref (gad G 169)), (1, .ref (gad G 152)), (0, .ref b)]) hx hb dL_law_725 hl (by decide) rfl (fun ls hl => ?_)
  refine lv_aload_n hx hb dL_law_727 rfl (lv_at hl 3 rfl) ?_
  refine law_arg C hG i (j := 1) (jn := 1) (by omega) rfl (lv_at hl 5 rfl) (lv_at hl 1 rfl) dL_law_728 dL_law_729 dL_law_731 dL_law_732 dL_law_733 ?_
  rw [e0]
  refine g_callV (b := 169) (As := [.int (iZ a0)]) (rest := []) ⟨hx, hb, hml, hown, hts⟩ (c_X6_withdraw l G M1 hdm (M 172) (hmd 172 (by decide) (by decide)) hPk.1 n hn (by rw [hmd 169 (by decide) (by decide)]; exact hm8) a0 r0) (cwV 1 hts gL_law_X6_withdraw rfl rfl rfl (by decide +kernel) ⟨Nat.le_of_ble_eq_true rfl, Nat.le_of_ble_eq_true rfl⟩) hG (g_recv hG (b := 169) (hdm 169 (by decide)) rfl rfl) rfl hl.1 rfl (Nat.le_of_ble_eq_true rfl) dL_law_734 hf (fun z2 M2 H locs hp2 hG => ?_)
  exact law_tail C hf ⟨Nat.le_of_ble_eq_true rfl, Nat.le_of_ble_eq_true rfl⟩ hG hl hz (lw_a hJ hp1 hp2 (fun _ => pk_gon hPk)) dL_law_737 dL_law_739 dL_law_740 dL_law_743 dL_law_745 dL_law_750 dL_law_752 dL_law_755 dL_law_756 dL_law_757 dL_law_758 dL_law_760 dL_law_761 dL_law_762 dL_law_767 (by decide) K
set_option maxHeartbeats 4000000 in
set_option maxRecDepth 100000 in
theorem law_k12 {p : Program} {l : Launch} {e : Env} {s : State} {m : MethodId} {below : List Frame} {meth : Method} {c : Code} {H : Heap} {locs : List Loc} {cells slots : Nat} {Q : State → Prop} {ls : Array Slot} {G : gG} {M : Nat → Nat → Int} {b L : Nat} {xs : Nat → Int32} (C : lw_C p l s m meth c G b L xs) {i o n tn : Nat} (hi : i + 4 ≤ L) (hJ : q_J M o n tn) (hG : gH G M s H locs) (hl : lv_has ls 7 (lw_ls b G i)) (hf : cells + 1 ≤ room_1.cells ∧ slots + 6 ≤ room_1.slots) (K : ∀ (M1 : Nat → Nat → Int) (H1 : Heap) (locs1 : List Loc) (ls1 : Array Slot), (∃ o n tn, q_J M1 o n tn) → gH G M1 s H1 locs1 → lv_has ls1 7 (lw_ls b G i) → W p l e room_1 s m #[Value.ref b] below meth c H1 locs1 (cells + 1) (slots + 6) Q (F0 m 1680 ls1 [])) : W p l e room_1 s m #[Value.ref b] below meth c H locs cells slots Q (F0 m 770 ls []) := by
  obtain ⟨hx, hb, hr, hml, hown, hts0, hX, hbl, hlocks, hgv⟩ := id C.1
  have hts := lw_hts C.1
  obtain ⟨-, hl0, hdm, hXt, hbA, hL⟩ := id C
  obtain ⟨⟨ho, hn, htn⟩, ⟨hR, hPk⟩, ⟨hm1, hm2, hm8⟩, hdi, hke, ⟨ht1, ht2, htx, hch⟩, hbo⟩ := id hJ
  have hl : lv_has ls 7 [(4, .int (iZ (i : Int))), (3, .ref (gad G 178)), (2, .ref (gad G 169)), (1, .ref (gad G 152)), (0, .ref b)] := hl
  obtain ⟨a0, e0, r0⟩ : ∃ z : Int, lw_lv xs (i + 1) = lZ z ∧ (-9223372036854775808 ≤ z ∧ z < 9223372036854775808) := ⟨_, (lZ_of _).symm, lw_r64 _⟩
  obtain ⟨a1, e1, r1⟩ : ∃ z : Int, xs (i + 3) = iZ z ∧ (-2147483648 ≤ z ∧ z < 2147483648) := ⟨_, (iZ_of _).symm, lw_r32 _⟩
  refine lv_aload_n hx hb dL_law_770 rfl (lv_at hl 3 rfl) ?_
  refine law_long C hG i (j := 1) (jn := 1) (jm := 2) (by omega) rfl rfl (lv_at hl 4 rfl) (lv_at hl 0 rfl) dL_law_771 dL_law_772 dL_law_774 dL_law_775 dL_law_776 dL_law_777 dL_law_778 dL_law_780 dL_law_781 dL_law_782 dL_law_784 dL_law_785 dL_law_786 dL_law_787 dL_law_788 dL_law_791 dL_law_792 ?_
  rw [e0]
  refine law_arg C hG i (j := 3) (jn := 3) (by omega) rfl (lv_at hl 4 rfl) (lv_at hl 0 rfl) dL_law_793 dL_law_794 dL_law_796 dL_law_797 dL_law_798 ?_
  rw [e1]
  refine lv_aload_n hx hb dL_law_799 rfl (lv_at hl 1 rfl) ?_
  refine g_callW (As := [.ref (gad G 152), .long (lZ a0), .int (iZ a1), .ref (gad G 178)]) (rest := []) ⟨hx, hb, hml, hown, hts⟩ (c_L_run l G M hl0 hdm (M 172) hR hPk.1 o n ho hn hm1 hm2 a0 r0 a1 r1) (vx_cwSW 4 hts gL_law_L_run rfl rfl rfl (by decide +kernel) ⟨Nat.le_of_ble_eq_true rfl, Nat.le_of_ble_eq_true rfl⟩) hXt hG rfl hl.1 rfl (Nat.le_of_ble_eq_true rfl) dL_law_800 hf (fun z1 M1 H locs hp1 hG => ?_)
  have hmd : q_mid M M1 := q_mid.of md_act hp1.2
  have hz : 0 ≤ z1 ∧ z1 ≤ 3 := by rw [hp1.1]; (repeat' split) <;> decide
  refine lv_istore (lv' := [(5, .int (iZ z1)), (4, .int (iZ (i : Int))), (3, .ref (gad G 178)), (2, .ref (gad G 169)), (1, .ref (gad G 152)), (0, .ref b)]) hx hb dL_law_803 hl (by decide) rfl (fun ls hl => ?_)
  refine lv_aload_n hx hb dL_law_805 rfl (lv_at hl 3 rfl) ?_
  refine law_long C hG i (j := 1) (jn := 1) (jm := 2) (by omega) rfl rfl (lv_at hl 5 rfl) (lv_at hl 1 rfl) dL_law_806 dL_law_807 dL_law_809 dL_law_810 dL_law_811 dL_law_812 dL_law_813 dL_law_815 dL_law_816 dL_law_817 dL_law_819 dL_law_820 dL_law_821 dL_law_822 dL_law_823 dL_law_826 dL_law_827 ?_
  rw [e0]
  refine law_arg C hG i (j := 3) (jn := 3) (by omega) rfl (lv_at hl 5 rfl) (lv_at hl 1 rfl) dL_law_828 dL_law_829 dL_law_831 dL_law_832 dL_law_833 ?_
  rw [e1]
  refine g_callV (b := 169) (As := [.long (lZ a0), .int (iZ a1)]) (rest := []) ⟨hx, hb, hml, hown, hts⟩ (c_X6_run l G M1 hdm (M 172) (hmd 172 (by decide) (by decide)) hPk.1 n hn (by rw [hmd 169 (by decide) (by decide)]; exact hm8) a0 r0 a1 r1) (cwV 2 hts gL_law_X6_run rfl rfl rfl (by decide +kernel) ⟨Nat.le_of_ble_eq_true rfl, Nat.le_of_ble_eq_true rfl⟩) hG (g_recv hG (b := 169) (hdm 169 (by decide)) rfl rfl) rfl hl.1 rfl (Nat.le_of_ble_eq_true rfl) dL_law_834 hf (fun z2 M2 H locs hp2 hG => ?_)
  exact law_tail C hf ⟨Nat.le_of_ble_eq_true rfl, Nat.le_of_ble_eq_true rfl⟩ hG hl hz (lw_a hJ hp1 hp2 (pk_run hPk)) dL_law_837 dL_law_839 dL_law_840 dL_law_843 dL_law_845 dL_law_850 dL_law_852 dL_law_855 dL_law_856 dL_law_857 dL_law_858 dL_law_860 dL_law_861 dL_law_862 dL_law_867 (by decide) K
set_option maxHeartbeats 4000000 in
set_option maxRecDepth 100000 in
theorem law_k13 {p : Program} {l : Launch} {e : Env} {s : State} {m : MethodId} {below : List Frame} {meth : Method} {c : Code} {H : Heap} {locs : List Loc} {cells slots : Nat} {Q : State → Prop} {ls : Array Slot} {G : gG} {M : Nat → Nat → Int} {b L : Nat} {xs : Nat → Int32} (C : lw_C p l s m meth c G b L xs) {i o n tn : Nat} (hi : i + 4 ≤ L) (hJ : q_J M o n tn) (hG : gH G M s H locs) (hl : lv_has ls 7 (lw_ls b G i)) (hf : cells + 1 ≤ room_1.cells ∧ slots + 6 ≤ room_1.slots) (K : ∀ (M1 : Nat → Nat → Int) (H1 : Heap) (locs1 : List Loc) (ls1 : Array Slot), (∃ o n tn, q_J M1 o n tn) → gH G M1 s H1 locs1 → lv_has ls1 7 (lw_ls b G i) → W p l e room_1 s m #[Value.ref b] below meth c H1 locs1 (cells + 1) (slots + 6) Q (F0 m 1680 ls1 [])) : W p l e room_1 s m #[Value.ref b] below meth c H locs cells slots Q (F0 m 870 ls []) := by
  obtain ⟨hx, hb, hr, hml, hown, hts0, hX, hbl, hlocks, hgv⟩ := id C.1
  have hts := lw_hts C.1
  obtain ⟨-, hl0, hdm, hXt, hbA, hL⟩ := id C
  obtain ⟨⟨ho, hn, htn⟩, ⟨hR, hPk⟩, ⟨hm1, hm2, hm8⟩, hdi, hke, ⟨ht1, ht2, htx, hch⟩, hbo⟩ := id hJ
  have hl : lv_has ls 7 [(4, .int (iZ (i : Int))), (3, .ref (gad G 178)), (2, .ref (gad G 169)), (1, .ref (gad G 152)), (0, .ref b)] := hl
  obtain ⟨a0, e0, r0⟩ : ∃ z : Int, xs (i + 1) = iZ z ∧ (-2147483648 ≤ z ∧ z < 2147483648) := ⟨_, (iZ_of _).symm, lw_r32 _⟩
  obtain ⟨a1, e1, r1⟩ : ∃ z : Int, xs (i + 2) = iZ z ∧ (-2147483648 ≤ z ∧ z < 2147483648) := ⟨_, (iZ_of _).symm, lw_r32 _⟩
  refine lv_aload_n hx hb dL_law_870 rfl (lv_at hl 3 rfl) ?_
  refine law_arg C hG i (j := 1) (jn := 1) (by omega) rfl (lv_at hl 4 rfl) (lv_at hl 0 rfl) dL_law_871 dL_law_872 dL_law_874 dL_law_875 dL_law_876 ?_
  rw [e0]
  refine law_arg C hG i (j := 2) (jn := 2) (by omega) rfl (lv_at hl 4 rfl) (lv_at hl 0 rfl) dL_law_877 dL_law_878 dL_law_880 dL_law_881 dL_law_882 ?_
  rw [e1]
  refine lv_aload_n hx hb dL_law_883 rfl (lv_at hl 1 rfl) ?_
  refine g_callW (As := [.ref (gad G 152), .int (iZ a0), .int (iZ a1), .ref (gad G 178)]) (rest := []) ⟨hx, hb, hml, hown, hts⟩ (c_L_interfere l G M hl0 hdm (M 172) hR hPk.1 o n ho hn hm1 hm2 a0 r0 a1 r1) (vx_cwSW 4 hts gL_law_L_interfere rfl rfl rfl (by decide +kernel) ⟨Nat.le_of_ble_eq_true rfl, Nat.le_of_ble_eq_true rfl⟩) hXt hG rfl hl.1 rfl (Nat.le_of_ble_eq_true rfl) dL_law_884 hf (fun z1 M1 H locs hp1 hG => ?_)
  have hmd : q_mid M M1 := q_mid.of md_act hp1.2
  have hz : 0 ≤ z1 ∧ z1 ≤ 3 := by rw [hp1.1]; (repeat' split) <;> decide
  refine lv_istore (lv' := [(5, .int (iZ z1)), (4, .int (iZ (i : Int))), (3, .ref (gad G 178)), (2, .ref (gad G 169)), (1, .ref (gad G 152)), (0, .ref b)]) hx hb dL_law_887 hl (by decide) rfl (fun ls hl => ?_)
  refine lv_aload_n hx hb dL_law_889 rfl (lv_at hl 3 rfl) ?_
  refine law_arg C hG i (j := 1) (jn := 1) (by omega) rfl (lv_at hl 5 rfl) (lv_at hl 1 rfl) dL_law_890 dL_law_891 dL_law_893 dL_law_894 dL_law_895 ?_
  rw [e0]
  refine law_arg C hG i (j := 2) (jn := 2) (by omega) rfl (lv_at hl 5 rfl) (lv_at hl 1 rfl) dL_law_896 dL_law_897 dL_law_899 dL_law_900 dL_law_901 ?_
  rw [e1]
  refine g_callV (b := 169) (As := [.int (iZ a0), .int (iZ a1)]) (rest := []) ⟨hx, hb, hml, hown, hts⟩ (c_X6_interfere l G M1 hdm (M 172) (hmd 172 (by decide) (by decide)) hPk.1 n hn (by rw [hmd 169 (by decide) (by decide)]; exact hm8) a0 r0 a1 r1) (cwV 2 hts gL_law_X6_interfere rfl rfl rfl (by decide +kernel) ⟨Nat.le_of_ble_eq_true rfl, Nat.le_of_ble_eq_true rfl⟩) hG (g_recv hG (b := 169) (hdm 169 (by decide)) rfl rfl) rfl hl.1 rfl (Nat.le_of_ble_eq_true rfl) dL_law_902 hf (fun z2 M2 H locs hp2 hG => ?_)
  exact law_tail C hf ⟨Nat.le_of_ble_eq_true rfl, Nat.le_of_ble_eq_true rfl⟩ hG hl hz (lw_a hJ hp1 hp2 (pk_brk hPk)) dL_law_905 dL_law_907 dL_law_908 dL_law_911 dL_law_913 dL_law_918 dL_law_920 dL_law_923 dL_law_924 dL_law_925 dL_law_926 dL_law_928 dL_law_929 dL_law_930 dL_law_935 (by decide) K
