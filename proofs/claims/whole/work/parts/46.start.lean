theorem q_J_new : q_J qMI 0 0 0 := by
  have e : qMI 172 = q_new := by funext j; rfl
  refine ⟨⟨by decide, by decide, by decide⟩, ⟨?_, ?_⟩, ⟨rfl, rfl, rfl⟩, fun k hk => absurd hk (Nat.not_lt_zero _), fun j hj => ⟨rfl, Or.inl rfl, fun h => absurd (show (0 : Int) = 1 from h) (by decide)⟩, ⟨rfl, rfl, rfl, fun j hj => absurd hj (Nat.not_lt_zero _)⟩, fun j hj => ⟨Int.le_refl 0, show (0 : Int) ≤ 1 by decide⟩⟩
  · rw [e]
    refine ⟨rfl, fun i hi => absurd (show (i : Int) < 0 from hi) (by omega), fun k hk => ?_, rfl, rfl, rfl, rfl, rfl, rfl, rfl, fun j hj => ⟨Int.le_refl 0, show (0 : Int) ≤ 1 by decide⟩⟩
    rcases (show k = 0 ∨ k = 1 ∨ k = 2 ∨ k = 3 ∨ k = 4 ∨ k = 5 by omega) with rfl | rfl | rfl | rfl | rfl | rfl <;> rfl
  · rw [e]; exact ⟨q_new_inv, in2_new⟩
set_option maxHeartbeats 4000000 in
set_option maxRecDepth 100000 in
/-- THE LAW'S LOOP: at its head, with t calls done, class and reference show one state -/
theorem law_loop {p : Program} {l : Launch} {e : Env} {s : State} {m : MethodId} {below : List Frame} {meth : Method} {c : Code} {G : gG} {b L : Nat} {xs : Nat → Int32} (C : lw_C p l s m meth c G b L xs) (hn0 : G.2.2.2.2.1 = s.heap.size) :
    ∀ (n t : Nat), 4 * t ≤ L → L < 4 * t + 4 * n → ∀ (M : Nat → Nat → Int) (H : Heap) (locs : List Loc) (ls : Array Slot), (∃ o n tn, q_J M o n tn) → gH G M s H locs → lv_has ls 7 (lw_ls b G (4 * t)) → W p l e room_1 s m #[Value.ref b] below meth c H locs (179 + t) (5956 + 6 * t) (lw_Z below #[Value.ref b] s) (F0 m 23 ls []) := by
  obtain ⟨hx, hb, hr, hml, hown, hts, hX, hbl, hlocks, hgv⟩ := id C.1
  obtain ⟨-, hl0, hdm, hXt, hbA, hL⟩ := id C
  intro n
  induction n with
  | zero => intro t h1 h2; exact absurd h2 (by omega)
  | succ n ih =>
    intro t h1 h2 M H locs ls hJ0 hG hl
    obtain ⟨o, n9, tn, hJ⟩ := hJ0
    have hl : lv_has ls 7 [(4, .int (iZ ((4 * t : Nat) : Int))), (3, .ref (gad G 178)), (2, .ref (gad G 169)), (1, .ref (gad G 152)), (0, .ref b)] := hl
    refine lv_iload hx hb dL_law_23 (lv_at hl 0 rfl) ?_
    refine lv_aload_n hx hb dL_law_25 rfl (lv_at hl 4 rfl) ?_
    refine va_slen hx hb hX hbl hbA hG.2.2 dL_law_26 ?_
    rw [show Int32.ofNat L = iZ (L : Int) from (iZ_nat L).symm]
    refine lv_iconst (v := iZ 4) hx hb dL_law_27 rfl ?_
    refine z_isub (z := (L : Int) - 4) hx hb rfl dL_law_28 ?_
    refine z_icmp_gt (tgt := 1686) hx hb (by omega) (by omega) dL_law_29 (by decide) (fun c_29 => ?_) (fun c_29 => ?_)
    · refine lv_iconst (v := 1) hx hb dL_law_1686 (by decide) ?_
      refine va_forget (fun q hq => by have h9 := hG.2.2.2.2 q hq; have h9 : G.2.2.2.2.1 ≤ q.base := h9; omega) ?_
      refine W.widen (k := 601024) (n := 7293034) (by omega) (by omega) ?_
      exact lw_ret hx hb hr hlocks dL_law_1687
    · have hi : 4 * t + 4 ≤ L := by omega
      have K9 : ∀ (M1 : Nat → Nat → Int) (H1 : Heap) (locs1 : List Loc) (ls1 : Array Slot), (∃ o n tn, q_J M1 o n tn) → gH G M1 s H1 locs1 → lv_has ls1 7 (lw_ls b G (4 * t)) → W p l e room_1 s m #[Value.ref b] below meth c H1 locs1 (179 + t + 1) (5956 + 6 * t + 6) (lw_Z below #[Value.ref b] s) (F0 m 1680 ls1 []) := by
        intro M1 H1 locs1 ls1 hJ1 hG1 hl1
        have hl1 : lv_has ls1 7 [(4, .int (iZ ((4 * t : Nat) : Int))), (3, .ref (gad G 178)), (2, .ref (gad G 169)), (1, .ref (gad G 152)), (0, .ref b)] := hl1
        refine z_iinc (z := ((4 * (t + 1) : Nat) : Int)) (lv' := [(4, .int (iZ ((4 * (t + 1) : Nat) : Int))), (3, .ref (gad G 178)), (2, .ref (gad G 169)), (1, .ref (gad G 152)), (0, .ref b)]) hx hb dL_law_1680 hl1 (k := 0) rfl (by omega) (by decide) rfl (fun ls2 hl2 => ?_)
        refine lv_goto (tgt := 23) hx hb dL_law_1683 (by decide) ?_
        refine W.widen (k := 179 + (t + 1)) (n := 5956 + 6 * (t + 1)) (by omega) (by omega) ?_
        exact ih (t + 1) (by omega) (by omega) M1 H1 locs1 ls2 hJ1 hG1 hl2
      have hf : 179 + t + 1 ≤ room_1.cells ∧ 5956 + 6 * t + 6 ≤ room_1.slots := ⟨by show _ ≤ 601024; omega, by show _ ≤ 7293034; omega⟩
      refine lv_aload_n hx hb dL_law_32 rfl (lv_at hl 4 rfl) ?_
      refine lv_iload hx hb dL_law_33 (lv_at hl 0 rfl) ?_
      refine va_sld hx hb hX hbl hbA hG.2.2 (iZ_in rfl (by omega) (by omega)) dL_law_35 ?_
      refine lv_bipush (v := 31) hx hb dL_law_36 (by decide) ?_
      refine lv_iand hx hb dL_law_38 ?_
      refine lv_topi (fun v ev => ?_)
      by_cases c39 : v.toInt < 0 ∨ 26 < v.toInt
      · refine lv_tableOut (tgt := 1680) hx hb dL_law_39 c39 (by decide) ?_
        refine W.widen (k := 179 + t + 1) (n := 5956 + 6 * t + 6) (by omega) (by omega) ?_
        exact K9 M H locs ls ⟨o, n9, tn, hJ⟩ hG hl
      · obtain ⟨k, hk, hk26⟩ : ∃ k : Nat, v.toInt = (k : Int) ∧ k < 27 := ⟨v.toInt.toNat, by omega, by omega⟩
        rcases (show k = 0 ∨ k = 1 ∨ k = 2 ∨ k = 3 ∨ k = 4 ∨ k = 5 ∨ k = 6 ∨ k = 7 ∨ k = 8 ∨ k = 9 ∨ k = 10 ∨ k = 11 ∨ k = 12 ∨ k = 13 ∨ k = 14 ∨ k = 15 ∨ k = 16 ∨ k = 17 ∨ k = 18 ∨ k = 19 ∨ k = 20 ∨ k = 21 ∨ k = 22 ∨ k = 23 ∨ k = 24 ∨ k = 25 ∨ k = 26 by omega) with rfl | rfl | rfl | rfl | rfl | rfl | rfl | rfl | rfl | rfl | rfl | rfl | rfl | rfl | rfl | rfl | rfl | rfl | rfl | rfl | rfl | rfl | rfl | rfl | rfl | rfl | rfl
        · exact lv_tableIn (off := 121) (tgt := 160) hx hb dL_law_39 (by rw [hk]; decide) (by rw [hk]; decide) (by rw [hk]; rfl) (by decide) (law_k0 C hi hJ hG hl hf K9)
        · exact lv_tableIn (off := 177) (tgt := 216) hx hb dL_law_39 (by rw [hk]; decide) (by rw [hk]; decide) (by rw [hk]; rfl) (by decide) (law_k1 C hi hJ hG hl hf K9)
        · exact lv_tableIn (off := 190) (tgt := 229) hx hb dL_law_39 (by rw [hk]; decide) (by rw [hk]; decide) (by rw [hk]; rfl) (by decide) (law_k2 C hi hJ hG hl hf K9)
        · exact lv_tableIn (off := 203) (tgt := 242) hx hb dL_law_39 (by rw [hk]; decide) (by rw [hk]; decide) (by rw [hk]; rfl) (by decide) (law_k3 C hi hJ hG hl hf K9)
        · exact lv_tableIn (off := 247) (tgt := 286) hx hb dL_law_39 (by rw [hk]; decide) (by rw [hk]; decide) (by rw [hk]; rfl) (by decide) (law_k4 C hi hJ hG hl hf K9)
        · exact lv_tableIn (off := 303) (tgt := 342) hx hb dL_law_39 (by rw [hk]; decide) (by rw [hk]; decide) (by rw [hk]; rfl) (by decide) (law_k5 C hi hJ hG hl hf K9)
        · exact lv_tableIn (off := 371) (tgt := 410) hx hb dL_law_39 (by rw [hk]; decide) (by rw [hk]; decide) (by rw [hk]; rfl) (by decide) (law_k6 C hi hJ hG hl hf K9)
        · exact lv_tableIn (off := 439) (tgt := 478) hx hb dL_law_39 (by rw [hk]; decide) (by rw [hk]; decide) (by rw [hk]; rfl) (by decide) (law_k7 C hi hJ hG hl hf K9)
        · exact lv_tableIn (off := 495) (tgt := 534) hx hb dL_law_39 (by rw [hk]; decide) (by rw [hk]; decide) (by rw [hk]; rfl) (by decide) (law_k8 C hi hJ hG hl hf K9)
        · exact lv_tableIn (off := 551) (tgt := 590) hx hb dL_law_39 (by rw [hk]; decide) (by rw [hk]; decide) (by rw [hk]; rfl) (by decide) (law_k9 C hi hJ hG hl hf K9)
        · exact lv_tableIn (off := 607) (tgt := 646) hx hb dL_law_39 (by rw [hk]; decide) (by rw [hk]; decide) (by rw [hk]; rfl) (by decide) (law_k10 C hi hJ hG hl hf K9)
        · exact lv_tableIn (off := 675) (tgt := 714) hx hb dL_law_39 (by rw [hk]; decide) (by rw [hk]; decide) (by rw [hk]; rfl) (by decide) (law_k11 C hi hJ hG hl hf K9)
        · exact lv_tableIn (off := 731) (tgt := 770) hx hb dL_law_39 (by rw [hk]; decide) (by rw [hk]; decide) (by rw [hk]; rfl) (by decide) (law_k12 C hi hJ hG hl hf K9)
        · exact lv_tableIn (off := 831) (tgt := 870) hx hb dL_law_39 (by rw [hk]; decide) (by rw [hk]; decide) (by rw [hk]; rfl) (by decide) (law_k13 C hi hJ hG hl hf K9)
        · exact lv_tableIn (off := 899) (tgt := 938) hx hb dL_law_39 (by rw [hk]; decide) (by rw [hk]; decide) (by rw [hk]; rfl) (by decide) (law_k14 C hi hJ hG hl hf K9)
        · exact lv_tableIn (off := 955) (tgt := 994) hx hb dL_law_39 (by rw [hk]; decide) (by rw [hk]; decide) (by rw [hk]; rfl) (by decide) (law_k15 C hi hJ hG hl hf K9)
        · exact lv_tableIn (off := 1011) (tgt := 1050) hx hb dL_law_39 (by rw [hk]; decide) (by rw [hk]; decide) (by rw [hk]; rfl) (by decide) (law_k16 C hi hJ hG hl hf K9)
        · exact lv_tableIn (off := 1079) (tgt := 1118) hx hb dL_law_39 (by rw [hk]; decide) (by rw [hk]; decide) (by rw [hk]; rfl) (by decide) (law_k17 C hi hJ hG hl hf K9)
        · exact lv_tableIn (off := 1123) (tgt := 1162) hx hb dL_law_39 (by rw [hk]; decide) (by rw [hk]; decide) (by rw [hk]; rfl) (by decide) (law_k18 C hi hJ hG hl hf K9)
        · exact lv_tableIn (off := 1136) (tgt := 1175) hx hb dL_law_39 (by rw [hk]; decide) (by rw [hk]; decide) (by rw [hk]; rfl) (by decide) (law_k19 C hi hJ hG hl hf K9)
        · exact lv_tableIn (off := 1192) (tgt := 1231) hx hb dL_law_39 (by rw [hk]; decide) (by rw [hk]; decide) (by rw [hk]; rfl) (by decide) (law_k20 C hi hJ hG hl hf K9)
        · exact lv_tableIn (off := 1248) (tgt := 1287) hx hb dL_law_39 (by rw [hk]; decide) (by rw [hk]; decide) (by rw [hk]; rfl) (by decide) (law_k21 C hi hJ hG hl hf K9)
        · exact lv_tableIn (off := 1316) (tgt := 1355) hx hb dL_law_39 (by rw [hk]; decide) (by rw [hk]; decide) (by rw [hk]; rfl) (by decide) (law_k22 C hi hJ hG hl hf K9)
        · exact lv_tableIn (off := 1329) (tgt := 1368) hx hb dL_law_39 (by rw [hk]; decide) (by rw [hk]; decide) (by rw [hk]; rfl) (by decide) (law_k23 C hi hJ hG hl hf K9)
        · exact lv_tableIn (off := 1429) (tgt := 1468) hx hb dL_law_39 (by rw [hk]; decide) (by rw [hk]; decide) (by rw [hk]; rfl) (by decide) (law_k24 C hi hJ hG hl hf K9)
        · exact lv_tableIn (off := 1529) (tgt := 1568) hx hb dL_law_39 (by rw [hk]; decide) (by rw [hk]; decide) (by rw [hk]; rfl) (by decide) (law_k25 C hi hJ hG hl hf K9)
        · exact lv_tableIn (off := 1585) (tgt := 1624) hx hb dL_law_39 (by rw [hk]; decide) (by rw [hk]; decide) (by rw [hk]; rfl) (by decide) (law_k26 C hi hJ hG hl hf K9)
set_option maxHeartbeats 4000000 in
set_option maxRecDepth 100000 in
/-- from the entry, for every script of at most 2048 ints, the law comes to its end with true -/
theorem whole_start {p : Program} {e : Env} {s : State} {m : MethodId} {below : List Frame} {meth : Method} {c : Code} (l : Launch) (hflags : l.flags = flags0) {b L : Nat} {xs : Nat → Int32} (hL : L ≤ 2048) (C0 : lw_At p s m meth c b L xs) : W p l e room_1 s m #[Value.ref b] below meth c s.heap [] 0 0 (lw_Z below #[Value.ref b] s) (entryFrame m ([Value.ref b] : List Value).toArray 7) := by
  have hl0 : l.stackTraces = false := by unfold Launch.stackTraces; rw [hflags]; decide
  have hxs := lw_xs C0
  obtain ⟨B, hB, hI, hXz⟩ := lw_world C0
  obtain ⟨hx, hb, hr, hml, hown, hts0, hX, hbl, hlocks, hgv⟩ := id C0
  have hts := lw_hts C0
  have hown : s.vm.findClass RL = some m.cls := hown
  have hz0 : s.heap.size = wa B 0 := hB.symm
  have hl := lv_entry ([.ref b]) (n := 7) (Nat.le_of_ble_eq_true rfl)
  rw [lg_entry_eq]
  generalize (lg_sl ([.ref b]) ++ List.replicate (7 - (lg_sl ([.ref b])).length) Slot.unset).toArray = ls at hl ⊢
  have hl : lv_has ls 7 [(0, .ref b)] := hl
  have hS : va_S (fun q => wa B 0 ≤ q) s.heap s.heap [] := va_S.rf
  refine w_mk0 (B := B) (C := RX5) (T := TX5) (N := 8) (fs := [.null, .null, .null, .null, .null, .null, .null, .null]) (z := 0) (cnt := 169) (mc := 168) (ms := 3076) hx hb hts inlX5 tyX5 tyX5_ok hown (hts (.classLink RL 8 RX5) (by decide +kernel)) (hts (.instantiable RX5 8) (by decide +kernel)) (hts (.initialized RX5) (by decide +kernel)) rfl (fun j hj => by rcases (show j = 0 ∨ j = 1 ∨ j = 2 ∨ j = 3 ∨ j = 4 ∨ j = 5 ∨ j = 6 ∨ j = 7 by omega) with rfl | rfl | rfl | rfl | rfl | rfl | rfl | rfl <;> rfl) hI hS (fun q hq => Nat.le_trans (wa_le (Nat.zero_le _)) hq) (fun q hq => hq) hz0 (Nat.le_of_ble_eq_true rfl) (Nat.le_of_ble_eq_true rfl) dL_law_0 dL_law_3 (fun H1 hp => va_runI (As := []) ⟨hx, hb, hml, hown, hts⟩ (c_X5_init l B) (cwI 0 hts gL_law_X5_init rfl rfl rfl (hts (.initialized RX5) (by decide +kernel)) (hts (.methodLink RL 89 yX5_init) (by decide +kernel)) (hts (.instanceMethod yX5_init) (by decide +kernel)) rfl (by decide +kernel) ⟨Nat.le_of_ble_eq_true rfl, Nat.le_of_ble_eq_true rfl⟩) hp rfl rfl hl.1 rfl (lv_room (Nat.le_of_ble_eq_true rfl)) dL_law_4 ⟨Nat.le_of_ble_eq_true rfl, Nat.le_of_ble_eq_true rfl⟩) (fun H locs n1 z1 o1 hS => ?_)
  refine lv_astore_n (lv' := [(1, .ref (wa B 0)), (0, .ref b)]) hx hb dL_law_7 rfl hl (by decide) rfl (fun ls hl => ?_)
  refine w_mk0 (B := B) (C := RX6) (T := TX6) (N := 13) (fs := [.int (iZ 0), .null, .int (iZ 0), .int (iZ 0), .null, .null, .null, .null, .int (iZ 0), .null, .null, .null, .int (iZ 0)]) (z := 169) (cnt := 9) (mc := 8) (ms := 2858) hx hb hts inlX6 tyX6 tyX6_ok hown (hts (.classLink RL 90 RX6) (by decide +kernel)) (hts (.instantiable RX6 13) (by decide +kernel)) (hts (.initialized RX6) (by decide +kernel)) rfl (fun j hj => by rcases (show j = 0 ∨ j = 1 ∨ j = 2 ∨ j = 3 ∨ j = 4 ∨ j = 5 ∨ j = 6 ∨ j = 7 ∨ j = 8 ∨ j = 9 ∨ j = 10 ∨ j = 11 ∨ j = 12 by omega) with rfl | rfl | rfl | rfl | rfl | rfl | rfl | rfl | rfl | rfl | rfl | rfl | rfl <;> rfl) hI hS (fun q hq => Nat.le_trans (wa_le (Nat.zero_le _)) hq) (fun q hq => hq) z1 (Nat.le_of_ble_eq_true rfl) (Nat.le_of_ble_eq_true rfl) dL_law_8 dL_law_11 (fun H1 hp => va_runI (As := []) ⟨hx, hb, hml, hown, hts⟩ (c_X6_init l B) (cwI 0 hts gL_law_X6_init rfl rfl rfl (hts (.initialized RX6) (by decide +kernel)) (hts (.methodLink RL 92 yX6_init) (by decide +kernel)) (hts (.instanceMethod yX6_init) (by decide +kernel)) rfl (by decide +kernel) ⟨Nat.le_of_ble_eq_true rfl, Nat.le_of_ble_eq_true rfl⟩) hp rfl rfl hl.1 rfl (lv_room (Nat.le_of_ble_eq_true rfl)) dL_law_12 ⟨Nat.le_of_ble_eq_true rfl, Nat.le_of_ble_eq_true rfl⟩) (fun H locs n2 z2 o2 hS => ?_)
  have n3 := (n1.kept (fun x _ h8 => o2 _ (wa_lt h8))).join n2
  refine lv_astore_n (lv' := [(2, .ref (wa B 169)), (1, .ref (wa B 0)), (0, .ref b)]) hx hb dL_law_15 rfl hl (by decide) rfl (fun ls hl => ?_)
  refine lv_iconst (v := iZ 1) hx hb dL_law_16 rfl ?_
  refine w_newa0 (B := B) (N := 1) (a0 := (1, .inr (.inl (fun j => lZ (qMI 178 j))))) (atype := .long) hx hb (hts (.arrayClass .long) (by decide +kernel)) 3 rfl (fun h => h) hI hS (h := wa B 178) z2 (fun cA => rfl) (by omega) (by decide) (Nat.le_of_ble_eq_true rfl) (Nat.le_of_ble_eq_true rfl) (Nat.le_of_ble_eq_true rfl) dL_law_17 (fun H ra z3 o3 hS => ?_)
  have n4 : wN B qMI 0 179 H := (n3.kept (fun x _ h8 => o3 _ (wa_lt h8))).push (k := 178) (by decide) rfl ra
  refine lv_astore_n (lv' := [(3, .ref (wa B 178)), (2, .ref (wa B 169)), (1, .ref (wa B 0)), (0, .ref b)]) hx hb dL_law_19 rfl hl (by decide) rfl (fun ls hl => ?_)
  refine lv_iconst (v := iZ 0) hx hb dL_law_20 rfl ?_
  refine lv_istore (lv' := [(4, .int (iZ 0)), (3, .ref (wa B 178)), (2, .ref (wa B 169)), (1, .ref (wa B 0)), (0, .ref b)]) hx hb dL_law_21 hl (by decide) rfl (fun ls hl => ?_)
  have hC : lw_C p l s m meth c (wg B (fun k => k < 179) (wa B 0)) b L xs := ⟨C0, hl0, fun k hk => hk, ⟨hXz, hxs⟩, fun h9 => by have h9 : wa B 0 ≤ b := h9; omega, hL⟩
  have hG : gH (wg B (fun k => k < 179) (wa B 0)) qMI s H locs := ⟨fun k hk => n4 k hk (Nat.zero_le _) (q_of_lt k hk), hI.fix (fun k hk => ⟨hk, Nat.zero_le _⟩) (Nat.le_of_eq hz0.symm), hS⟩
  refine W.widen (k := 179 + 0) (n := 5956 + 6 * 0) (by decide) (by decide) ?_
  exact law_loop hC hz0.symm (L + 1) 0 (Nat.zero_le _) (by omega) qMI H locs ls ⟨0, 0, 0, q_J_new⟩ hG hl
