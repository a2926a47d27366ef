set_option maxHeartbeats 4000000 in
set_option maxRecDepth 100000 in
/-- from the entry, for every script of at most 260 ints, the law comes to its end with true -/
theorem whole_start {p : Program} {e : Env} {s : State} {m : MethodId} {below : List Frame} {meth : Method} {c : Code} (l : Launch) (hflags : l.flags = flags0) {b L : Nat} {xs : Nat → Int32} (hL : L ≤ 260) (C0 : lw_At p s m meth c b L xs) : W p l e room_1 s m #[Value.ref b] below meth c s.heap [] 0 0 (lw_Z below #[Value.ref b] s) (entryFrame m ([Value.ref b] : List Value).toArray 10) := by
  have hl0 : l.stackTraces = false := by unfold Launch.stackTraces; rw [hflags]; decide
  have hxs := lw_xs C0
  obtain ⟨B, hB, hI, hXz⟩ := lw_world C0
  obtain ⟨hx, hb, hr, hml, hown, hts, hX, hbl, hlocks, hgv⟩ := id C0
  have hown : s.vm.findClass RL = some m.cls := hown
  have hb0 : B.2.2.1.1 = s.heap.size := by rw [hB]
  have hb1 : B.2.2.1.2 = 0 := by rw [hB]
  have hz0 : s.heap.size = wa B 0 := by unfold wa; omega
  have hl := lv_entry ([.ref b]) (n := 10) (Nat.le_of_ble_eq_true rfl)
  rw [lg_entry_eq]
  generalize (lg_sl ([.ref b]) ++ List.replicate (10 - (lg_sl ([.ref b])).length) Slot.unset).toArray = ls at hl ⊢
  have hl : lv_has ls 10 [(0, .ref b)] := hl
  have hS : va_S (gA (g2 B)) s.heap s.heap [] := va_S.rf
  refine w_mk0 (B := B) (C := RX5) (T := TX5) (N := 8) (fs := [.null, .null, .null, .null, .null, .null, .null, .null]) (z := 0) (cnt := 169) (mc := 168) (ms := 3076) hx hb hts (fun w h => (in_wsX50 w h).1) tyX5 tyX5_ok hown (hts (.classLink RL 8 RX5) (by decide +kernel)) (hts (.instantiable RX5 8) (by decide +kernel)) (hts (.initialized RX5) (by decide +kernel)) rfl (fun j hj => by rcases (show j = 0 ∨ j = 1 ∨ j = 2 ∨ j = 3 ∨ j = 4 ∨ j = 5 ∨ j = 6 ∨ j = 7 by omega) with rfl | rfl | rfl | rfl | rfl | rfl | rfl | rfl <;> rfl) hI hS (fun q hq => by have h8 : wa B 0 ≤ q := hq; unfold wa at h8; show B.2.2.1.1 ≤ q; omega) (fun q hq => hq) hz0 (Nat.le_of_ble_eq_true rfl) (Nat.le_of_ble_eq_true rfl) dL_law_0 dL_law_3 (fun H1 hp => va_runI (As := []) ⟨hx, hb, hml, hown, hts⟩ (c_X5_init l B) (cwI 0 hts in_wsX5_init rfl rfl rfl (hts (.initialized RX5) (by decide +kernel)) (hts (.methodLink RL 222 yX5_init) (by decide +kernel)) (hts (.instanceMethod yX5_init) (by decide +kernel)) rfl (by decide +kernel) ⟨Nat.le_of_ble_eq_true rfl, Nat.le_of_ble_eq_true rfl⟩) hp rfl rfl hl.1 rfl (lv_room (Nat.le_of_ble_eq_true rfl)) dL_law_4 ⟨Nat.le_of_ble_eq_true rfl, Nat.le_of_ble_eq_true rfl⟩) (fun H locs n1 z1 o1 hS => ?_)
  refine lv_astore_n (lv' := [(1, .ref (wa B 0)), (0, .ref b)]) hx hb dL_law_7 rfl hl (by decide) rfl (fun ls hl => ?_)
  refine w_mk0 (B := w2 B) (C := RX5) (T := TX5) (N := 8) (fs := [.null, .null, .null, .null, .null, .null, .null, .null]) (z := 0) (cnt := 169) (mc := 168) (ms := 3076) hx hb hts (fun w h => (in_wsX50 w h).1) tyX5 tyX5_ok hown (hts (.classLink RL 8 RX5) (by decide +kernel)) (hts (.instantiable RX5 8) (by decide +kernel)) (hts (.initialized RX5) (by decide +kernel)) rfl (fun j hj => by rcases (show j = 0 ∨ j = 1 ∨ j = 2 ∨ j = 3 ∨ j = 4 ∨ j = 5 ∨ j = 6 ∨ j = 7 by omega) with rfl | rfl | rfl | rfl | rfl | rfl | rfl | rfl <;> rfl) (w2_I hI) hS (fun q hq => by have h8 : wa (w2 B) 0 ≤ q := hq; rw [w2_a] at h8; unfold wa at h8; show B.2.2.1.1 ≤ q; omega) (fun q hq => hq) (z1.trans (w2_a B 0).symm) (Nat.le_of_ble_eq_true rfl) (Nat.le_of_ble_eq_true rfl) dL_law_8 dL_law_11 (fun H1 hp => va_runI (As := []) ⟨hx, hb, hml, hown, hts⟩ (c_X5_init l (w2 B)) (cwI 0 hts in_wsX5_init rfl rfl rfl (hts (.initialized RX5) (by decide +kernel)) (hts (.methodLink RL 222 yX5_init) (by decide +kernel)) (hts (.instanceMethod yX5_init) (by decide +kernel)) rfl (by decide +kernel) ⟨Nat.le_of_ble_eq_true rfl, Nat.le_of_ble_eq_true rfl⟩) hp rfl rfl hl.1 rfl (lv_room (Nat.le_of_ble_eq_true rfl)) dL_law_12 ⟨Nat.le_of_ble_eq_true rfl, Nat.le_of_ble_eq_true rfl⟩) (fun H locs n2 z2 o2 hS => ?_)
  have n3 : wN B qMI 0 169 H := n1.kept (fun x _ h8 => o2 _ (by rw [w2_a]; exact wa_lt (by omega)))
  refine lv_astore_n (lv' := [(2, .ref (wa (w2 B) 0)), (1, .ref (wa B 0)), (0, .ref b)]) hx hb dL_law_15 rfl hl (by decide) rfl (fun ls hl => ?_)
  have e2 : wa (w2 B) 0 = gad (gSw (g2 B)) 152 := by
    rw [w2_a, gSw_gad, q_s_lo (k := 152) (by decide), g2_gadH B (k := 152) (by decide)]
    rfl
  have hl : lv_has ls 10 [(2, .ref (gad (gSw (g2 B)) 152)), (1, .ref (gad (g2 B) 152)), (0, .ref b)] := by
    rw [← e2]; exact hl
  have e3 : gA (g2 B) = gA (wg B (fun k => k < 179) s.heap.size) := funext fun q => by
    show (B.2.2.1.1 ≤ q) = (s.heap.size ≤ q)
    rw [hb0]
  have hXz2 : gXz (g2 B) s s.heap := by unfold gXz; rw [e3]; exact hXz
  have hG : gK2 (g2 B) (kT (qMI 168) 0) (kT (qMI 168) 0) s H locs := ⟨q_M2, ⟨g2_cells n3 n2, g2_fix hI, hS⟩, ⟨hXz2, hxs⟩, new_T _ (fun a ha => if_pos (show a < 256 by omega)), new_T _ (fun a ha => by
    show q_M2 (q_s a) = qMI a
    rw [q_s_lo (by omega)]
    show (if a + 256 < 256 then qMI (a + 256) else qMI (a + 256 - 256)) = qMI a
    rw [if_neg (by omega), Nat.add_sub_cancel])⟩
  refine W.widen (k := 1100) (n := 6 * 1100) (by decide) (by decide) ?_
  exact law_run (G := g2 B) C0 hl0 (fun k hk => (show k < 169 ∨ (256 ≤ k ∧ k < 425) from Or.inl hk)) (fun k hk => by
    show q_s k < 169 ∨ (256 ≤ q_s k ∧ q_s k < 425)
    rw [q_s_lo (by omega)]; omega) hb0 hL hG hl
