/-! TWO OBJECTS: what one's calls leave of the other -/
def gLoc (K : gP) : Prop := ∀ M M' : Nat → Nat → Int, (∀ a, a < 169 → M' a = M a) → K M → K M'
theorem loc_S (σ : gS) : gLoc (kS σ) := fun _ _ h k => q_K.keep k h
theorem loc_T (X : Nat → Int) (n : Nat) : gLoc (kT X n) := fun M M' h k => by
  obtain ⟨a, b, c, d, e, f⟩ := k
  exact ⟨by rw [h 168 (by decide)]; exact a, b, by rw [h 167 (by decide)]; exact c, d, by rw [h 12 (by decide)]; exact e, by rw [h 165 (by decide)]; exact f⟩
def gK2 (G : gG) (K1 K2 : gP) (s : State) (H : Heap) (locs : List Loc) : Prop := ∃ M, gH G M s H locs ∧ gXt G s ∧ K1 M ∧ K2 (fun k => M (q_s k))
theorem gK2.o {G : gG} {M : Nat → Nat → Int} {K1 K2 : gP} {s : State} {H : Heap} {locs : List Loc} (hl : gLoc K2) (k2 : K2 (fun k => M (q_s k))) (h : gKH G M K1 s H locs) : gK2 G K1 K2 s H locs := by
  obtain ⟨M1, h1, h2, h3, h4⟩ := h
  refine ⟨M1, h1, h2, h3, hl _ _ (fun a ha => ?_) k2⟩
  show M1 (q_s a) = M (q_s a)
  rw [q_s_lo (by omega)]
  exact h4 _ (by omega)
theorem gH.sw {G : gG} {M : Nat → Nat → Int} {s : State} {H : Heap} {locs : List Loc} (h : gH G M s H locs) : gH (gSw G) (fun k => M (q_s k)) s H locs := ⟨h.1.sw, h.2.1.sw, h.2.2⟩
theorem gH.ws {G : gG} {M : Nat → Nat → Int} {s : State} {H : Heap} {locs : List Loc} (h : gH (gSw G) M s H locs) : gH G (fun k => M (q_s k)) s H locs := by
  have h1 := h.sw
  rw [gSw_gSw] at h1
  exact h1
theorem gK2.toP {G : gG} {M : Nat → Nat → Int} {K2 : gP} {s : State} {H : Heap} {locs : List Loc} (h1 : gH G M s H locs) (h2 : gXt G s) (k2 : K2 (fun k => M (q_s k))) : gKH (gSw G) (fun k => M (q_s k)) K2 s H locs := ⟨_, h1.sw, h2, k2, q_bd.rf _⟩
theorem gK2.p {G : gG} {M : Nat → Nat → Int} {K1 K2 : gP} {s : State} {H : Heap} {locs : List Loc} (hl : gLoc K1) (k1 : K1 M) (h : gKH (gSw G) (fun k => M (q_s k)) K2 s H locs) : gK2 G K1 K2 s H locs := by
  obtain ⟨M1, h1, h2, h3, h4⟩ := h
  refine ⟨fun k => M1 (q_s k), h1.ws, h2, hl _ _ (fun a ha => ?_) k1, ?_⟩
  · show M1 (q_s a) = M a
    rw [q_s_lo (by omega), h4 _ (by omega)]
    show M (q_s (a + 256)) = M a
    rw [q_s_hi (by omega)]
  · have e : (fun k => M1 (q_s (q_s k))) = M1 := funext fun k => by rw [q_s_s]
    show K2 (fun k => M1 (q_s (q_s k)))
    rw [e]; exact h3
/-! an int of the script, or one made of its place: never less than 0 -/
theorem iZ_mask (v : Int32) : ∃ u : Int, v &&& iZ 2147483647 = iZ u ∧ 0 ≤ u ∧ u < 2147483648 := by
  refine ⟨(v &&& iZ 2147483647).toInt, (iZ_of _).symm, ?_, ?_⟩
  · have h : (v &&& iZ 2147483647).toBitVec.msb = false := by
      rw [Int32.toBitVec_and, BitVec.msb_and, show (iZ 2147483647).toBitVec.msb = false by decide, Bool.and_false]
    rw [← Int32.toInt_toBitVec, BitVec.toInt_eq_msb_cond, h]
    simp
  · have := Int32.toInt_lt (v &&& iZ 2147483647); omega
set_option maxHeartbeats 4000000 in
set_option maxRecDepth 100000 in
theorem c_L_cell (l : Launch) (b L : Nat) (xs : Nat → Int32) (hL : L ≤ 260) (k : Int) (hk : 0 ≤ k ∧ k < 1000) : Met l yL_cell wA_cell ({ frames := 0, cells := 0, slots := 0, locals := 0 } : Room) (va_Pc [.ref b, .int (iZ k)] (fun U => va_X b L xs U U.heap ∧ b < U.heap.size)) (va_Qi (fun r (u : Int) => r = iZ u ∧ 0 ≤ u ∧ u < 2147483648) (fun _ _ => True) (fun _ => False)) 0 0 (fun _ => False) := by
  refine Met.ofW (cc := cL_cell) (maxL := 2) (ret := some .int) (by decide) rfl ?_
  intro p e s m args below meth c s₁ B hml hv
  obtain ⟨rfl, hX, hbl⟩ := hv
  have hx := B.exec
  have hb := B.bytes
  have hr := B.returns
  have hlocks := B.notSynchronized
  have hown : s.vm.findClass RL = some m.cls := findClass_of_methodNamed B.named
  have hts := atoms_spec (ws := wA_cell) B.pre
  have hl := lv_entry ([.ref b, .int (iZ k)]) (n := 2) (Nat.le_of_ble_eq_true rfl)
  rw [lg_entry_eq]
  generalize (lg_sl ([.ref b, .int (iZ k)]) ++ List.replicate (2 - (lg_sl ([.ref b, .int (iZ k)])).length) Slot.unset).toArray = ls at hl ⊢
  have hl : lv_has ls 2 [(0, .ref b), (1, .int (iZ k))] := hl
  have hS : va_S (fun _ => False) s.heap s.heap [] := va_S.rf
  show W p l e ({ frames := 0, cells := 0, slots := 0, locals := 0 } : Room) s m _ below meth c s.heap [] 0 0 _ (F0 m 0 ls [])
  have J : ∀ (v : Int32), W p l e ({ frames := 0, cells := 0, slots := 0, locals := 0 } : Room) s m [Value.ref b, Value.int (iZ k)].toArray below meth c s.heap [] 0 0 (MQ below (va_Qi (fun r (u : Int) => r = iZ u ∧ 0 ≤ u ∧ u < 2147483648) (fun _ _ => True) (fun _ => False)) [Value.ref b, Value.int (iZ k)].toArray s 0 0 (fun _ => False)) (F0 m 22 ls [.int v]) := by
    intro v
    refine lv_ldc (v := iZ (2147483647)) hx hb hown (by rw [show iZ (2147483647) = (2147483647 : Int32) from by decide]; exact hts (.constant RL 152 (2147483647)) (List.mem_cons_of_mem _ (by decide +kernel))) dL_cell_22 ?_
    refine lv_iand hx hb dL_cell_24 ?_
    obtain ⟨u, e9, h1, h2⟩ := iZ_mask v
    rw [e9]
    exact W.iret hx hb hr (fun t ht hW => ⟨⟨iZ u, u, rfl, ⟨rfl, h1, h2⟩, trivial⟩, hS.F ht⟩) hS.2.2 dL_cell_25 hlocks
  refine lv_iload_n hx hb dL_cell_0 rfl (lv_at hl 1 rfl) ?_
  refine lv_aload_n hx hb dL_cell_1 rfl (lv_at hl 0 rfl) ?_
  refine va_slen hx hb hX hbl (fun h => h) hS dL_cell_2 ?_
  rw [show Int32.ofNat L = iZ (L : Int) from (iZ_nat L).symm]
  refine z_icmp_ge (tgt := 12) hx hb (by omega) (by omega) dL_cell_3 (by decide) (fun c_3 => ?_) (fun c_3 => ?_)
  · refine lv_ldc (v := iZ (15518033)) hx hb hown (by rw [show iZ (15518033) = (15518033 : Int32) from by decide]; exact hts (.constant RL 151 (15518033)) (List.mem_cons_of_mem _ (by decide +kernel))) dL_cell_12 ?_
    refine lv_iload_n hx hb dL_cell_14 rfl (lv_at hl 1 rfl) ?_
    refine lv_iconst (v := iZ 3) hx hb dL_cell_15 rfl ?_
    refine lv_iadd hx hb dL_cell_16 ?_
    refine lv_imul hx hb dL_cell_17 ?_
    refine lv_sipush (v := iZ (10253)) hx hb dL_cell_18 (by decide) ?_
    refine lv_iadd hx hb dL_cell_21 ?_
    exact J _
  · refine lv_aload_n hx hb dL_cell_6 rfl (lv_at hl 0 rfl) ?_
    refine lv_iload_n hx hb dL_cell_7 rfl (lv_at hl 1 rfl) ?_
    refine va_sld hx hb hX hbl (fun h => h) hS (iZ_in (n := k.toNat) (by omega) (by omega) (by omega)) dL_cell_8 ?_
    refine lv_goto (tgt := 22) hx hb dL_cell_9 (by decide) ?_
    exact J _
section GCL
variable {p : Program} {l : Launch} {e : Env} {R : Room} {s : State} {m : MethodId} {args : Array Value} {below : List Frame} {meth : Method} {c : Code} {H : Heap} {locs : List Loc} {cells slots : Nat} {Q : State → Prop}
variable {cc : ByteArray} {pc : Nat} {ls : Array Slot} {rest st0 : List Value} {G : gG} {K1 K2 : gP}
theorem g_cell {nL index : Nat} {own : String} {Ts : List Cond} {b L : Nat} {xs : Nat → Int32} (hL : L ≤ 260) (hX : va_X b L xs s s.heap) (hbl : b < s.heap.size) (hbA : ¬ gA G b) (S : CallFix p m c cc nL s args Ts own) (cw : CallB R s args own index yL_cell cL_cell 2 (some .int) wA_cell ({ frames := 0, cells := 0, slots := 0, locals := 0 } : Room) 0 0 2 ∧ (Cond.static yL_cell).before args s = true) {k : Int} (hk : 0 ≤ k ∧ k < 1000) (h : gK2 G K1 K2 s H locs) (hsize : ls.size = nL) (hstack : st0 = .int (iZ k) :: .ref b :: rest) (hroom : (rest.map fun v => v.category).sum ≤ 8) (hdg : decode cc pc = .ok (.invokestatic index, 3)) (hf : cells + 0 ≤ R.cells ∧ slots + 0 ≤ R.slots)
    (kk : ∀ (x : Int) (H1 : Heap) (locs1 : List Loc), (0 ≤ x ∧ x < 2147483648) → gK2 G K1 K2 s H1 locs1 → W p l e R s m args below meth c H1 locs1 cells slots Q (F0 m (pc + 3) ls (.int (iZ x) :: rest))) : W p l e R s m args below meth c H locs cells slots Q (F0 m pc ls st0) := by
  obtain ⟨M, h1, h2, k1, k2⟩ := h
  have hX1 : va_X b L xs s H := hX.kept (h1.2.2.2.1 b hbl hbA)
  have hbl1 : b < H.size := Nat.lt_of_lt_of_le hbl h1.2.2.1
  refine va_calli (A1 := fun _ => False) (A0 := gA G) (va_runS (As := [.ref b, .int (iZ k)]) (rest := rest) S (c_L_cell l b L xs hL k hk) cw ⟨fun a U g mk q => ⟨q.1, q.2⟩, fun U hU hW => ⟨rfl, by rw [hU]; exact hX1.moved hW.alike, by rw [hU]; exact hbl1⟩⟩ rfl rfl hsize hstack (lv_room hroom) hdg hf) h1.2.2 (fun _ _ h => h.elim) (fun _ h => h.elim) (fun r u t H1 locs1 ht hvm hw hB hz hk9 hS => ?_)
  obtain ⟨rfl, hx9⟩ := hw
  exact kk u H1 locs1 hx9 ⟨M, ⟨fun k9 hk8 => by have h9 := h1.1 k9 hk8; exact h9.kept (hk9 _ h9.lt (fun h => h)), h1.2.1, hS⟩, h2, k1, k2⟩
end GCL
/-! the cells of both objects -/
theorem at_cong {A A' : va_G} {c c' : Nat → ClassId} {d d' : Nat → Nat} {e e' : Nat → Prop} {w w' : Nat × Nat} (h1 : A = A') (h2 : c = c') (h : ∀ j, j < 169 → d j = d' j) {f : Nat → Int} {k a : Nat} {H : Heap} (hk : k < 169) (ha : va_at A vwCl (a, gE0 (A, c, d, e, w) f k) H) : va_at A' vwCl (a, gE0 (A', c', d', e', w') f k) H := by
  subst h1; subst h2
  have hg : ∀ j, j < 169 → gad (A, c, d, e, w) j = gad (A, c, d', e', w') j := h
  have hR : ∀ (n : Nat) (g : Nat → Nat), (∀ j, j < n → g j < 169) → va_at A vwCl (a, gR (A, c, d, e, w) n g) H → va_at A vwCl (a, gR (A, c, d', e', w') n g) H := fun n g hgn hat => by
    have hat9 : H[a]? = some (arrV (c 2) n (fun j => va_rf (some (d (g j))))) := hat
    show H[a]? = some (vp_cell _ _)
    rw [vp_cell_q, hat9]
    congr 1
    exact arrV_cong _ _ (fun j hj => by
      show va_rf (some (d (g j))) = va_rf (some (d' (g j)))
      rw [h _ (hgn j hj)])
  by_cases h152 : k < 152
  · unfold gE0 at ha ⊢
    rw [if_pos h152] at ha ⊢
    by_cases h8 : k % 8 = 0
    · rw [if_pos h8] at ha ⊢
      have e9 : oT (A, c, d', e', w') f k = oT (A, c, d, e, w) f k := by
        show [Value.int (iZ (f 0)), .ref (d' (k + 1)), .ref (d' (k + 2)), .ref (d' (k + 3)), .ref (d' (k + 4)), .ref (d' (k + 5)), .ref (d' (k + 6)), .ref (d' (k + 7)), .int (iZ (f 8)), .int (iZ (f 9)), .int (iZ (f 10)), .int (iZ (f 11)), .int (iZ (f 12)), .int (iZ (f 13)), .int (iZ (f 14))] = [Value.int (iZ (f 0)), .ref (d (k + 1)), .ref (d (k + 2)), .ref (d (k + 3)), .ref (d (k + 4)), .ref (d (k + 5)), .ref (d (k + 6)), .ref (d (k + 7)), .int (iZ (f 8)), .int (iZ (f 9)), .int (iZ (f 10)), .int (iZ (f 11)), .int (iZ (f 12)), .int (iZ (f 13)), .int (iZ (f 14))]
        rw [h (k + 1) (by omega), h (k + 2) (by omega), h (k + 3) (by omega), h (k + 4) (by omega), h (k + 5) (by omega), h (k + 6) (by omega), h (k + 7) (by omega)]
      rw [e9]; exact ha
    · rw [if_neg h8] at ha ⊢; exact ha
  · rcases (show k = 152 ∨ k = 153 ∨ k = 154 ∨ k = 155 ∨ k = 156 ∨ k = 157 ∨ k = 158 ∨ k = 159 ∨ k = 160 ∨ k = 161 ∨ k = 162 ∨ k = 163 ∨ k = 164 ∨ k = 165 ∨ k = 166 ∨ k = 167 ∨ k = 168 by omega) with rfl | rfl | rfl | rfl | rfl | rfl | rfl | rfl | rfl | rfl | rfl | rfl | rfl | rfl | rfl | rfl | rfl
    · show va_at A vwCl (a, .inr (5, [.ref (d' 0), .ref (d' 8), .ref (d' 155), .ref (d' 163), .ref (d' 165), .ref (d' 167), .ref (d' 153), .ref (d' 154)])) H
      rw [← h 0 (by decide), ← h 8 (by decide), ← h 155 (by decide), ← h 163 (by decide), ← h 165 (by decide), ← h 167 (by decide), ← h 153 (by decide), ← h 154 (by decide)]
      exact ha
    · exact hR 2 (fun j => 8 * (3 + j)) (fun j hj => by omega) ha
    · exact ha
    · show va_at A vwCl (a, .inr (0, [.ref (d' 156), .ref (d' 157), .int (iZ (f 2)), .ref (d' 158)])) H
      rw [← h 156 (by decide), ← h 157 (by decide), ← h 158 (by decide)]
      exact ha
    · exact ha
    · exact ha
    · exact ha
    · show va_at A vwCl (a, .inr (0, [.ref (d' 160), .ref (d' 161), .int (iZ (f 2)), .ref (d' 162)])) H
      rw [← h 160 (by decide), ← h 161 (by decide), ← h 162 (by decide)]
      exact ha
    · exact ha
    · exact ha
    · exact ha
    · show va_at A vwCl (a, .inr (2, [.ref (d' 16), .ref (d' 159), .ref (d' 164)])) H
      rw [← h 16 (by decide), ← h 159 (by decide), ← h 164 (by decide)]
      exact ha
    · exact ha
    · show va_at A vwCl (a, .inr (1, [.ref (d' 166), .int (iZ (f 1)), .int (iZ (f 2))])) H
      rw [← h 166 (by decide)]
      exact ha
    · exact hR 14 (fun j => 8 * (5 + j)) (fun j hj => by omega) ha
    · show va_at A vwCl (a, .inr (4, [.ref (d' 168), .int (iZ (f 1)), .int (iZ (f 2))])) H
      rw [← h 168 (by decide)]
      exact ha
    · exact ha
/-- the world of two new objects, one behind the other -/
def g2 (B : wB) : gG := (B.1, B.2.1, (fun k => if k < 256 then wa B (q_of k) else wa B (169 + q_of (k - 256))), (fun k => k < 169 ∨ (256 ≤ k ∧ k < 425)), B.2.2.1.1, B.2.2.2)
def w2 (B : wB) : wB := (B.1, B.2.1, (B.2.2.1.1, B.2.2.1.2 + 169), B.2.2.2)
theorem q_of_lo : ∀ k, k < 169 → q_of k < 169 := by decide +kernel
theorem w2_a (B : wB) (o : Nat) : wa (w2 B) o = wa B (169 + o) := by unfold wa w2; dsimp only; omega
theorem w2_I {B : wB} {s : State} (h : wI B s) : wI (w2 B) s := by
  obtain ⟨⟨h1, h2, h3, h4, h5, h6, h7⟩, h8⟩ := h
  exact ⟨⟨h1, fun i j (hi : False) => hi.elim, fun k (hk : False) => hk.elim, h4, h5, h6, h7⟩, h8⟩
theorem g2_gadL (B : wB) {k : Nat} (h : k < 256) : gad (g2 B) k = wa B (q_of k) := if_pos h
theorem g2_gadH (B : wB) {k : Nat} (h : k < 256) : gad (g2 B) (k + 256) = wa B (169 + q_of k) := by
  show (if k + 256 < 256 then wa B (q_of (k + 256)) else wa B (169 + q_of (k + 256 - 256))) = _
  rw [if_neg (by omega), Nat.add_sub_cancel]
theorem g2_fix {B : wB} {s : State} (h : wI B s) : gFix (g2 B) s s.heap := by
  obtain ⟨⟨h1, h2, h3, h4, h5, h6, h7⟩, h8⟩ := h
  refine ⟨h1, fun i j hi hj hij => ?_, fun k hk => ?_, h4, h5, h6, h7⟩
  · have hlo : ∀ k, k < 169 → gad (g2 B) k = wa B (q_of k) ∧ q_of k < 169 := fun k hk => ⟨g2_gadL B (by omega), q_of_lo k hk⟩
    have hhi : ∀ k, (256 ≤ k ∧ k < 425) → gad (g2 B) k = wa B (169 + q_of (k - 256)) ∧ q_of (k - 256) < 169 := fun k hk => ⟨by
      have := g2_gadH B (k := k - 256) (by omega)
      rwa [show k - 256 + 256 = k by omega] at this, q_of_lo _ (by omega)⟩
    rcases hi with hi | hi
    · rcases hj with hj | hj
      · rw [(hlo i hi).1, (hlo j hj).1] at hij
        exact q_of_inj (by omega) (by omega) (by unfold wa at hij; omega)
      · rw [(hlo i hi).1, (hhi j hj).1] at hij
        have := (hlo i hi).2
        unfold wa at hij; omega
    · rcases hj with hj | hj
      · rw [(hhi i hi).1, (hlo j hj).1] at hij
        have := (hlo j hj).2
        unfold wa at hij; omega
      · rw [(hhi i hi).1, (hhi j hj).1] at hij
        have := q_of_inj (i := i - 256) (j := j - 256) (by omega) (by omega) (by unfold wa at hij; omega)
        omega
  · show B.2.2.1.1 ≤ gad (g2 B) k
    show B.2.2.1.1 ≤ (if k < 256 then wa B (q_of k) else wa B (169 + q_of (k - 256)))
    unfold wa
    split <;> omega
def q_M2 : Nat → Nat → Int := fun k => if k < 256 then qMI k else qMI (k - 256)
theorem g2_cells {B : wB} {H : Heap} (n1 : wN B qMI 0 169 H) (n2 : wN (w2 B) qMI 0 169 H) : gCells (g2 B) q_M2 H := by
  intro k hk
  rcases hk with hk | hk
  · have h1 := n1 k (by omega) (Nat.zero_le _) (q_of_lo k hk)
    have e : q_M2 k = qMI k := if_pos (show k < 256 by omega)
    rw [g2_gadL B (by omega), e, gE_lo _ _ (by omega)]
    rw [gE_lo _ _ (by omega)] at h1
    exact at_cong (A := B.1) (A' := B.1) (c := B.2.1) (c' := B.2.1) (d := fun k => wa B (q_of k)) (d' := fun k => if k < 256 then wa B (q_of k) else wa B (169 + q_of (k - 256))) (w := (B.2.2.1.1, B.2.2.2)) (w' := (B.2.2.1.1, B.2.2.2)) rfl rfl (fun j hj => (if_pos (show j < 256 by omega)).symm) hk h1
  · obtain ⟨i, rfl⟩ : ∃ i, k = i + 256 := ⟨k - 256, by omega⟩
    have hi : i < 169 := by omega
    have h1 := n2 i (by omega) (Nat.zero_le _) (q_of_lo i hi)
    have e : q_M2 (i + 256) = qMI i := by show (if i + 256 < 256 then qMI (i + 256) else qMI (i + 256 - 256)) = qMI i; rw [if_neg (by omega), Nat.add_sub_cancel]
    rw [g2_gadH B (by omega), e, ← q_s_lo (k := i) (by omega), ← gE_sw, gE_lo _ _ (by omega), ← w2_a]
    rw [gE_lo _ _ (by omega)] at h1
    exact at_cong (A := B.1) (A' := B.1) (c := B.2.1) (c' := B.2.1) (d := fun k => wa (w2 B) (q_of k)) (d' := fun k => gad (g2 B) (q_s k)) (w := (B.2.2.1.1, B.2.2.2)) (w' := (B.2.2.1.1, B.2.2.2)) rfl rfl (fun j hj => by
      show wa (w2 B) (q_of j) = gad (g2 B) (q_s j)
      rw [q_s_lo (by omega), g2_gadH B (by omega), w2_a]) hi h1
theorem new_T (M : Nat → Nat → Int) (h : ∀ a, a < 169 → M a = qMI a) : kT (qMI 168) 0 M := by
  refine ⟨h 168 (by decide), by decide, by rw [h 167 (by decide)]; rfl, fun j hj => absurd hj (Nat.not_lt_zero _), fun j hj => by rw [h 12 (by decide)]; exact ⟨Int.le_refl 0, show (0 : Int) ≤ 1 by decide⟩, 0, by decide, by rw [h 165 (by decide)]; rfl⟩
