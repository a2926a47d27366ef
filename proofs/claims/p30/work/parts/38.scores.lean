/-! SCORES -/
theorem lv_in {R : Nat → Int} {i p : Nat} (h : q_dogok R i) (hp : p < 6) : -9 ≤ q_lv R i p ∧ q_lv R i p ≤ 30 := by
  have h1 := lo_in h hp
  have h2 := wth_in p
  unfold q_lv; split <;> omega
theorem lv_hs {R : Nat → Int} {i : Nat} (h : q_hs R i = 1) (p : Nat) : q_lv R i p = q_lo R i p := by unfold q_lv; exact if_pos h
theorem sc_lv {R : Nat → Int} {i : Nat} (h : q_hs R i = 1) : q_sc R i = 100 - q_sm (q_lv R i) 6 := by
  have e : q_lv R i = q_lo R i := funext (lv_hs h)
  rw [e]; unfold q_sc; exact if_pos h
/-- the scores of an owner's dogs, added up -/
def q_al (R : Nat → Int) (o : Int) : Nat → Int | 0 => 0 | n + 1 => q_al R o n + (if q_ow R n = o then q_sc R n else 0)
theorem b2_step {R : Nat → Int} (h : q_inv R) (o : Int) {n : Nat} (hn : (n : Int) < q_nd R) : (q_b2 R o (n + 1)).1 = max (q_b2 R o n).1 (if q_ow R n = o then q_sc R n else 0) := by
  have h1 := q_b2_in h o (n := n) (by omega)
  rw [q_b2]
  split
  · rfl
  · omega
theorem al_in {R : Nat → Int} (h : q_inv R) (o : Int) : ∀ {n : Nat}, (n : Int) ≤ q_nd R → (q_b2 R o n).1 + (q_b2 R o n).2 ≤ q_al R o n ∧ 0 ≤ q_al R o n ∧ q_al R o n ≤ 100 * (n : Int)
  | 0, _ => by simp [q_b2, q_al]
  | n + 1, hn => by
    have ih := al_in h o (n := n) (by omega)
    have h1 := q_b2_in h o (n := n) (by omega)
    have h2 := sc_in (h.2.1 n (by omega))
    rw [q_b2, q_al]
    split
    · dsimp only; omega
    · omega
set_option maxHeartbeats 4000000 in
set_option maxRecDepth 100000 in
theorem c_L_scores (l : Launch) (hl0 : l.stackTraces = false) (G : gG) (hdm : ∀ k, k < 169 → gdm G k) (M0 : Nat → Nat → Int) (σ : gS) (hσ : s_ok σ)  : gML l yL_scores wA_scores ({ frames := 10, cells := 400, slots := 2400, locals := 238 } : Room) 400 G M0 (kS σ) [.ref (gad G 152)] (fun z K1 => z = 1 ∧ K1 = kS σ) := by
  refine gML_of (cc := cL_scores) (maxL := 8) (ret := some .boolean) (by decide) rfl (Nat.le_of_ble_eq_true rfl) ?_
  intro p e s m below meth c ls hx hb hr hml hown hts hlocks hl hG
  have hown : s.vm.findClass RL = some m.cls := hown
  have hl : lv_has ls 8 [(0, .ref (gad G 152))] := hl
  have hnd : 1 ≤ q_nd σ.1 ∧ q_nd σ.1 ≤ 12 := ⟨hσ.1.2.2, hσ.1.1.1.2⟩
  refine lv_iconst (v := iZ 1) hx hb dL_scores_0 rfl ?_
  refine lv_istore_n (lv' := [(1, .int (iZ 1)), (0, .ref (gad G 152))]) hx hb dL_scores_1 rfl hl (by decide) rfl (fun ls hl => ?_)
  refine lv_aload_n hx hb dL_scores_2 rfl (lv_at hl 1 rfl) ?_
  refine lv_iconst (v := iZ 0) hx hb dL_scores_3 rfl ?_
  refine g_cL (As := [.ref (gad G 152), .int (iZ 0)]) (rest := []) (1) ⟨hx, hb, hml, hown, hts⟩ (c_L_about l hl0 G hdm M0 σ hσ 0 (by omega)) (va_cwS 2 hts gA_scores_L_about rfl rfl rfl (by decide +kernel) ⟨Nat.le_of_ble_eq_true rfl, Nat.le_of_ble_eq_true rfl⟩) hG rfl hl.1 rfl (Nat.le_of_ble_eq_true rfl) dL_scores_4 ⟨by omega, by omega⟩ ⟨Nat.le_of_ble_eq_true rfl, Nat.le_of_ble_eq_true rfl⟩ (fun z1 K2 H locs hp_4 hG => ?_)
  obtain ⟨hz_4, hK_4⟩ := hp_4
  replace hz_4 := hz_4.trans (a_about_0 σ)
  replace hz_4 := hz_4.symm; subst hz_4; replace hK_4 := hK_4.symm; subst hK_4
  refine lv_istore_n (lv' := [(2, .int (iZ (q_nd σ.1))), (1, .int (iZ 1)), (0, .ref (gad G 152))]) hx hb dL_scores_7 rfl hl (by decide) rfl (fun ls hl => ?_)
  refine lv_iconst (v := iZ 0) hx hb dL_scores_8 rfl ?_
  refine lv_istore_n (lv' := [(3, .int (iZ 0)), (2, .int (iZ (q_nd σ.1))), (1, .int (iZ 1)), (0, .ref (gad G 152))]) hx hb dL_scores_9 rfl hl (by decide) rfl (fun ls hl => ?_)
  have L_10 : ∀ (n_10 : Nat) (i : Nat) (x_3 : Int), (x_3 = (i : Int)) → ((i : Int) ≤ q_nd σ.1) → (q_nd σ.1).toNat - i < n_10 → ∀ (H : Heap) (locs : List Loc) (ls : Array Slot), gKH G M0 (kS σ) s H locs → lv_has ls 8 [(3, .int (iZ x_3)), (2, .int (iZ (q_nd σ.1))), (1, .int (iZ 1)), (0, .ref (gad G 152))] → W p l e ({ frames := 10, cells := 400, slots := 2400, locals := 238 } : Room) s m [.ref (gad G 152)].toArray below meth c H locs (1 + 20 * i) (6 * (1 + 20 * i)) (gLQ below G M0 (fun z K1 => z = 1 ∧ K1 = kS σ) [.ref (gad G 152)] s 400) (F0 m 10 ls []) := by
    intro n_10
    induction n_10 with
    | zero => intro i x_3 he_3 hi hm_10; exact absurd hm_10 (Nat.not_lt_zero _)
    | succ n_10 ih_10 =>
      intro i x_3 he_3 hi hm_10 H locs ls hG hl
      subst he_3
      refine lv_iload_n hx hb dL_scores_10 rfl (lv_at hl 0 rfl) ?_
      refine lv_iload_n hx hb dL_scores_11 rfl (lv_at hl 1 rfl) ?_
      refine z_icmp_ge (tgt := 228) hx hb (by omega) (by omega) dL_scores_12 (by decide) (fun c_12 => ?_) (fun c_12 => ?_)
      · skip
        refine lv_iconst (v := iZ 0) hx hb dL_scores_228 rfl ?_
        refine lv_istore_n (lv' := [(3, .int (iZ 0)), (2, .int (iZ (q_nd σ.1))), (1, .int (iZ 1)), (0, .ref (gad G 152))]) hx hb dL_scores_229 rfl hl (by decide) rfl (fun ls hl => ?_)
        have L_230 : ∀ (n_230 : Nat) (h : Nat) (x_3 : Int), (x_3 = (h : Int)) → (h ≤ 6) → 6 - h < n_230 → ∀ (H : Heap) (locs : List Loc) (ls : Array Slot), gKH G M0 (kS σ) s H locs → lv_has ls 8 [(3, .int (iZ x_3)), (2, .int (iZ (q_nd σ.1))), (1, .int (iZ 1)), (0, .ref (gad G 152))] → W p l e ({ frames := 10, cells := 400, slots := 2400, locals := 238 } : Room) s m [.ref (gad G 152)].toArray below meth c H locs (241 + 25 * h) (6 * (241 + 25 * h)) (gLQ below G M0 (fun z K1 => z = 1 ∧ K1 = kS σ) [.ref (gad G 152)] s 400) (F0 m 230 ls []) := by
          intro n_230
          induction n_230 with
          | zero => intro h x_3 he_3 hh6 hm_230; exact absurd hm_230 (Nat.not_lt_zero _)
          | succ n_230 ih_230 =>
            intro h x_3 he_3 hh6 hm_230 H locs ls hG hl
            subst he_3
            refine lv_iload_n hx hb dL_scores_230 rfl (lv_at hl 0 rfl) ?_
            refine lv_bipush (v := iZ (6)) hx hb dL_scores_231 (by decide) ?_
            refine z_icmp_ge (tgt := 353) hx hb (by omega) (by decide) dL_scores_233 (by decide) (fun c_233 => ?_) (fun c_233 => ?_)
            · skip
              refine lv_iload_n hx hb dL_scores_353 rfl (lv_at hl 2 rfl) ?_
              exact g_zretL (z := 1) hx hb hr hG hlocks (Or.inr rfl) (⟨rfl, rfl⟩) ⟨by omega, by omega⟩ dL_scores_354
            · skip
              refine lv_iconst (v := iZ 0) hx hb dL_scores_236 rfl ?_
              refine lv_istore (lv' := [(4, .int (iZ 0)), (3, .int (iZ (h : Int))), (2, .int (iZ (q_nd σ.1))), (1, .int (iZ 1)), (0, .ref (gad G 152))]) hx hb dL_scores_237 hl (by decide) rfl (fun ls hl => ?_)
              refine lv_iconst (v := iZ 0) hx hb dL_scores_239 rfl ?_
              refine lv_istore (lv' := [(5, .int (iZ 0)), (4, .int (iZ 0)), (3, .int (iZ (h : Int))), (2, .int (iZ (q_nd σ.1))), (1, .int (iZ 1)), (0, .ref (gad G 152))]) hx hb dL_scores_240 hl (by decide) rfl (fun ls hl => ?_)
              refine lv_iconst (v := iZ 0) hx hb dL_scores_242 rfl ?_
              refine lv_istore (lv' := [(6, .int (iZ 0)), (5, .int (iZ 0)), (4, .int (iZ 0)), (3, .int (iZ (h : Int))), (2, .int (iZ (q_nd σ.1))), (1, .int (iZ 1)), (0, .ref (gad G 152))]) hx hb dL_scores_243 hl (by decide) rfl (fun ls hl => ?_)
              have L_245 : ∀ (n_245 : Nat) (j : Nat) (x_6 : Int) (x_5 : Int) (x_4 : Int), (x_6 = (j : Int)) → (x_5 = (q_al σ.1 (h : Int) j)) → (x_4 = ((q_b2 σ.1 (h : Int) j).1)) → ((j : Int) ≤ q_nd σ.1) → (q_nd σ.1).toNat - j < n_245 → ∀ (H : Heap) (locs : List Loc) (ls : Array Slot), gKH G M0 (kS σ) s H locs → lv_has ls 8 [(6, .int (iZ x_6)), (5, .int (iZ x_5)), (4, .int (iZ x_4)), (3, .int (iZ (h : Int))), (2, .int (iZ (q_nd σ.1))), (1, .int (iZ 1)), (0, .ref (gad G 152))] → W p l e ({ frames := 10, cells := 400, slots := 2400, locals := 238 } : Room) s m [.ref (gad G 152)].toArray below meth c H locs (241 + 25 * h + 2 * j) (6 * (241 + 25 * h + 2 * j)) (gLQ below G M0 (fun z K1 => z = 1 ∧ K1 = kS σ) [.ref (gad G 152)] s 400) (F0 m 245 ls []) := by
                intro n_245
                induction n_245 with
                | zero => intro j x_6 x_5 x_4 he_6 he_5 he_4 hj hm_245; exact absurd hm_245 (Nat.not_lt_zero _)
                | succ n_245 ih_245 =>
                  intro j x_6 x_5 x_4 he_6 he_5 he_4 hj hm_245 H locs ls hG hl
                  subst he_6
                  subst he_5
                  subst he_4
                  refine lv_iload hx hb dL_scores_245 (lv_at hl 0 rfl) ?_
                  refine lv_iload_n hx hb dL_scores_247 rfl (lv_at hl 4 rfl) ?_
                  refine z_icmp_ge (tgt := 304) hx hb (by omega) (by omega) dL_scores_248 (by decide) (fun c_248 => ?_) (fun c_248 => ?_)
                  · skip
                    refine lv_aload_n hx hb dL_scores_304 rfl (lv_at hl 6 rfl) ?_
                    refine lv_bipush (v := iZ (6)) hx hb dL_scores_305 (by decide) ?_
                    refine lv_iload_n hx hb dL_scores_307 rfl (lv_at hl 3 rfl) ?_
                    refine lv_iconst (v := iZ 0) hx hb dL_scores_308 rfl ?_
                    refine lv_iconst (v := iZ 0) hx hb dL_scores_309 rfl ?_
                    refine lv_iconst (v := iZ 0) hx hb dL_scores_310 rfl ?_
                    refine g_cL (As := [.ref (gad G 152), .int (iZ 6), .int (iZ (h : Int)), .int (iZ 0), .int (iZ 0), .int (iZ 0)]) (rest := []) (241 + 25 * h + 2 * j + 1) ⟨hx, hb, hml, hown, hts⟩ (c_L_call_Owner l hl0 G hdm M0 σ hσ (h : Int) (by omega) 0 0 0) (va_cwS 6 hts gA_scores_L_call rfl rfl rfl (by decide +kernel) ⟨Nat.le_of_ble_eq_true rfl, Nat.le_of_ble_eq_true rfl⟩) hG rfl hl.1 rfl (Nat.le_of_ble_eq_true rfl) dL_scores_311 ⟨by omega, by omega⟩ ⟨by dsimp only; omega, by dsimp only; omega⟩ (fun z3 K4 H locs hp_311 hG => ?_)
                    obtain ⟨hz_311, hK_311⟩ := hp_311
                    replace hz_311 := hz_311.trans (a_owner_in (by omega))
                    replace hz_311 := hz_311.symm; subst hz_311; replace hK_311 := hK_311.symm; subst hK_311
                    refine lv_istore (lv' := [(6, .int (iZ (q_os σ.1 (h : Int)))), (5, .int (iZ (q_al σ.1 (h : Int) j))), (4, .int (iZ ((q_b2 σ.1 (h : Int) j).1))), (3, .int (iZ (h : Int))), (2, .int (iZ (q_nd σ.1))), (1, .int (iZ 1)), (0, .ref (gad G 152))]) hx hb dL_scores_314 hl (by decide) rfl (fun ls hl => ?_)
                    have hos9 : q_os σ.1 (h : Int) = (q_b2 σ.1 (h : Int) j).1 + (q_b2 σ.1 (h : Int) j).2 := by unfold q_os; rw [show (q_nd σ.1).toNat = j by omega]
                    have hb29 := q_b2_in hσ.1.1 (h : Int) (n := j) (by omega)
                    have hal9 := al_in hσ.1.1 (h : Int) (n := j) (by omega)
                    refine lv_iload_n hx hb dL_scores_316 rfl (lv_at hl 5 rfl) ?_
                    refine lv_iload hx hb dL_scores_317 (lv_at hl 0 rfl) ?_
                    refine lv_iload hx hb dL_scores_319 (lv_at hl 2 rfl) ?_
                    refine z_icmp_lt (tgt := 344) hx hb (by omega) (by omega) dL_scores_321 (by decide) (fun c_321 => ?_) (fun c_321 => ?_)
                    · exfalso; omega
                    · skip
                      refine lv_iload hx hb dL_scores_324 (lv_at hl 0 rfl) ?_
                      refine lv_iconst (v := iZ 2) hx hb dL_scores_326 rfl ?_
                      refine lv_iload hx hb dL_scores_327 (lv_at hl 2 rfl) ?_
                      refine z_imul (z := (2 * ((q_b2 σ.1 (h : Int) j).1))) hx hb (by omega) dL_scores_329 ?_
                      refine z_icmp_gt (tgt := 344) hx hb (by omega) (by omega) dL_scores_330 (by decide) (fun c_330 => ?_) (fun c_330 => ?_)
                      · exfalso; omega
                      · skip
                        refine lv_iload hx hb dL_scores_333 (lv_at hl 0 rfl) ?_
                        refine lv_iload hx hb dL_scores_335 (lv_at hl 1 rfl) ?_
                        refine z_icmp_gt (tgt := 344) hx hb (by omega) (by omega) dL_scores_337 (by decide) (fun c_337 => ?_) (fun c_337 => ?_)
                        · exfalso; omega
                        · skip
                          refine lv_iconst (v := iZ 1) hx hb dL_scores_340 rfl ?_
                          refine lv_goto (tgt := 345) hx hb dL_scores_341 (by decide) ?_
                          refine z_iand_b hx hb (Or.inr rfl) dL_scores_345 ?_
                          refine lv_istore_n (lv' := [(1, .int (iZ 1)), (6, .int (iZ (q_os σ.1 (h : Int)))), (5, .int (iZ (q_al σ.1 (h : Int) j))), (4, .int (iZ ((q_b2 σ.1 (h : Int) j).1))), (3, .int (iZ (h : Int))), (2, .int (iZ (q_nd σ.1))), (0, .ref (gad G 152))]) hx hb dL_scores_346 rfl hl (by decide) rfl (fun ls hl => ?_)
                          refine z_iinc (z := ((h : Int) + 1)) (lv' := [(3, .int (iZ ((h : Int) + 1))), (1, .int (iZ 1)), (6, .int (iZ (q_os σ.1 (h : Int)))), (5, .int (iZ (q_al σ.1 (h : Int) j))), (4, .int (iZ ((q_b2 σ.1 (h : Int) j).1))), (2, .int (iZ (q_nd σ.1))), (0, .ref (gad G 152))]) hx hb dL_scores_347 hl (k := 4) rfl (by omega) (by decide) rfl (fun ls hl => ?_)
                          refine lv_goto (tgt := 230) hx hb dL_scores_350 (by decide) ?_
                          refine W.widen (k := 241 + 25 * (h + 1)) (n := 6 * (241 + 25 * (h + 1))) (by omega) (by omega) ?_
                          exact ih_230 (h + 1) ((h : Int) + 1) (by omega) (by omega) (by omega) _ _ _ hG (lv_sub hl [0, 5, 1, 6] rfl)
                  · skip
                    have hd5 := dok5 hσ.1.1 j (by omega)
                    have hsc9 := sc_in (hσ.1.1.2.1 j (by omega))
                    have hb29 := q_b2_in hσ.1.1 (h : Int) (n := j) (by omega)
                    have hal9 := al_in hσ.1.1 (h : Int) (n := j) (by omega)
                    have J_273 : ∀ (v9 : Int), (v9 = (if q_ow σ.1 j = (h : Int) then q_sc σ.1 j else 0)) → ∀ (H : Heap) (locs : List Loc) (ls : Array Slot), gKH G M0 (kS σ) s H locs → lv_has ls 8 [(6, .int (iZ (j : Int))), (5, .int (iZ (q_al σ.1 (h : Int) j))), (4, .int (iZ ((q_b2 σ.1 (h : Int) j).1))), (3, .int (iZ (h : Int))), (2, .int (iZ (q_nd σ.1))), (1, .int (iZ 1)), (0, .ref (gad G 152))] → W p l e ({ frames := 10, cells := 400, slots := 2400, locals := 238 } : Room) s m [.ref (gad G 152)].toArray below meth c H locs (241 + 25 * h + 2 * j + 2) (6 * (241 + 25 * h + 2 * j + 2)) (gLQ below G M0 (fun z K1 => z = 1 ∧ K1 = kS σ) [.ref (gad G 152)] s 400) (F0 m 273 ls [.int (iZ v9)]) := by
                      intro v9 hv9 H locs ls hG hl
                      have hv99 : 0 ≤ v9 ∧ v9 ≤ 100 := by rw [hv9]; split <;> omega
                      refine lv_istore (lv' := [(7, .int (iZ v9)), (6, .int (iZ (j : Int))), (5, .int (iZ (q_al σ.1 (h : Int) j))), (4, .int (iZ ((q_b2 σ.1 (h : Int) j).1))), (3, .int (iZ (h : Int))), (2, .int (iZ (q_nd σ.1))), (1, .int (iZ 1)), (0, .ref (gad G 152))]) hx hb dL_scores_273 hl (by decide) rfl (fun ls hl => ?_)
                      have J_289 : ∀ (m9 : Int), (m9 = (q_b2 σ.1 (h : Int) (j + 1)).1) → ∀ (H : Heap) (locs : List Loc) (ls : Array Slot), gKH G M0 (kS σ) s H locs → lv_has ls 8 [(7, .int (iZ v9)), (6, .int (iZ (j : Int))), (5, .int (iZ (q_al σ.1 (h : Int) j))), (4, .int (iZ ((q_b2 σ.1 (h : Int) j).1))), (3, .int (iZ (h : Int))), (2, .int (iZ (q_nd σ.1))), (1, .int (iZ 1)), (0, .ref (gad G 152))] → W p l e ({ frames := 10, cells := 400, slots := 2400, locals := 238 } : Room) s m [.ref (gad G 152)].toArray below meth c H locs (241 + 25 * h + 2 * j + 2) (6 * (241 + 25 * h + 2 * j + 2)) (gLQ below G M0 (fun z K1 => z = 1 ∧ K1 = kS σ) [.ref (gad G 152)] s 400) (F0 m 289 ls [.int (iZ m9)]) := by
                        intro m9 hm9 H locs ls hG hl
                        refine lv_istore (lv' := [(4, .int (iZ m9)), (7, .int (iZ v9)), (6, .int (iZ (j : Int))), (5, .int (iZ (q_al σ.1 (h : Int) j))), (3, .int (iZ (h : Int))), (2, .int (iZ (q_nd σ.1))), (1, .int (iZ 1)), (0, .ref (gad G 152))]) hx hb dL_scores_289 hl (by decide) rfl (fun ls hl => ?_)
                        refine lv_iload hx hb dL_scores_291 (lv_at hl 3 rfl) ?_
                        refine lv_iload hx hb dL_scores_293 (lv_at hl 1 rfl) ?_
                        refine z_iadd (z := ((q_al σ.1 (h : Int) j) + v9)) hx hb (by omega) dL_scores_295 ?_
                        refine lv_istore (lv' := [(5, .int (iZ ((q_al σ.1 (h : Int) j) + v9))), (4, .int (iZ m9)), (7, .int (iZ v9)), (6, .int (iZ (j : Int))), (3, .int (iZ (h : Int))), (2, .int (iZ (q_nd σ.1))), (1, .int (iZ 1)), (0, .ref (gad G 152))]) hx hb dL_scores_296 hl (by decide) rfl (fun ls hl => ?_)
                        refine z_iinc (z := ((j : Int) + 1)) (lv' := [(6, .int (iZ ((j : Int) + 1))), (5, .int (iZ ((q_al σ.1 (h : Int) j) + v9))), (4, .int (iZ m9)), (7, .int (iZ v9)), (3, .int (iZ (h : Int))), (2, .int (iZ (q_nd σ.1))), (1, .int (iZ 1)), (0, .ref (gad G 152))]) hx hb dL_scores_298 hl (k := 3) rfl (by omega) (by decide) rfl (fun ls hl => ?_)
                        refine lv_goto (tgt := 245) hx hb dL_scores_301 (by decide) ?_
                        refine W.widen (k := 241 + 25 * h + 2 * (j + 1)) (n := 6 * (241 + 25 * h + 2 * (j + 1))) (by omega) (by omega) ?_
                        exact ih_245 (j + 1) ((j : Int) + 1) ((q_al σ.1 (h : Int) j) + v9) m9 (by omega) (by rw [hv9]; rfl) hm9 (by omega) (by omega) _ _ _ hG (lv_sub hl [0, 1, 2, 4, 5, 6, 7] rfl)
                      refine lv_iload hx hb dL_scores_275 (lv_at hl 0 rfl) ?_
                      refine lv_iload hx hb dL_scores_277 (lv_at hl 3 rfl) ?_
                      refine z_icmp_le (tgt := 287) hx hb (by omega) (by omega) dL_scores_279 (by decide) (fun c_279 => ?_) (fun c_279 => ?_)
                      · skip
                        refine lv_iload hx hb dL_scores_287 (lv_at hl 3 rfl) ?_
                        refine W.widen (k := 241 + 25 * h + 2 * j + 2) (n := 6 * (241 + 25 * h + 2 * j + 2)) (by omega) (by omega) ?_
                        exact J_289 ((q_b2 σ.1 (h : Int) j).1) (by rw [b2_step hσ.1.1 _ (by omega), ← hv9]; omega) _ _ _ hG (lv_sub hl [0, 1, 2, 3, 4, 5, 6, 7] rfl)
                      · skip
                        refine lv_iload hx hb dL_scores_282 (lv_at hl 0 rfl) ?_
                        refine lv_goto (tgt := 289) hx hb dL_scores_284 (by decide) ?_
                        refine W.widen (k := 241 + 25 * h + 2 * j + 2) (n := 6 * (241 + 25 * h + 2 * j + 2)) (by omega) (by omega) ?_
                        exact J_289 v9 (by rw [b2_step hσ.1.1 _ (by omega), ← hv9]; omega) _ _ _ hG (lv_sub hl [0, 1, 2, 3, 4, 5, 6, 7] rfl)
                    refine lv_aload_n hx hb dL_scores_251 rfl (lv_at hl 6 rfl) ?_
                    refine lv_iload hx hb dL_scores_252 (lv_at hl 0 rfl) ?_
                    refine lv_iconst (v := iZ 0) hx hb dL_scores_254 rfl ?_
                    refine g_cL (As := [.ref (gad G 152), .int (iZ (j : Int)), .int (iZ 0)]) (rest := []) (241 + 25 * h + 2 * j + 1) ⟨hx, hb, hml, hown, hts⟩ (c_L_dog l hl0 G hdm M0 σ hσ (j : Int) (by omega) 0 (by omega)) (va_cwS 3 hts gA_scores_L_dog rfl rfl rfl (by decide +kernel) ⟨Nat.le_of_ble_eq_true rfl, Nat.le_of_ble_eq_true rfl⟩) hG rfl hl.1 rfl (Nat.le_of_ble_eq_true rfl) dL_scores_255 ⟨by omega, by omega⟩ ⟨by dsimp only; omega, by dsimp only; omega⟩ (fun z5 K6 H locs hp_255 hG => ?_)
                    obtain ⟨hz_255, hK_255⟩ := hp_255
                    replace hz_255 := hz_255.trans (a_dog_0 (σ := σ) (i := j) (by omega))
                    replace hz_255 := hz_255.symm; subst hz_255; replace hK_255 := hK_255.symm; subst hK_255
                    refine lv_iload_n hx hb dL_scores_258 rfl (lv_at hl 3 rfl) ?_
                    refine z_icmp_ne (tgt := 272) hx hb (by omega) (by omega) dL_scores_259 (by decide) (fun c_259 => ?_) (fun c_259 => ?_)
                    · skip
                      refine lv_iconst (v := iZ 0) hx hb dL_scores_272 rfl ?_
                      refine W.widen (k := 241 + 25 * h + 2 * j + 2) (n := 6 * (241 + 25 * h + 2 * j + 2)) (by omega) (by omega) ?_
                      exact J_273 0 (by rw [if_neg (by omega)]) _ _ _ hG (lv_sub hl [0, 1, 2, 3, 4, 5, 6] rfl)
                    · skip
                      refine lv_aload_n hx hb dL_scores_262 rfl (lv_at hl 6 rfl) ?_
                      refine lv_iload hx hb dL_scores_263 (lv_at hl 0 rfl) ?_
                      refine lv_iconst (v := iZ 4) hx hb dL_scores_265 rfl ?_
                      refine g_cL (As := [.ref (gad G 152), .int (iZ (j : Int)), .int (iZ 4)]) (rest := []) (241 + 25 * h + 2 * j + 2) ⟨hx, hb, hml, hown, hts⟩ (c_L_dog l hl0 G hdm M0 σ hσ (j : Int) (by omega) 4 (by omega)) (va_cwS 3 hts gA_scores_L_dog rfl rfl rfl (by decide +kernel) ⟨Nat.le_of_ble_eq_true rfl, Nat.le_of_ble_eq_true rfl⟩) hG rfl hl.1 rfl (Nat.le_of_ble_eq_true rfl) dL_scores_266 ⟨by omega, by omega⟩ ⟨by dsimp only; omega, by dsimp only; omega⟩ (fun z7 K8 H locs hp_266 hG => ?_)
                      obtain ⟨hz_266, hK_266⟩ := hp_266
                      replace hz_266 := hz_266.trans (a_dog_4 (σ := σ) (i := j) (by omega))
                      replace hz_266 := hz_266.symm; subst hz_266; replace hK_266 := hK_266.symm; subst hK_266
                      refine lv_goto (tgt := 273) hx hb dL_scores_269 (by decide) ?_
                      refine W.widen (k := 241 + 25 * h + 2 * j + 2) (n := 6 * (241 + 25 * h + 2 * j + 2)) (by omega) (by omega) ?_
                      exact J_273 (q_sc σ.1 j) (by rw [if_pos (by omega)]) _ _ _ hG (lv_sub hl [0, 1, 2, 3, 4, 5, 6] rfl)
              refine W.widen (k := 241 + 25 * h + 2 * 0) (n := 6 * (241 + 25 * h + 2 * 0)) (by omega) (by omega) ?_
              exact L_245 _ 0 0 0 0 rfl rfl rfl (by omega) (Nat.lt_succ_self _) _ _ _ hG (lv_sub hl [0, 1, 2, 3, 4, 5, 6] rfl)
        refine W.widen (k := 241 + 25 * 0) (n := 6 * (241 + 25 * 0)) (by omega) (by omega) ?_
        exact L_230 _ 0 0 rfl (by omega) (Nat.lt_succ_self _) _ _ _ hG (lv_sub hl [0, 1, 2, 3] rfl)
      · skip
        have hd5 := dok5 hσ.1.1 i (by omega)
        have hsc9 := sc_in (hσ.1.1.2.1 i (by omega))
        refine lv_iconst (v := iZ 0) hx hb dL_scores_15 rfl ?_
        refine lv_istore (lv' := [(4, .int (iZ 0)), (3, .int (iZ (i : Int))), (2, .int (iZ (q_nd σ.1))), (1, .int (iZ 1)), (0, .ref (gad G 152))]) hx hb dL_scores_16 hl (by decide) rfl (fun ls hl => ?_)
        refine lv_aload_n hx hb dL_scores_18 rfl (lv_at hl 4 rfl) ?_
        refine lv_iload_n hx hb dL_scores_19 rfl (lv_at hl 1 rfl) ?_
        refine lv_iconst (v := iZ 5) hx hb dL_scores_20 rfl ?_
        refine g_cL (As := [.ref (gad G 152), .int (iZ (i : Int)), .int (iZ 5)]) (rest := []) (1 + 20 * i + 1) ⟨hx, hb, hml, hown, hts⟩ (c_L_dog l hl0 G hdm M0 σ hσ (i : Int) (by omega) 5 (by omega)) (va_cwS 3 hts gA_scores_L_dog rfl rfl rfl (by decide +kernel) ⟨Nat.le_of_ble_eq_true rfl, Nat.le_of_ble_eq_true rfl⟩) hG rfl hl.1 rfl (Nat.le_of_ble_eq_true rfl) dL_scores_21 ⟨by omega, by omega⟩ ⟨by dsimp only; omega, by dsimp only; omega⟩ (fun z9 K10 H locs hp_21 hG => ?_)
        obtain ⟨hz_21, hK_21⟩ := hp_21
        replace hz_21 := hz_21.trans (a_dog_5 (σ := σ) (i := i) (by omega))
        replace hz_21 := hz_21.symm; subst hz_21; replace hK_21 := hK_21.symm; subst hK_21
        refine lv_istore (lv' := [(5, .int (iZ (q_fr σ.1 i))), (4, .int (iZ 0)), (3, .int (iZ (i : Int))), (2, .int (iZ (q_nd σ.1))), (1, .int (iZ 1)), (0, .ref (gad G 152))]) hx hb dL_scores_24 hl (by decide) rfl (fun ls hl => ?_)
        refine lv_iconst (v := iZ 0) hx hb dL_scores_26 rfl ?_
        refine lv_istore (lv' := [(6, .int (iZ 0)), (5, .int (iZ (q_fr σ.1 i))), (4, .int (iZ 0)), (3, .int (iZ (i : Int))), (2, .int (iZ (q_nd σ.1))), (1, .int (iZ 1)), (0, .ref (gad G 152))]) hx hb dL_scores_27 hl (by decide) rfl (fun ls hl => ?_)
        have L_29 : ∀ (n_29 : Nat) (p9 : Nat) (x_6 : Int) (x_4 : Int), (x_6 = (p9 : Int)) → (x_4 = (q_sm (q_lv σ.1 i) p9)) → (p9 ≤ 6) → 6 - p9 < n_29 → ∀ (H : Heap) (locs : List Loc) (ls : Array Slot), gKH G M0 (kS σ) s H locs → lv_has ls 8 [(6, .int (iZ x_6)), (5, .int (iZ (q_fr σ.1 i))), (4, .int (iZ x_4)), (3, .int (iZ (i : Int))), (2, .int (iZ (q_nd σ.1))), (1, .int (iZ 1)), (0, .ref (gad G 152))] → W p l e ({ frames := 10, cells := 400, slots := 2400, locals := 238 } : Room) s m [.ref (gad G 152)].toArray below meth c H locs (1 + 20 * i + 1 + 2 * p9) (6 * (1 + 20 * i + 1 + 2 * p9)) (gLQ below G M0 (fun z K1 => z = 1 ∧ K1 = kS σ) [.ref (gad G 152)] s 400) (F0 m 29 ls []) := by
          intro n_29
          induction n_29 with
          | zero => intro p9 x_6 x_4 he_6 he_4 hp9 hm_29; exact absurd hm_29 (Nat.not_lt_zero _)
          | succ n_29 ih_29 =>
            intro p9 x_6 x_4 he_6 he_4 hp9 hm_29 H locs ls hG hl
            subst he_6
            subst he_4
            refine lv_iload hx hb dL_scores_29 (lv_at hl 0 rfl) ?_
            refine lv_bipush (v := iZ (6)) hx hb dL_scores_31 (by decide) ?_
            refine z_icmp_ge (tgt := 125) hx hb (by omega) (by decide) dL_scores_33 (by decide) (fun c_33 => ?_) (fun c_33 => ?_)
            · skip
              have J_220 : ∀ (H : Heap) (locs : List Loc) (ls : Array Slot), gKH G M0 (kS σ) s H locs → lv_has ls 8 [(6, .int (iZ (p9 : Int))), (5, .int (iZ (q_fr σ.1 i))), (4, .int (iZ (q_sm (q_lv σ.1 i) p9))), (3, .int (iZ (i : Int))), (2, .int (iZ (q_nd σ.1))), (1, .int (iZ 1)), (0, .ref (gad G 152))] → W p l e ({ frames := 10, cells := 400, slots := 2400, locals := 238 } : Room) s m [.ref (gad G 152)].toArray below meth c H locs (1 + 20 * i + 20) (6 * (1 + 20 * i + 20)) (gLQ below G M0 (fun z K1 => z = 1 ∧ K1 = kS σ) [.ref (gad G 152)] s 400) (F0 m 220 ls [.int (iZ 1), .int (iZ 1)]) := by
                intro  H locs ls hG hl
                refine z_iand_b hx hb (Or.inr rfl) dL_scores_220 ?_
                refine lv_istore_n (lv' := [(1, .int (iZ 1)), (6, .int (iZ (p9 : Int))), (5, .int (iZ (q_fr σ.1 i))), (4, .int (iZ (q_sm (q_lv σ.1 i) p9))), (3, .int (iZ (i : Int))), (2, .int (iZ (q_nd σ.1))), (0, .ref (gad G 152))]) hx hb dL_scores_221 rfl hl (by decide) rfl (fun ls hl => ?_)
                refine z_iinc (z := ((i : Int) + 1)) (lv' := [(3, .int (iZ ((i : Int) + 1))), (1, .int (iZ 1)), (6, .int (iZ (p9 : Int))), (5, .int (iZ (q_fr σ.1 i))), (4, .int (iZ (q_sm (q_lv σ.1 i) p9))), (2, .int (iZ (q_nd σ.1))), (0, .ref (gad G 152))]) hx hb dL_scores_222 hl (k := 4) rfl (by omega) (by decide) rfl (fun ls hl => ?_)
                refine lv_goto (tgt := 10) hx hb dL_scores_225 (by decide) ?_
                refine W.widen (k := 1 + 20 * (i + 1)) (n := 6 * (1 + 20 * (i + 1))) (by omega) (by omega) ?_
                exact ih_10 (i + 1) ((i : Int) + 1) (by omega) (by omega) (by omega) _ _ _ hG (lv_sub hl [0, 5, 1, 6] rfl)
              refine lv_iload_n hx hb dL_scores_125 rfl (lv_at hl 5 rfl) ?_
              refine lv_aload_n hx hb dL_scores_126 rfl (lv_at hl 6 rfl) ?_
              refine lv_iload_n hx hb dL_scores_127 rfl (lv_at hl 3 rfl) ?_
              refine lv_iconst (v := iZ 4) hx hb dL_scores_128 rfl ?_
              refine g_cL (As := [.ref (gad G 152), .int (iZ (i : Int)), .int (iZ 4)]) (rest := [.int (iZ 1)]) (1 + 20 * i + 1 + 2 * p9 + 1) ⟨hx, hb, hml, hown, hts⟩ (c_L_dog l hl0 G hdm M0 σ hσ (i : Int) (by omega) 4 (by omega)) (va_cwS 3 hts gA_scores_L_dog rfl rfl rfl (by decide +kernel) ⟨Nat.le_of_ble_eq_true rfl, Nat.le_of_ble_eq_true rfl⟩) hG rfl hl.1 rfl (Nat.le_of_ble_eq_true rfl) dL_scores_129 ⟨by omega, by omega⟩ ⟨by dsimp only; omega, by dsimp only; omega⟩ (fun z11 K12 H locs hp_129 hG => ?_)
              obtain ⟨hz_129, hK_129⟩ := hp_129
              replace hz_129 := hz_129.trans (a_dog_4 (σ := σ) (i := i) (by omega))
              replace hz_129 := hz_129.symm; subst hz_129; replace hK_129 := hK_129.symm; subst hK_129
              have J_150 : ∀ (v9 : Int), (v9 = q_sc σ.1 i) → ∀ (H : Heap) (locs : List Loc) (ls : Array Slot), gKH G M0 (kS σ) s H locs → lv_has ls 8 [(6, .int (iZ (p9 : Int))), (5, .int (iZ (q_fr σ.1 i))), (4, .int (iZ (q_sm (q_lv σ.1 i) p9))), (3, .int (iZ (i : Int))), (2, .int (iZ (q_nd σ.1))), (1, .int (iZ 1)), (0, .ref (gad G 152))] → W p l e ({ frames := 10, cells := 400, slots := 2400, locals := 238 } : Room) s m [.ref (gad G 152)].toArray below meth c H locs (1 + 20 * i + 15) (6 * (1 + 20 * i + 15)) (gLQ below G M0 (fun z K1 => z = 1 ∧ K1 = kS σ) [.ref (gad G 152)] s 400) (F0 m 150 ls [.int (iZ v9), .int (iZ (q_sc σ.1 i)), .int (iZ 1)]) := by
                intro v9 hv9 H locs ls hG hl
                refine z_icmp_ne (tgt := 219) hx hb (by omega) (by omega) dL_scores_150 (by decide) (fun c_150 => ?_) (fun c_150 => ?_)
                · exfalso; omega
                · skip
                  have J_170 : ∀ (H : Heap) (locs : List Loc) (ls : Array Slot), gKH G M0 (kS σ) s H locs → lv_has ls 8 [(6, .int (iZ (p9 : Int))), (5, .int (iZ (q_fr σ.1 i))), (4, .int (iZ (q_sm (q_lv σ.1 i) p9))), (3, .int (iZ (i : Int))), (2, .int (iZ (q_nd σ.1))), (1, .int (iZ 1)), (0, .ref (gad G 152))] → W p l e ({ frames := 10, cells := 400, slots := 2400, locals := 238 } : Room) s m [.ref (gad G 152)].toArray below meth c H locs (1 + 20 * i + 16) (6 * (1 + 20 * i + 16)) (gLQ below G M0 (fun z K1 => z = 1 ∧ K1 = kS σ) [.ref (gad G 152)] s 400) (F0 m 170 ls [.int (iZ 1)]) := by
                    intro  H locs ls hG hl
                    have J_197 : ∀ (H : Heap) (locs : List Loc) (ls : Array Slot), gKH G M0 (kS σ) s H locs → lv_has ls 8 [(6, .int (iZ (p9 : Int))), (5, .int (iZ (q_fr σ.1 i))), (4, .int (iZ (q_sm (q_lv σ.1 i) p9))), (3, .int (iZ (i : Int))), (2, .int (iZ (q_nd σ.1))), (1, .int (iZ 1)), (0, .ref (gad G 152))] → W p l e ({ frames := 10, cells := 400, slots := 2400, locals := 238 } : Room) s m [.ref (gad G 152)].toArray below meth c H locs (1 + 20 * i + 18) (6 * (1 + 20 * i + 18)) (gLQ below G M0 (fun z K1 => z = 1 ∧ K1 = kS σ) [.ref (gad G 152)] s 400) (F0 m 197 ls [.int (iZ 1)]) := by
                      intro  H locs ls hG hl
                      refine lv_aload_n hx hb dL_scores_197 rfl (lv_at hl 6 rfl) ?_
                      refine lv_iload_n hx hb dL_scores_198 rfl (lv_at hl 3 rfl) ?_
                      refine lv_iconst (v := iZ 2) hx hb dL_scores_199 rfl ?_
                      refine g_cL (As := [.ref (gad G 152), .int (iZ (i : Int)), .int (iZ 2)]) (rest := [.int (iZ 1)]) (1 + 20 * i + 19) ⟨hx, hb, hml, hown, hts⟩ (c_L_dog l hl0 G hdm M0 σ hσ (i : Int) (by omega) 2 (by omega)) (va_cwS 3 hts gA_scores_L_dog rfl rfl rfl (by decide +kernel) ⟨Nat.le_of_ble_eq_true rfl, Nat.le_of_ble_eq_true rfl⟩) hG rfl hl.1 rfl (Nat.le_of_ble_eq_true rfl) dL_scores_200 ⟨by omega, by omega⟩ ⟨by dsimp only; omega, by dsimp only; omega⟩ (fun z13 K14 H locs hp_200 hG => ?_)
                      obtain ⟨hz_200, hK_200⟩ := hp_200
                      replace hz_200 := hz_200.trans (a_dog_2 (σ := σ) (i := i) (by omega))
                      replace hz_200 := hz_200.symm; subst hz_200; replace hK_200 := hK_200.symm; subst hK_200
                      refine z_if_ne (tgt := 215) hx hb (by omega) dL_scores_203 (by decide) (fun c_203 => ?_) (fun c_203 => ?_)
                      · skip
                        refine lv_iconst (v := iZ 1) hx hb dL_scores_215 rfl ?_
                        refine lv_goto (tgt := 220) hx hb dL_scores_216 (by decide) ?_
                        refine W.widen (k := 1 + 20 * i + 20) (n := 6 * (1 + 20 * i + 20)) (by omega) (by omega) ?_
                        exact J_220  _ _ _ hG (lv_sub hl [0, 1, 2, 3, 4, 5, 6] rfl)
                      · skip
                        refine lv_aload_n hx hb dL_scores_206 rfl (lv_at hl 6 rfl) ?_
                        refine lv_iload_n hx hb dL_scores_207 rfl (lv_at hl 3 rfl) ?_
                        refine lv_iconst (v := iZ 3) hx hb dL_scores_208 rfl ?_
                        refine g_cL (As := [.ref (gad G 152), .int (iZ (i : Int)), .int (iZ 3)]) (rest := [.int (iZ 1)]) (1 + 20 * i + 20) ⟨hx, hb, hml, hown, hts⟩ (c_L_dog l hl0 G hdm M0 σ hσ (i : Int) (by omega) 3 (by omega)) (va_cwS 3 hts gA_scores_L_dog rfl rfl rfl (by decide +kernel) ⟨Nat.le_of_ble_eq_true rfl, Nat.le_of_ble_eq_true rfl⟩) hG rfl hl.1 rfl (Nat.le_of_ble_eq_true rfl) dL_scores_209 ⟨by omega, by omega⟩ ⟨by dsimp only; omega, by dsimp only; omega⟩ (fun z15 K16 H locs hp_209 hG => ?_)
                        obtain ⟨hz_209, hK_209⟩ := hp_209
                        replace hz_209 := hz_209.trans (a_dog_3 (σ := σ) (i := i) (by omega))
                        replace hz_209 := hz_209.symm; subst hz_209; replace hK_209 := hK_209.symm; subst hK_209
                        refine z_if_ne (tgt := 219) hx hb (by omega) dL_scores_212 (by decide) (fun c_212 => ?_) (fun c_212 => ?_)
                        · exfalso; have h9 := (hσ.1.2.1 i (by omega)).1 (by omega); omega
                        · skip
                          refine lv_iconst (v := iZ 1) hx hb dL_scores_215 rfl ?_
                          refine lv_goto (tgt := 220) hx hb dL_scores_216 (by decide) ?_
                          refine W.widen (k := 1 + 20 * i + 20) (n := 6 * (1 + 20 * i + 20)) (by omega) (by omega) ?_
                          exact J_220  _ _ _ hG (lv_sub hl [0, 1, 2, 3, 4, 5, 6] rfl)
                    refine lv_aload_n hx hb dL_scores_170 rfl (lv_at hl 6 rfl) ?_
                    refine lv_iload_n hx hb dL_scores_171 rfl (lv_at hl 3 rfl) ?_
                    refine lv_iconst (v := iZ 2) hx hb dL_scores_172 rfl ?_
                    refine g_cL (As := [.ref (gad G 152), .int (iZ (i : Int)), .int (iZ 2)]) (rest := [.int (iZ 1)]) (1 + 20 * i + 17) ⟨hx, hb, hml, hown, hts⟩ (c_L_dog l hl0 G hdm M0 σ hσ (i : Int) (by omega) 2 (by omega)) (va_cwS 3 hts gA_scores_L_dog rfl rfl rfl (by decide +kernel) ⟨Nat.le_of_ble_eq_true rfl, Nat.le_of_ble_eq_true rfl⟩) hG rfl hl.1 rfl (Nat.le_of_ble_eq_true rfl) dL_scores_173 ⟨by omega, by omega⟩ ⟨by dsimp only; omega, by dsimp only; omega⟩ (fun z17 K18 H locs hp_173 hG => ?_)
                    obtain ⟨hz_173, hK_173⟩ := hp_173
                    replace hz_173 := hz_173.trans (a_dog_2 (σ := σ) (i := i) (by omega))
                    replace hz_173 := hz_173.symm; subst hz_173; replace hK_173 := hK_173.symm; subst hK_173
                    refine lv_iconst (v := iZ 1) hx hb dL_scores_176 rfl ?_
                    refine z_icmp_ne (tgt := 197) hx hb (by omega) (by decide) dL_scores_177 (by decide) (fun c_177 => ?_) (fun c_177 => ?_)
                    · skip
                      refine W.widen (k := 1 + 20 * i + 18) (n := 6 * (1 + 20 * i + 18)) (by omega) (by omega) ?_
                      exact J_197  _ _ _ hG (lv_sub hl [0, 1, 2, 3, 4, 5, 6] rfl)
                    · skip
                      refine lv_iload hx hb dL_scores_180 (lv_at hl 1 rfl) ?_
                      refine lv_bipush (v := iZ (6)) hx hb dL_scores_182 (by decide) ?_
                      refine z_icmp_ne (tgt := 219) hx hb (by omega) (by decide) dL_scores_184 (by decide) (fun c_184 => ?_) (fun c_184 => ?_)
                      · exfalso; have h9 := (hσ.1.2.1 i (by omega)).2.1 (by omega); omega
                      · skip
                        refine lv_aload_n hx hb dL_scores_187 rfl (lv_at hl 6 rfl) ?_
                        refine lv_iload_n hx hb dL_scores_188 rfl (lv_at hl 3 rfl) ?_
                        refine lv_iconst (v := iZ 3) hx hb dL_scores_189 rfl ?_
                        refine g_cL (As := [.ref (gad G 152), .int (iZ (i : Int)), .int (iZ 3)]) (rest := [.int (iZ 1)]) (1 + 20 * i + 18) ⟨hx, hb, hml, hown, hts⟩ (c_L_dog l hl0 G hdm M0 σ hσ (i : Int) (by omega) 3 (by omega)) (va_cwS 3 hts gA_scores_L_dog rfl rfl rfl (by decide +kernel) ⟨Nat.le_of_ble_eq_true rfl, Nat.le_of_ble_eq_true rfl⟩) hG rfl hl.1 rfl (Nat.le_of_ble_eq_true rfl) dL_scores_190 ⟨by omega, by omega⟩ ⟨by dsimp only; omega, by dsimp only; omega⟩ (fun z19 K20 H locs hp_190 hG => ?_)
                        obtain ⟨hz_190, hK_190⟩ := hp_190
                        replace hz_190 := hz_190.trans (a_dog_3 (σ := σ) (i := i) (by omega))
                        replace hz_190 := hz_190.symm; subst hz_190; replace hK_190 := hK_190.symm; subst hK_190
                        refine lv_iconst (v := iZ 1) hx hb dL_scores_193 rfl ?_
                        refine z_icmp_ne (tgt := 219) hx hb (by omega) (by decide) dL_scores_194 (by decide) (fun c_194 => ?_) (fun c_194 => ?_)
                        · exfalso; have h9 := (dok hσ.1.1 i (by omega)).2.2.2.2.2.2 (by omega); omega
                        · skip
                          refine W.widen (k := 1 + 20 * i + 18) (n := 6 * (1 + 20 * i + 18)) (by omega) (by omega) ?_
                          exact J_197  _ _ _ hG (lv_sub hl [0, 1, 2, 3, 4, 5, 6] rfl)
                  refine lv_aload_n hx hb dL_scores_153 rfl (lv_at hl 6 rfl) ?_
                  refine lv_iload_n hx hb dL_scores_154 rfl (lv_at hl 3 rfl) ?_
                  refine lv_iconst (v := iZ 2) hx hb dL_scores_155 rfl ?_
                  refine g_cL (As := [.ref (gad G 152), .int (iZ (i : Int)), .int (iZ 2)]) (rest := [.int (iZ 1)]) (1 + 20 * i + 16) ⟨hx, hb, hml, hown, hts⟩ (c_L_dog l hl0 G hdm M0 σ hσ (i : Int) (by omega) 2 (by omega)) (va_cwS 3 hts gA_scores_L_dog rfl rfl rfl (by decide +kernel) ⟨Nat.le_of_ble_eq_true rfl, Nat.le_of_ble_eq_true rfl⟩) hG rfl hl.1 rfl (Nat.le_of_ble_eq_true rfl) dL_scores_156 ⟨by omega, by omega⟩ ⟨by dsimp only; omega, by dsimp only; omega⟩ (fun z21 K22 H locs hp_156 hG => ?_)
                  obtain ⟨hz_156, hK_156⟩ := hp_156
                  replace hz_156 := hz_156.trans (a_dog_2 (σ := σ) (i := i) (by omega))
                  replace hz_156 := hz_156.symm; subst hz_156; replace hK_156 := hK_156.symm; subst hK_156
                  refine lv_iconst (v := iZ 2) hx hb dL_scores_159 rfl ?_
                  refine z_icmp_ne (tgt := 170) hx hb (by omega) (by decide) dL_scores_160 (by decide) (fun c_160 => ?_) (fun c_160 => ?_)
                  · skip
                    refine W.widen (k := 1 + 20 * i + 16) (n := 6 * (1 + 20 * i + 16)) (by omega) (by omega) ?_
                    exact J_170  _ _ _ hG (lv_sub hl [0, 1, 2, 3, 4, 5, 6] rfl)
                  · skip
                    refine lv_iload hx hb dL_scores_163 (lv_at hl 1 rfl) ?_
                    refine lv_bipush (v := iZ (6)) hx hb dL_scores_165 (by decide) ?_
                    refine z_icmp_ge (tgt := 219) hx hb (by omega) (by decide) dL_scores_167 (by decide) (fun c_167 => ?_) (fun c_167 => ?_)
                    · exfalso; have h9 := (hσ.1.2.1 i (by omega)).2.2 (by omega); omega
                    · skip
                      refine W.widen (k := 1 + 20 * i + 16) (n := 6 * (1 + 20 * i + 16)) (by omega) (by omega) ?_
                      exact J_170  _ _ _ hG (lv_sub hl [0, 1, 2, 3, 4, 5, 6] rfl)
              refine lv_aload_n hx hb dL_scores_132 rfl (lv_at hl 6 rfl) ?_
              refine lv_iload_n hx hb dL_scores_133 rfl (lv_at hl 3 rfl) ?_
              refine lv_iconst (v := iZ 3) hx hb dL_scores_134 rfl ?_
              refine g_cL (As := [.ref (gad G 152), .int (iZ (i : Int)), .int (iZ 3)]) (rest := [.int (iZ (q_sc σ.1 i)), .int (iZ 1)]) (1 + 20 * i + 1 + 2 * p9 + 2) ⟨hx, hb, hml, hown, hts⟩ (c_L_dog l hl0 G hdm M0 σ hσ (i : Int) (by omega) 3 (by omega)) (va_cwS 3 hts gA_scores_L_dog rfl rfl rfl (by decide +kernel) ⟨Nat.le_of_ble_eq_true rfl, Nat.le_of_ble_eq_true rfl⟩) hG rfl hl.1 rfl (Nat.le_of_ble_eq_true rfl) dL_scores_135 ⟨by omega, by omega⟩ ⟨by dsimp only; omega, by dsimp only; omega⟩ (fun z23 K24 H locs hp_135 hG => ?_)
              obtain ⟨hz_135, hK_135⟩ := hp_135
              replace hz_135 := hz_135.trans (a_dog_3 (σ := σ) (i := i) (by omega))
              replace hz_135 := hz_135.symm; subst hz_135; replace hK_135 := hK_135.symm; subst hK_135
              refine z_if_ne (tgt := 145) hx hb (by omega) dL_scores_138 (by decide) (fun c_138 => ?_) (fun c_138 => ?_)
              · skip
                refine lv_bipush (v := iZ (100)) hx hb dL_scores_145 (by decide) ?_
                refine lv_iload hx hb dL_scores_147 (lv_at hl 2 rfl) ?_
                refine z_isub (z := (100 - (q_sm (q_lv σ.1 i) p9))) hx hb (by omega) dL_scores_149 ?_
                refine W.widen (k := 1 + 20 * i + 15) (n := 6 * (1 + 20 * i + 15)) (by omega) (by omega) ?_
                exact J_150 (100 - (q_sm (q_lv σ.1 i) p9)) (by rw [sc_lv (by omega), show p9 = 6 by omega]) _ _ _ hG (lv_sub hl [0, 1, 2, 3, 4, 5, 6] rfl)
              · skip
                refine lv_iconst (v := iZ 0) hx hb dL_scores_141 rfl ?_
                refine lv_goto (tgt := 150) hx hb dL_scores_142 (by decide) ?_
                refine W.widen (k := 1 + 20 * i + 15) (n := 6 * (1 + 20 * i + 15)) (by omega) (by omega) ?_
                exact J_150 0 (by unfold q_sc; rw [if_neg (by omega)]) _ _ _ hG (lv_sub hl [0, 1, 2, 3, 4, 5, 6] rfl)
            · skip
              have hlv9 := lv_in (hσ.1.1.2.1 i (by omega)) (p := p9) (by omega)
              have hwt9 := wth_in p9
              refine lv_aload_n hx hb dL_scores_36 rfl (lv_at hl 6 rfl) ?_
              refine lv_iconst (v := iZ 4) hx hb dL_scores_37 rfl ?_
              refine lv_iload_n hx hb dL_scores_38 rfl (lv_at hl 3 rfl) ?_
              refine lv_iload hx hb dL_scores_39 (lv_at hl 0 rfl) ?_
              refine lv_iconst (v := iZ 0) hx hb dL_scores_41 rfl ?_
              refine lv_iconst (v := iZ 0) hx hb dL_scores_42 rfl ?_
              refine g_cL (As := [.ref (gad G 152), .int (iZ 4), .int (iZ (i : Int)), .int (iZ (p9 : Int)), .int (iZ 0), .int (iZ 0)]) (rest := []) (1 + 20 * i + 1 + 2 * p9 + 1) ⟨hx, hb, hml, hown, hts⟩ (c_L_call_Lost l hl0 G hdm M0 σ hσ (i : Int) (by omega) (p9 : Int) (by omega) 0 0) (va_cwS 6 hts gA_scores_L_call rfl rfl rfl (by decide +kernel) ⟨Nat.le_of_ble_eq_true rfl, Nat.le_of_ble_eq_true rfl⟩) hG rfl hl.1 rfl (Nat.le_of_ble_eq_true rfl) dL_scores_43 ⟨by omega, by omega⟩ ⟨by dsimp only; omega, by dsimp only; omega⟩ (fun z25 K26 H locs hp_43 hG => ?_)
              obtain ⟨hz_43, hK_43⟩ := hp_43
              replace hz_43 := hz_43.trans (a_lost_in (by omega) (by omega))
              replace hz_43 := hz_43.symm; subst hz_43; replace hK_43 := hK_43.symm; subst hK_43
              refine lv_istore (lv' := [(7, .int (iZ (q_lv σ.1 i p9))), (6, .int (iZ (p9 : Int))), (5, .int (iZ (q_fr σ.1 i))), (4, .int (iZ (q_sm (q_lv σ.1 i) p9))), (3, .int (iZ (i : Int))), (2, .int (iZ (q_nd σ.1))), (1, .int (iZ 1)), (0, .ref (gad G 152))]) hx hb dL_scores_46 hl (by decide) rfl (fun ls hl => ?_)
              have J_110 : ∀ (H : Heap) (locs : List Loc) (ls : Array Slot), gKH G M0 (kS σ) s H locs → lv_has ls 8 [(7, .int (iZ (q_lv σ.1 i p9))), (6, .int (iZ (p9 : Int))), (5, .int (iZ (q_fr σ.1 i))), (4, .int (iZ (q_sm (q_lv σ.1 i) p9))), (3, .int (iZ (i : Int))), (2, .int (iZ (q_nd σ.1))), (1, .int (iZ 1)), (0, .ref (gad G 152))] → W p l e ({ frames := 10, cells := 400, slots := 2400, locals := 238 } : Room) s m [.ref (gad G 152)].toArray below meth c H locs (1 + 20 * i + 1 + 2 * p9 + 2) (6 * (1 + 20 * i + 1 + 2 * p9 + 2)) (gLQ below G M0 (fun z K1 => z = 1 ∧ K1 = kS σ) [.ref (gad G 152)] s 400) (F0 m 110 ls [.int (iZ 1), .int (iZ 1)]) := by
                intro  H locs ls hG hl
                refine z_iand_b hx hb (Or.inr rfl) dL_scores_110 ?_
                refine lv_istore_n (lv' := [(1, .int (iZ 1)), (7, .int (iZ (q_lv σ.1 i p9))), (6, .int (iZ (p9 : Int))), (5, .int (iZ (q_fr σ.1 i))), (4, .int (iZ (q_sm (q_lv σ.1 i) p9))), (3, .int (iZ (i : Int))), (2, .int (iZ (q_nd σ.1))), (0, .ref (gad G 152))]) hx hb dL_scores_111 rfl hl (by decide) rfl (fun ls hl => ?_)
                refine lv_iload hx hb dL_scores_112 (lv_at hl 4 rfl) ?_
                refine lv_iload hx hb dL_scores_114 (lv_at hl 1 rfl) ?_
                refine z_iadd (z := ((q_sm (q_lv σ.1 i) p9) + (q_lv σ.1 i p9))) hx hb (by omega) dL_scores_116 ?_
                refine lv_istore (lv' := [(4, .int (iZ ((q_sm (q_lv σ.1 i) p9) + (q_lv σ.1 i p9)))), (1, .int (iZ 1)), (7, .int (iZ (q_lv σ.1 i p9))), (6, .int (iZ (p9 : Int))), (5, .int (iZ (q_fr σ.1 i))), (3, .int (iZ (i : Int))), (2, .int (iZ (q_nd σ.1))), (0, .ref (gad G 152))]) hx hb dL_scores_117 hl (by decide) rfl (fun ls hl => ?_)
                refine z_iinc (z := ((p9 : Int) + 1)) (lv' := [(6, .int (iZ ((p9 : Int) + 1))), (4, .int (iZ ((q_sm (q_lv σ.1 i) p9) + (q_lv σ.1 i p9)))), (1, .int (iZ 1)), (7, .int (iZ (q_lv σ.1 i p9))), (5, .int (iZ (q_fr σ.1 i))), (3, .int (iZ (i : Int))), (2, .int (iZ (q_nd σ.1))), (0, .ref (gad G 152))]) hx hb dL_scores_119 hl (k := 3) rfl (by omega) (by decide) rfl (fun ls hl => ?_)
                refine lv_goto (tgt := 29) hx hb dL_scores_122 (by decide) ?_
                refine W.widen (k := 1 + 20 * i + 1 + 2 * (p9 + 1)) (n := 6 * (1 + 20 * i + 1 + 2 * (p9 + 1))) (by omega) (by omega) ?_
                exact ih_29 (p9 + 1) ((p9 : Int) + 1) ((q_sm (q_lv σ.1 i) p9) + (q_lv σ.1 i p9)) (by omega) rfl (by omega) (by omega) _ _ _ hG (lv_sub hl [0, 4, 1, 5, 6, 2, 7] rfl)
              refine lv_iload_n hx hb dL_scores_48 rfl (lv_at hl 6 rfl) ?_
              refine lv_aload_n hx hb dL_scores_49 rfl (lv_at hl 7 rfl) ?_
              refine lv_iload_n hx hb dL_scores_50 rfl (lv_at hl 4 rfl) ?_
              refine lv_iconst (v := iZ 3) hx hb dL_scores_51 rfl ?_
              refine g_cL (As := [.ref (gad G 152), .int (iZ (i : Int)), .int (iZ 3)]) (rest := [.int (iZ 1)]) (1 + 20 * i + 1 + 2 * p9 + 2) ⟨hx, hb, hml, hown, hts⟩ (c_L_dog l hl0 G hdm M0 σ hσ (i : Int) (by omega) 3 (by omega)) (va_cwS 3 hts gA_scores_L_dog rfl rfl rfl (by decide +kernel) ⟨Nat.le_of_ble_eq_true rfl, Nat.le_of_ble_eq_true rfl⟩) hG rfl hl.1 rfl (Nat.le_of_ble_eq_true rfl) dL_scores_52 ⟨by omega, by omega⟩ ⟨by dsimp only; omega, by dsimp only; omega⟩ (fun z27 K28 H locs hp_52 hG => ?_)
              obtain ⟨hz_52, hK_52⟩ := hp_52
              replace hz_52 := hz_52.trans (a_dog_3 (σ := σ) (i := i) (by omega))
              replace hz_52 := hz_52.symm; subst hz_52; replace hK_52 := hK_52.symm; subst hK_52
              refine z_if_ne (tgt := 73) hx hb (by omega) dL_scores_55 (by decide) (fun c_55 => ?_) (fun c_55 => ?_)
              · skip
                have hlv := lv_hs (R := σ.1) (i := i) (by omega) p9
                have hlo9 := lo_in (hσ.1.1.2.1 i (by omega)) (p := p9) (by omega)
                refine lv_iload hx hb dL_scores_73 (lv_at hl 0 rfl) ?_
                refine z_if_lt (tgt := 109) hx hb (by omega) dL_scores_75 (by decide) (fun c_75 => ?_) (fun c_75 => ?_)
                · exfalso; omega
                · skip
                  refine lv_iload hx hb dL_scores_78 (lv_at hl 0 rfl) ?_
                  refine lv_iload hx hb dL_scores_80 (lv_at hl 1 rfl) ?_
                  refine g_cL (As := [.int (iZ (p9 : Int))]) (rest := [.int (iZ (q_lv σ.1 i p9)), .int (iZ 1)]) (1 + 20 * i + 1 + 2 * p9 + 2) ⟨hx, hb, hml, hown, hts⟩ (c_L_worth l hl0 G hdm M0 (kS σ) p9 (by omega)) (va_cwS 1 hts gA_scores_L_worth rfl rfl rfl (by decide +kernel) ⟨Nat.le_of_ble_eq_true rfl, Nat.le_of_ble_eq_true rfl⟩) hG rfl hl.1 rfl (Nat.le_of_ble_eq_true rfl) dL_scores_82 ⟨by omega, by omega⟩ ⟨by dsimp only; omega, by dsimp only; omega⟩ (fun z29 K30 H locs hp_82 hG => ?_)
                  obtain ⟨hz_82, hK_82⟩ := hp_82
                  replace hz_82 := hz_82.symm; subst hz_82; replace hK_82 := hK_82.symm; subst hK_82
                  refine z_icmp_gt (tgt := 109) hx hb (by omega) (by omega) dL_scores_85 (by decide) (fun c_85 => ?_) (fun c_85 => ?_)
                  · exfalso; omega
                  · skip
                    refine lv_iload hx hb dL_scores_88 (lv_at hl 1 rfl) ?_
                    refine lv_iload hx hb dL_scores_90 (lv_at hl 2 rfl) ?_
                    refine z_icmp_lt (tgt := 105) hx hb (by omega) (by omega) dL_scores_92 (by decide) (fun c_92 => ?_) (fun c_92 => ?_)
                    · skip
                      refine lv_iconst (v := iZ 1) hx hb dL_scores_105 rfl ?_
                      refine lv_goto (tgt := 110) hx hb dL_scores_106 (by decide) ?_
                      refine W.widen (k := 1 + 20 * i + 1 + 2 * p9 + 2) (n := 6 * (1 + 20 * i + 1 + 2 * p9 + 2)) (by omega) (by omega) ?_
                      exact J_110  _ _ _ hG (lv_sub hl [0, 1, 2, 3, 4, 5, 6, 7] rfl)
                    · skip
                      refine lv_iload hx hb dL_scores_95 (lv_at hl 0 rfl) ?_
                      refine lv_iload hx hb dL_scores_97 (lv_at hl 1 rfl) ?_
                      refine g_cL (As := [.int (iZ (p9 : Int))]) (rest := [.int (iZ (q_lv σ.1 i p9)), .int (iZ 1)]) (1 + 20 * i + 1 + 2 * p9 + 2) ⟨hx, hb, hml, hown, hts⟩ (c_L_worth l hl0 G hdm M0 (kS σ) p9 (by omega)) (va_cwS 1 hts gA_scores_L_worth rfl rfl rfl (by decide +kernel) ⟨Nat.le_of_ble_eq_true rfl, Nat.le_of_ble_eq_true rfl⟩) hG rfl hl.1 rfl (Nat.le_of_ble_eq_true rfl) dL_scores_99 ⟨by omega, by omega⟩ ⟨by dsimp only; omega, by dsimp only; omega⟩ (fun z31 K32 H locs hp_99 hG => ?_)
                      obtain ⟨hz_99, hK_99⟩ := hp_99
                      replace hz_99 := hz_99.symm; subst hz_99; replace hK_99 := hK_99.symm; subst hK_99
                      refine z_icmp_ne (tgt := 109) hx hb (by omega) (by omega) dL_scores_102 (by decide) (fun c_102 => ?_) (fun c_102 => ?_)
                      · exfalso; apply c_102; rw [hlv]; unfold q_lo; exact if_pos (by omega)
                      · skip
                        refine lv_iconst (v := iZ 1) hx hb dL_scores_105 rfl ?_
                        refine lv_goto (tgt := 110) hx hb dL_scores_106 (by decide) ?_
                        refine W.widen (k := 1 + 20 * i + 1 + 2 * p9 + 2) (n := 6 * (1 + 20 * i + 1 + 2 * p9 + 2)) (by omega) (by omega) ?_
                        exact J_110  _ _ _ hG (lv_sub hl [0, 1, 2, 3, 4, 5, 6, 7] rfl)
              · skip
                refine lv_iload hx hb dL_scores_58 (lv_at hl 0 rfl) ?_
                refine lv_bipush (v := iZ (-9)) hx hb dL_scores_60 (by decide) ?_
                refine z_icmp_ne (tgt := 69) hx hb (by omega) (by decide) dL_scores_62 (by decide) (fun c_62 => ?_) (fun c_62 => ?_)
                · exfalso; apply c_62; unfold q_lv; rw [if_neg (by omega)]
                · skip
                  refine lv_iconst (v := iZ 1) hx hb dL_scores_65 rfl ?_
                  refine lv_goto (tgt := 110) hx hb dL_scores_66 (by decide) ?_
                  refine W.widen (k := 1 + 20 * i + 1 + 2 * p9 + 2) (n := 6 * (1 + 20 * i + 1 + 2 * p9 + 2)) (by omega) (by omega) ?_
                  exact J_110  _ _ _ hG (lv_sub hl [0, 1, 2, 3, 4, 5, 6, 7] rfl)
        refine W.widen (k := 1 + 20 * i + 1 + 2 * 0) (n := 6 * (1 + 20 * i + 1 + 2 * 0)) (by omega) (by omega) ?_
        exact L_29 _ 0 0 0 rfl rfl (by omega) (Nat.lt_succ_self _) _ _ _ hG (lv_sub hl [0, 1, 2, 3, 4, 5, 6] rfl)
  refine W.widen (k := 1 + 20 * 0) (n := 6 * (1 + 20 * 0)) (by omega) (by omega) ?_
  exact L_10 _ 0 0 rfl (by omega) (Nat.lt_succ_self _) _ _ _ hG (lv_sub hl [0, 1, 2, 3] rfl)
