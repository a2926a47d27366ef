set_option maxHeartbeats 4000000 in
set_option maxRecDepth 100000 in
theorem law_k0 {p : Program} {l : Launch} {e : Env} {s : State} {m : MethodId} {below : List Frame} {meth : Method} {c : Code} {H : Heap} {locs : List Loc} {cells slots : Nat} {Q : State → Prop} {ls : Array Slot} {G : gG} {M : Nat → Nat → Int} {b L : Nat} {xs : Nat → Int32} (C : lw_C p l s m meth c G b L xs) {i o n tn : Nat} (hi : i + 4 ≤ L) (hJ : q_J M o n tn) (hG : gH G M s H locs) (hl : lv_has ls 7 (lw_ls b G i)) (hf : cells + 1 ≤ room_1.cells ∧ slots + 6 ≤ room_1.slots) (K : ∀ (M1 : Nat → Nat → Int) (H1 : Heap) (locs1 : List Loc) (ls1 : Array Slot), (∃ o n tn, q_J M1 o n tn) → gH G M1 s H1 locs1 → lv_has ls1 7 (lw_ls b G i) → W p l e room_1 s m #[Value.ref b] below meth c H1 locs1 (cells + 1) (slots + 6) Q (F0 m 1680 ls1 [])) : W p l e room_1 s m #[Value.ref b] below meth c H locs cells slots Q (F0 m 160 ls []) := by
  obtain ⟨hx, hb, hr, hml, hown, hts0, hX, hbl, hlocks, hgv⟩ := id C.1
  have hts := lw_hts C.1
  obtain ⟨-, hl0, hdm, hXt, hbA, hL⟩ := id C
  obtain ⟨⟨ho, hn, htn⟩, ⟨hR, hPk⟩, ⟨hm1, hm2, hm8⟩, hdi, hke, ⟨ht1, ht2, htx, hch⟩, hbo⟩ := id hJ
  have hl : lv_has ls 7 [(4, .int (iZ (i : Int))), (3, .ref (gad G 178)), (2, .ref (gad G 169)), (1, .ref (gad G 152)), (0, .ref b)] := hl
  obtain ⟨a0, e0, r0⟩ : ∃ z : Int, xs (i + 1) = iZ z ∧ (-2147483648 ≤ z ∧ z < 2147483648) := ⟨_, (iZ_of _).symm, lw_r32 _⟩
  refine lv_aload_n hx hb dL_law_160 rfl (lv_at hl 3 rfl) ?_
  refine law_arg C hG i (j := 1) (jn := 1) (by omega) rfl (lv_at hl 4 rfl) (lv_at hl 0 rfl) dL_law_161 dL_law_162 dL_law_164 dL_law_165 dL_law_166 ?_
  rw [e0]
  refine lv_aload_n hx hb dL_law_167 rfl (lv_at hl 1 rfl) ?_
  refine g_callW (As := [.ref (gad G 152), .int (iZ a0), .ref (gad G 178)]) (rest := []) ⟨hx, hb, hml, hown, hts⟩ (c_L_append l G M hl0 hdm tn htn ht1 a0 r0) (vx_cwSW 3 hts gL_law_L_append rfl rfl rfl (by decide +kernel) ⟨Nat.le_of_ble_eq_true rfl, Nat.le_of_ble_eq_true rfl⟩) hXt hG rfl hl.1 rfl (Nat.le_of_ble_eq_true rfl) dL_law_168 hf (fun z1 M1 H locs hp1 hG => ?_)
  have hmd : q_mid M M1 := q_mid.of (fun z9 Mx h a h1 h2 => by rw [h.2.2, wr_off _ _ _ (by omega), wr_off _ _ _ (by omega)]) hp1.2
  have hz : 0 ≤ z1 ∧ z1 ≤ 3 := by rw [hp1.1]; (repeat' split) <;> decide
  refine lv_istore (lv' := [(5, .int (iZ z1)), (4, .int (iZ (i : Int))), (3, .ref (gad G 178)), (2, .ref (gad G 169)), (1, .ref (gad G 152)), (0, .ref b)]) hx hb dL_law_171 hl (by decide) rfl (fun ls hl => ?_)
  refine lv_aload_n hx hb dL_law_173 rfl (lv_at hl 3 rfl) ?_
  refine law_arg C hG i (j := 1) (jn := 1) (by omega) rfl (lv_at hl 5 rfl) (lv_at hl 1 rfl) dL_law_174 dL_law_175 dL_law_177 dL_law_178 dL_law_179 ?_
  rw [e0]
  refine g_callV (b := 169) (As := [.int (iZ a0)]) (rest := []) ⟨hx, hb, hml, hown, hts⟩ (c_X6_append l G M1 hdm tn htn (by rw [hmd 169 (by decide) (by decide)]; exact ht2) a0 r0) (cwV 1 hts gL_law_X6_append rfl rfl rfl (by decide +kernel) ⟨Nat.le_of_ble_eq_true rfl, Nat.le_of_ble_eq_true rfl⟩) hG (g_recv hG (b := 169) (hdm 169 (by decide)) rfl rfl) rfl hl.1 rfl (Nat.le_of_ble_eq_true rfl) dL_law_180 hf (fun z2 M2 H locs hp2 hG => ?_)
  exact law_tail C hf ⟨Nat.le_of_ble_eq_true rfl, Nat.le_of_ble_eq_true rfl⟩ hG hl hz (lw_app hJ cd_app hp1 hp2) dL_law_183 dL_law_185 dL_law_186 dL_law_189 dL_law_191 dL_law_196 dL_law_198 dL_law_201 dL_law_202 dL_law_203 dL_law_204 dL_law_206 dL_law_207 dL_law_208 dL_law_213 (by decide) K
set_option maxHeartbeats 4000000 in
set_option maxRecDepth 100000 in
theorem law_k1 {p : Program} {l : Launch} {e : Env} {s : State} {m : MethodId} {below : List Frame} {meth : Method} {c : Code} {H : Heap} {locs : List Loc} {cells slots : Nat} {Q : State → Prop} {ls : Array Slot} {G : gG} {M : Nat → Nat → Int} {b L : Nat} {xs : Nat → Int32} (C : lw_C p l s m meth c G b L xs) {i o n tn : Nat} (hi : i + 4 ≤ L) (hJ : q_J M o n tn) (hG : gH G M s H locs) (hl : lv_has ls 7 (lw_ls b G i)) (hf : cells + 1 ≤ room_1.cells ∧ slots + 6 ≤ room_1.slots) (K : ∀ (M1 : Nat → Nat → Int) (H1 : Heap) (locs1 : List Loc) (ls1 : Array Slot), (∃ o n tn, q_J M1 o n tn) → gH G M1 s H1 locs1 → lv_has ls1 7 (lw_ls b G i) → W p l e room_1 s m #[Value.ref b] below meth c H1 locs1 (cells + 1) (slots + 6) Q (F0 m 1680 ls1 [])) : W p l e room_1 s m #[Value.ref b] below meth c H locs cells slots Q (F0 m 216 ls []) := by
  obtain ⟨hx, hb, hr, hml, hown, hts0, hX, hbl, hlocks, hgv⟩ := id C.1
  have hts := lw_hts C.1
  obtain ⟨-, hl0, hdm, hXt, hbA, hL⟩ := id C
  obtain ⟨⟨ho, hn, htn⟩, ⟨hR, hPk⟩, ⟨hm1, hm2, hm8⟩, hdi, hke, ⟨ht1, ht2, htx, hch⟩, hbo⟩ := id hJ
  have hl : lv_has ls 7 [(4, .int (iZ (i : Int))), (3, .ref (gad G 178)), (2, .ref (gad G 169)), (1, .ref (gad G 152)), (0, .ref b)] := hl
  refine lv_aload_n hx hb dL_law_216 rfl (lv_at hl 3 rfl) ?_
  refine g_callV (b := 152) (As := []) (rest := []) ⟨hx, hb, hml, hown, hts⟩ (c_X5_clearText l G M hdm tn htn ht1) (cwV 0 hts gL_law_X5_clearText rfl rfl rfl (by decide +kernel) ⟨Nat.le_of_ble_eq_true rfl, Nat.le_of_ble_eq_true rfl⟩) hG (g_recv hG (b := 152) (hdm 152 (by decide)) rfl rfl) rfl hl.1 rfl (Nat.le_of_ble_eq_true rfl) dL_law_217 ⟨by omega, by omega⟩ (fun z1 M1 H locs hp1 hG => ?_)
  have hmd : q_mid M M1 := fun a h1 h2 => by rw [hp1.2]; exact wr_off _ _ _ (by omega)
  refine lv_aload_n hx hb dL_law_220 rfl (lv_at hl 2 rfl) ?_
  refine g_callV (b := 169) (As := []) (rest := [.int (iZ z1)]) ⟨hx, hb, hml, hown, hts⟩ (c_X6_clearText l G M1 hdm tn htn (by rw [hmd 169 (by decide) (by decide)]; exact ht2)) (cwV 0 hts gL_law_X6_clearText rfl rfl rfl (by decide +kernel) ⟨Nat.le_of_ble_eq_true rfl, Nat.le_of_ble_eq_true rfl⟩) hG (g_recv hG (b := 169) (hdm 169 (by decide)) rfl rfl) rfl hl.1 rfl (Nat.le_of_ble_eq_true rfl) dL_law_221 ⟨by omega, by omega⟩ (fun z2 M2 H locs hp2 hG => ?_)
  obtain ⟨hz, hJ2⟩ := lw_clr hJ hp1 hp2
  refine lv_icmp_eq (tgt := 1680) hx hb dL_law_224 (by decide) (fun _ => ?_) (fun h9 => absurd (by rw [hz]) h9)
  refine W.widen (k := cells + 1) (n := slots + 6) (by omega) (by omega) ?_
  exact K M2 H locs ls hJ2 hG hl
set_option maxHeartbeats 4000000 in
set_option maxRecDepth 100000 in
theorem law_k2 {p : Program} {l : Launch} {e : Env} {s : State} {m : MethodId} {below : List Frame} {meth : Method} {c : Code} {H : Heap} {locs : List Loc} {cells slots : Nat} {Q : State → Prop} {ls : Array Slot} {G : gG} {M : Nat → Nat → Int} {b L : Nat} {xs : Nat → Int32} (C : lw_C p l s m meth c G b L xs) {i o n tn : Nat} (hi : i + 4 ≤ L) (hJ : q_J M o n tn) (hG : gH G M s H locs) (hl : lv_has ls 7 (lw_ls b G i)) (hf : cells + 1 ≤ room_1.cells ∧ slots + 6 ≤ room_1.slots) (K : ∀ (M1 : Nat → Nat → Int) (H1 : Heap) (locs1 : List Loc) (ls1 : Array Slot), (∃ o n tn, q_J M1 o n tn) → gH G M1 s H1 locs1 → lv_has ls1 7 (lw_ls b G i) → W p l e room_1 s m #[Value.ref b] below meth c H1 locs1 (cells + 1) (slots + 6) Q (F0 m 1680 ls1 [])) : W p l e room_1 s m #[Value.ref b] below meth c H locs cells slots Q (F0 m 229 ls []) := by
  obtain ⟨hx, hb, hr, hml, hown, hts0, hX, hbl, hlocks, hgv⟩ := id C.1
  have hts := lw_hts C.1
  obtain ⟨-, hl0, hdm, hXt, hbA, hL⟩ := id C
  obtain ⟨⟨ho, hn, htn⟩, ⟨hR, hPk⟩, ⟨hm1, hm2, hm8⟩, hdi, hke, ⟨ht1, ht2, htx, hch⟩, hbo⟩ := id hJ
  have hl : lv_has ls 7 [(4, .int (iZ (i : Int))), (3, .ref (gad G 178)), (2, .ref (gad G 169)), (1, .ref (gad G 152)), (0, .ref b)] := hl
  refine lv_aload_n hx hb dL_law_229 rfl (lv_at hl 3 rfl) ?_
  refine g_callV (b := 152) (As := []) (rest := []) ⟨hx, hb, hml, hown, hts⟩ (c_X5_errorPosition l G M hdm (M 168) tn htn rfl ht1 hch hbo) (cwV 0 hts gL_law_X5_errorPosition rfl rfl rfl (by decide +kernel) ⟨Nat.le_of_ble_eq_true rfl, Nat.le_of_ble_eq_true rfl⟩) hG (g_recv hG (b := 152) (hdm 152 (by decide)) rfl rfl) rfl hl.1 rfl (Nat.le_of_ble_eq_true rfl) dL_law_230 ⟨by omega, by omega⟩ (fun z1 M1 H locs hp1 hG => ?_)
  have hmd : q_mid M M1 := q_mid.cs hp1.2
  refine lv_aload_n hx hb dL_law_233 rfl (lv_at hl 2 rfl) ?_
  refine g_callV (b := 169) (As := []) (rest := [.int (iZ z1)]) ⟨hx, hb, hml, hown, hts⟩ (c_X6_errorPosition l G M1 hdm (M 168) tn htn (by rw [hmd 170 (by decide) (by decide)]; exact htx.symm) (by rw [hmd 169 (by decide) (by decide)]; exact ht2) hch) (cwV 0 hts gL_law_X6_errorPosition rfl rfl rfl (by decide +kernel) ⟨Nat.le_of_ble_eq_true rfl, Nat.le_of_ble_eq_true rfl⟩) hG (g_recv hG (b := 169) (hdm 169 (by decide)) rfl rfl) rfl hl.1 rfl (Nat.le_of_ble_eq_true rfl) dL_law_234 ⟨by omega, by omega⟩ (fun z2 M2 H locs hp2 hG => ?_)
  obtain ⟨hz, hJ2⟩ := lw_0 hJ hp1 hp2
  refine lv_icmp_eq (tgt := 1680) hx hb dL_law_237 (by decide) (fun _ => ?_) (fun h9 => absurd (by rw [hz]) h9)
  refine W.widen (k := cells + 1) (n := slots + 6) (by omega) (by omega) ?_
  exact K M2 H locs ls hJ2 hG hl
set_option maxHeartbeats 4000000 in
set_option maxRecDepth 100000 in
theorem law_k3 {p : Program} {l : Launch} {e : Env} {s : State} {m : MethodId} {below : List Frame} {meth : Method} {c : Code} {H : Heap} {locs : List Loc} {cells slots : Nat} {Q : State → Prop} {ls : Array Slot} {G : gG} {M : Nat → Nat → Int} {b L : Nat} {xs : Nat → Int32} (C : lw_C p l s m meth c G b L xs) {i o n tn : Nat} (hi : i + 4 ≤ L) (hJ : q_J M o n tn) (hG : gH G M s H locs) (hl : lv_has ls 7 (lw_ls b G i)) (hf : cells + 1 ≤ room_1.cells ∧ slots + 6 ≤ room_1.slots) (K : ∀ (M1 : Nat → Nat → Int) (H1 : Heap) (locs1 : List Loc) (ls1 : Array Slot), (∃ o n tn, q_J M1 o n tn) → gH G M1 s H1 locs1 → lv_has ls1 7 (lw_ls b G i) → W p l e room_1 s m #[Value.ref b] below meth c H1 locs1 (cells + 1) (slots + 6) Q (F0 m 1680 ls1 [])) : W p l e room_1 s m #[Value.ref b] below meth c H locs cells slots Q (F0 m 242 ls []) := by
  obtain ⟨hx, hb, hr, hml, hown, hts0, hX, hbl, hlocks, hgv⟩ := id C.1
  have hts := lw_hts C.1
  obtain ⟨-, hl0, hdm, hXt, hbA, hL⟩ := id C
  obtain ⟨⟨ho, hn, htn⟩, ⟨hR, hPk⟩, ⟨hm1, hm2, hm8⟩, hdi, hke, ⟨ht1, ht2, htx, hch⟩, hbo⟩ := id hJ
  have hl : lv_has ls 7 [(4, .int (iZ (i : Int))), (3, .ref (gad G 178)), (2, .ref (gad G 169)), (1, .ref (gad G 152)), (0, .ref b)] := hl
  refine lv_aload_n hx hb dL_law_242 rfl (lv_at hl 3 rfl) ?_
  refine lv_aload_n hx hb dL_law_243 rfl (lv_at hl 1 rfl) ?_
  refine g_callW (As := [.ref (gad G 152), .ref (gad G 178)]) (rest := []) ⟨hx, hb, hml, hown, hts⟩ (c_L_load l G M hl0 hdm (M 168) tn htn rfl ht1 hch hbo) (vx_cwSW 2 hts gL_law_L_load rfl rfl rfl (by decide +kernel) ⟨Nat.le_of_ble_eq_true rfl, Nat.le_of_ble_eq_true rfl⟩) hXt hG rfl hl.1 rfl (Nat.le_of_ble_eq_true rfl) dL_law_244 hf (fun z1 M1 H locs hp1 hG => ?_)
  have hmd : q_mid M M1 := q_mid.of md_lod hp1.2
  have hz : 0 ≤ z1 ∧ z1 ≤ 3 := by rw [hp1.1]; (repeat' split) <;> decide
  refine lv_istore (lv' := [(5, .int (iZ z1)), (4, .int (iZ (i : Int))), (3, .ref (gad G 178)), (2, .ref (gad G 169)), (1, .ref (gad G 152)), (0, .ref b)]) hx hb dL_law_247 hl (by decide) rfl (fun ls hl => ?_)
  refine lv_aload_n hx hb dL_law_249 rfl (lv_at hl 3 rfl) ?_
  refine g_callV (b := 169) (As := []) (rest := []) ⟨hx, hb, hml, hown, hts⟩ (c_X6_load l G M1 hdm (M 168) tn htn (by rw [hmd 170 (by decide) (by decide)]; exact htx.symm) (by rw [hmd 169 (by decide) (by decide)]; exact ht2) hch) (cwV 0 hts gL_law_X6_load rfl rfl rfl (by decide +kernel) ⟨Nat.le_of_ble_eq_true rfl, Nat.le_of_ble_eq_true rfl⟩) hG (g_recv hG (b := 169) (hdm 169 (by decide)) rfl rfl) rfl hl.1 rfl (Nat.le_of_ble_eq_true rfl) dL_law_250 hf (fun z2 M2 H locs hp2 hG => ?_)
  exact law_tail C hf ⟨Nat.le_of_ble_eq_true rfl, Nat.le_of_ble_eq_true rfl⟩ hG hl hz (lw_lod hJ pk_lod hp1 hp2) dL_law_253 dL_law_255 dL_law_256 dL_law_259 dL_law_261 dL_law_266 dL_law_268 dL_law_271 dL_law_272 dL_law_273 dL_law_274 dL_law_276 dL_law_277 dL_law_278 dL_law_283 (by decide) K
set_option maxHeartbeats 4000000 in
set_option maxRecDepth 100000 in
theorem law_k4 {p : Program} {l : Launch} {e : Env} {s : State} {m : MethodId} {below : List Frame} {meth : Method} {c : Code} {H : Heap} {locs : List Loc} {cells slots : Nat} {Q : State → Prop} {ls : Array Slot} {G : gG} {M : Nat → Nat → Int} {b L : Nat} {xs : Nat → Int32} (C : lw_C p l s m meth c G b L xs) {i o n tn : Nat} (hi : i + 4 ≤ L) (hJ : q_J M o n tn) (hG : gH G M s H locs) (hl : lv_has ls 7 (lw_ls b G i)) (hf : cells + 1 ≤ room_1.cells ∧ slots + 6 ≤ room_1.slots) (K : ∀ (M1 : Nat → Nat → Int) (H1 : Heap) (locs1 : List Loc) (ls1 : Array Slot), (∃ o n tn, q_J M1 o n tn) → gH G M1 s H1 locs1 → lv_has ls1 7 (lw_ls b G i) → W p l e room_1 s m #[Value.ref b] below meth c H1 locs1 (cells + 1) (slots + 6) Q (F0 m 1680 ls1 [])) : W p l e room_1 s m #[Value.ref b] below meth c H locs cells slots Q (F0 m 286 ls []) := by
  obtain ⟨hx, hb, hr, hml, hown, hts0, hX, hbl, hlocks, hgv⟩ := id C.1
  have hts := lw_hts C.1
  obtain ⟨-, hl0, hdm, hXt, hbA, hL⟩ := id C
  obtain ⟨⟨ho, hn, htn⟩, ⟨hR, hPk⟩, ⟨hm1, hm2, hm8⟩, hdi, hke, ⟨ht1, ht2, htx, hch⟩, hbo⟩ := id hJ
  have hl : lv_has ls 7 [(4, .int (iZ (i : Int))), (3, .ref (gad G 178)), (2, .ref (gad G 169)), (1, .ref (gad G 152)), (0, .ref b)] := hl
  obtain ⟨a0, e0, r0⟩ : ∃ z : Int, xs (i + 1) = iZ z ∧ (-2147483648 ≤ z ∧ z < 2147483648) := ⟨_, (iZ_of _).symm, lw_r32 _⟩
  refine lv_aload_n hx hb dL_law_286 rfl (lv_at hl 3 rfl) ?_
  refine law_arg C hG i (j := 1) (jn := 1) (by omega) rfl (lv_at hl 4 rfl) (lv_at hl 0 rfl) dL_law_287 dL_law_288 dL_law_290 dL_law_291 dL_law_292 ?_
  rw [e0]
  refine lv_aload_n hx hb dL_law_293 rfl (lv_at hl 1 rfl) ?_
  refine g_callW (As := [.ref (gad G 152), .int (iZ a0), .ref (gad G 178)]) (rest := []) ⟨hx, hb, hml, hown, hts⟩ (c_L_about l G M hl0 hdm (M 172) hR hPk.1 a0 r0) (vx_cwSW 3 hts gL_law_L_about rfl rfl rfl (by decide +kernel) ⟨Nat.le_of_ble_eq_true rfl, Nat.le_of_ble_eq_true rfl⟩) hXt hG rfl hl.1 rfl (Nat.le_of_ble_eq_true rfl) dL_law_294 hf (fun z1 M1 H locs hp1 hG => ?_)
  have hmd : q_mid M M1 := q_mid.of md_cs hp1.2
  have hz : 0 ≤ z1 ∧ z1 ≤ 3 := by rw [hp1.1]; (repeat' split) <;> decide
  refine lv_istore (lv' := [(5, .int (iZ z1)), (4, .int (iZ (i : Int))), (3, .ref (gad G 178)), (2, .ref (gad G 169)), (1, .ref (gad G 152)), (0, .ref b)]) hx hb dL_law_297 hl (by decide) rfl (fun ls hl => ?_)
  refine lv_aload_n hx hb dL_law_299 rfl (lv_at hl 3 rfl) ?_
  refine law_arg C hG i (j := 1) (jn := 1) (by omega) rfl (lv_at hl 5 rfl) (lv_at hl 1 rfl) dL_law_300 dL_law_301 dL_law_303 dL_law_304 dL_law_305 ?_
  rw [e0]
  refine g_callV (b := 169) (As := [.int (iZ a0)]) (rest := []) ⟨hx, hb, hml, hown, hts⟩ (c_X6_about l G M1 hdm (M 172) (hmd 172 (by decide) (by decide)) hPk.1 a0 r0) (cwV 1 hts gL_law_X6_about rfl rfl rfl (by decide +kernel) ⟨Nat.le_of_ble_eq_true rfl, Nat.le_of_ble_eq_true rfl⟩) hG (g_recv hG (b := 169) (hdm 169 (by decide)) rfl rfl) rfl hl.1 rfl (Nat.le_of_ble_eq_true rfl) dL_law_306 hf (fun z2 M2 H locs hp2 hG => ?_)
  exact law_tail C hf ⟨Nat.le_of_ble_eq_true rfl, Nat.le_of_ble_eq_true rfl⟩ hG hl hz (lw_q hJ hp1 hp2) dL_law_309 dL_law_311 dL_law_312 dL_law_315 dL_law_317 dL_law_322 dL_law_324 dL_law_327 dL_law_328 dL_law_329 dL_law_330 dL_law_332 dL_law_333 dL_law_334 dL_law_339 (by decide) K
set_option maxHeartbeats 4000000 in
set_option maxRecDepth 100000 in
theorem law_k5 {p : Program} {l : Launch} {e : Env} {s : State} {m : MethodId} {below : List Frame} {meth : Method} {c : Code} {H : Heap} {locs : List Loc} {cells slots : Nat} {Q : State → Prop} {ls : Array Slot} {G : gG} {M : Nat → Nat → Int} {b L : Nat} {xs : Nat → Int32} (C : lw_C p l s m meth c G b L xs) {i o n tn : Nat} (hi : i + 4 ≤ L) (hJ : q_J M o n tn) (hG : gH G M s H locs) (hl : lv_has ls 7 (lw_ls b G i)) (hf : cells + 1 ≤ room_1.cells ∧ slots + 6 ≤ room_1.slots) (K : ∀ (M1 : Nat → Nat → Int) (H1 : Heap) (locs1 : List Loc) (ls1 : Array Slot), (∃ o n tn, q_J M1 o n tn) → gH G M1 s H1 locs1 → lv_has ls1 7 (lw_ls b G i) → W p l e room_1 s m #[Value.ref b] below meth c H1 locs1 (cells + 1) (slots + 6) Q (F0 m 1680 ls1 [])) : W p l e room_1 s m #[Value.ref b] below meth c H locs cells slots Q (F0 m 342 ls []) := by
  obtain ⟨hx, hb, hr, hml, hown, hts0, hX, hbl, hlocks, hgv⟩ := id C.1
  have hts := lw_hts C.1
  obtain ⟨-, hl0, hdm, hXt, hbA, hL⟩ := id C
  obtain ⟨⟨ho, hn, htn⟩, ⟨hR, hPk⟩, ⟨hm1, hm2, hm8⟩, hdi, hke, ⟨ht1, ht2, htx, hch⟩, hbo⟩ := id hJ
  have hl : lv_has ls 7 [(4, .int (iZ (i : Int))), (3, .ref (gad G 178)), (2, .ref (gad G 169)), (1, .ref (gad G 152)), (0, .ref b)] := hl
  obtain ⟨a0, e0, r0⟩ : ∃ z : Int, xs (i + 1) = iZ z ∧ (-2147483648 ≤ z ∧ z < 2147483648) := ⟨_, (iZ_of _).symm, lw_r32 _⟩
  obtain ⟨a1, e1, r1⟩ : ∃ z : Int, xs (i + 2) = iZ z ∧ (-2147483648 ≤ z ∧ z < 2147483648) := ⟨_, (iZ_of _).symm, lw_r32 _⟩
  refine lv_aload_n hx hb dL_law_342 rfl (lv_at hl 3 rfl) ?_
  refine law_arg C hG i (j := 1) (jn := 1) (by omega) rfl (lv_at hl 4 rfl) (lv_at hl 0 rfl) dL_law_343 dL_law_344 dL_law_346 dL_law_347 dL_law_348 ?_
  rw [e0]
  refine law_arg C hG i (j := 2) (jn := 2) (by omega) rfl (lv_at hl 4 rfl) (lv_at hl 0 rfl) dL_law_349 dL_law_350 dL_law_352 dL_law_353 dL_law_354 ?_
  rw [e1]
  refine lv_aload_n hx hb dL_law_355 rfl (lv_at hl 1 rfl) ?_
  refine g_callW (As := [.ref (gad G 152), .int (iZ a0), .int (iZ a1), .ref (gad G 178)]) (rest := []) ⟨hx, hb, hml, hown, hts⟩ (c_L_dog l G M hl0 hdm (M 172) hR hPk.1 a0 r0 a1 r1) (vx_cwSW 4 hts gL_law_L_dog rfl rfl rfl (by decide +kernel) ⟨Nat.le_of_ble_eq_true rfl, Nat.le_of_ble_eq_true rfl⟩) hXt hG rfl hl.1 rfl (Nat.le_of_ble_eq_true rfl) dL_law_356 hf (fun z1 M1 H locs hp1 hG => ?_)
  have hmd : q_mid M M1 := q_mid.of md_cs hp1.2
  have hz : 0 ≤ z1 ∧ z1 ≤ 3 := by rw [hp1.1]; (repeat' split) <;> decide
  refine lv_istore (lv' := [(5, .int (iZ z1)), (4, .int (iZ (i : Int))), (3, .ref (gad G 178)), (2, .ref (gad G 169)), (1, .ref (gad G 152)), (0, .ref b)]) hx hb dL_law_359 hl (by decide) rfl (fun ls hl => ?_)
  refine lv_aload_n hx hb dL_law_361 rfl (lv_at hl 3 rfl) ?_
  refine law_arg C hG i (j := 1) (jn := 1) (by omega) rfl (lv_at hl 5 rfl) (lv_at hl 1 rfl) dL_law_362 dL_law_363 dL_law_365 dL_law_366 dL_law_367 ?_
  rw [e0]
  refine law_arg C hG i (j := 2) (jn := 2) (by omega) rfl (lv_at hl 5 rfl) (lv_at hl 1 rfl) dL_law_368 dL_law_369 dL_law_371 dL_law_372 dL_law_373 ?_
  rw [e1]
  refine g_callV (b := 169) (As := [.int (iZ a0), .int (iZ a1)]) (rest := []) ⟨hx, hb, hml, hown, hts⟩ (c_X6_dog l G M1 hdm (M 172) (hmd 172 (by decide) (by decide)) hPk.1 a0 r0 a1 r1) (cwV 2 hts gL_law_X6_dog rfl rfl rfl (by decide +kernel) ⟨Nat.le_of_ble_eq_true rfl, Nat.le_of_ble_eq_true rfl⟩) hG (g_recv hG (b := 169) (hdm 169 (by decide)) rfl rfl) rfl hl.1 rfl (Nat.le_of_ble_eq_true rfl) dL_law_374 hf (fun z2 M2 H locs hp2 hG => ?_)
  exact law_tail C hf ⟨Nat.le_of_ble_eq_true rfl, Nat.le_of_ble_eq_true rfl⟩ hG hl hz (lw_q hJ hp1 hp2) dL_law_377 dL_law_379 dL_law_380 dL_law_383 dL_law_385 dL_law_390 dL_law_392 dL_law_395 dL_law_396 dL_law_397 dL_law_398 dL_law_400 dL_law_401 dL_law_402 dL_law_407 (by decide) K
set_option maxHeartbeats 4000000 in
set_option maxRecDepth 100000 in
theorem law_k6 {p : Program} {l : Launch} {e : Env} {s : State} {m : MethodId} {below : List Frame} {meth : Method} {c : Code} {H : Heap} {locs : List Loc} {cells slots : Nat} {Q : State → Prop} {ls : Array Slot} {G : gG} {M : Nat → Nat → Int} {b L : Nat} {xs : Nat → Int32} (C : lw_C p l s m meth c G b L xs) {i o n tn : Nat} (hi : i + 4 ≤ L) (hJ : q_J M o n tn) (hG : gH G M s H locs) (hl : lv_has ls 7 (lw_ls b G i)) (hf : cells + 1 ≤ room_1.cells ∧ slots + 6 ≤ room_1.slots) (K : ∀ (M1 : Nat → Nat → Int) (H1 : Heap) (locs1 : List Loc) (ls1 : Array Slot), (∃ o n tn, q_J M1 o n tn) → gH G M1 s H1 locs1 → lv_has ls1 7 (lw_ls b G i) → W p l e room_1 s m #[Value.ref b] below meth c H1 locs1 (cells + 1) (slots + 6) Q (F0 m 1680 ls1 [])) : W p l e room_1 s m #[Value.ref b] below meth c H locs cells slots Q (F0 m 410 ls []) := by
  obtain ⟨hx, hb, hr, hml, hown, hts0, hX, hbl, hlocks, hgv⟩ := id C.1
  have hts := lw_hts C.1
  obtain ⟨-, hl0, hdm, hXt, hbA, hL⟩ := id C
  obtain ⟨⟨ho, hn, htn⟩, ⟨hR, hPk⟩, ⟨hm1, hm2, hm8⟩, hdi, hke, ⟨ht1, ht2, htx, hch⟩, hbo⟩ := id hJ
  have hl : lv_has ls 7 [(4, .int (iZ (i : Int))), (3, .ref (gad G 178)), (2, .ref (gad G 169)), (1, .ref (gad G 152)), (0, .ref b)] := hl
  obtain ⟨a0, e0, r0⟩ : ∃ z : Int, xs (i + 1) = iZ z ∧ (-2147483648 ≤ z ∧ z < 2147483648) := ⟨_, (iZ_of _).symm, lw_r32 _⟩
  obtain ⟨a1, e1, r1⟩ : ∃ z : Int, xs (i + 2) = iZ z ∧ (-2147483648 ≤ z ∧ z < 2147483648) := ⟨_, (iZ_of _).symm, lw_r32 _⟩
  refine lv_aload_n hx hb dL_law_410 rfl (lv_at hl 3 rfl) ?_
  refine law_arg C hG i (j := 1) (jn := 1) (by omega) rfl (lv_at hl 4 rfl) (lv_at hl 0 rfl) dL_law_411 dL_law_412 dL_law_414 dL_law_415 dL_law_416 ?_
  rw [e0]
  refine law_arg C hG i (j := 2) (jn := 2) (by omega) rfl (lv_at hl 4 rfl) (lv_at hl 0 rfl) dL_law_417 dL_law_418 dL_law_420 dL_law_421 dL_law_422 ?_
  rw [e1]
  refine lv_aload_n hx hb dL_law_423 rfl (lv_at hl 1 rfl) ?_
  refine g_callW (As := [.ref (gad G 152), .int (iZ a0), .int (iZ a1), .ref (gad G 178)]) (rest := []) ⟨hx, hb, hml, hown, hts⟩ (c_L_lost l G M hl0 hdm (M 172) hR hPk.1 a0 r0 a1 r1) (vx_cwSW 4 hts gL_law_L_lost rfl rfl rfl (by decide +kernel) ⟨Nat.le_of_ble_eq_true rfl, Nat.le_of_ble_eq_true rfl⟩) hXt hG rfl hl.1 rfl (Nat.le_of_ble_eq_true rfl) dL_law_424 hf (fun z1 M1 H locs hp1 hG => ?_)
  have hmd : q_mid M M1 := q_mid.of md_cs hp1.2
  have hz : 0 ≤ z1 ∧ z1 ≤ 3 := by rw [hp1.1]; (repeat' split) <;> decide
  refine lv_istore (lv' := [(5, .int (iZ z1)), (4, .int (iZ (i : Int))), (3, .ref (gad G 178)), (2, .ref (gad G 169)), (1, .ref (gad G 152)), (0, .ref b)]) hx hb dL_law_427 hl (by decide) rfl (fun ls hl => ?_)
  refine lv_aload_n hx hb dL_law_429 rfl (lv_at hl 3 rfl) ?_
  refine law_arg C hG i (j := 1) (jn := 1) (by omega) rfl (lv_at hl 5 rfl) (lv_at hl 1 rfl) dL_law_430 dL_law_431 dL_law_433 dL_law_434 dL_law_435 ?_
  rw [e0]
  refine law_arg C hG i (j := 2) (jn := 2) (by omega) rfl (lv_at hl 5 rfl) (lv_at hl 1 rfl) dL_law_436 dL_law_437 dL_law_439 dL_law_440 dL_law_441 ?_
  rw [e1]
  refine g_callV (b := 169) (As := [.int (iZ a0), .int (iZ a1)]) (rest := []) ⟨hx, hb, hml, hown, hts⟩ (c_X6_lost l G M1 hdm (M 172) (hmd 172 (by decide) (by decide)) hPk.1 a0 r0 a1 r1) (cwV 2 hts gL_law_X6_lost rfl rfl rfl (by decide +kernel) ⟨Nat.le_of_ble_eq_true rfl, Nat.le_of_ble_eq_true rfl⟩) hG (g_recv hG (b := 169) (hdm 169 (by decide)) rfl rfl) rfl hl.1 rfl (Nat.le_of_ble_eq_true rfl) dL_law_442 hf (fun z2 M2 H locs hp2 hG => ?_)
  exact law_tail C hf ⟨Nat.le_of_ble_eq_true rfl, Nat.le_of_ble_eq_true rfl⟩ hG hl hz (lw_q hJ hp1 hp2) dL_law_445 dL_law_447 dL_law_448 dL_law_451 dL_law_453 dL_law_458 dL_law_460 dL_law_463 dL_law_464 dL_law_465 dL_law_466 dL_law_468 dL_law_469 dL_law_470 dL_law_475 (by decide) K
