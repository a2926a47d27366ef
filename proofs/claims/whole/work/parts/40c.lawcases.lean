set_option maxHeartbeats 4000000 in
set_option maxRecDepth 100000 in
theorem law_k14 {p : Program} {l : Launch} {e : Env} {s : State} {m : MethodId} {below : List Frame} {meth : Method} {c : Code} {H : Heap} {locs : List Loc} {cells slots : Nat} {Q : State → Prop} {ls : Array Slot} {G : gG} {M : Nat → Nat → Int} {b L : Nat} {xs : Nat → Int32} (C : lw_C p l s m meth c G b L xs) {i o n tn : Nat} (hi : i + 4 ≤ L) (hJ : q_J M o n tn) (hG : gH G M s H locs) (hl : lv_has ls 7 (lw_ls b G i)) (hf : cells + 1 ≤ room_1.cells ∧ slots + 6 ≤ room_1.slots) (K : ∀ (M1 : Nat → Nat → Int) (H1 : Heap) (locs1 : List Loc) (ls1 : Array Slot), (∃ o n tn, q_J M1 o n tn) → gH G M1 s H1 locs1 → lv_has ls1 7 (lw_ls b G i) → W p l e room_1 s m #[Value.ref b] below meth c H1 locs1 (cells + 1) (slots + 6) Q (F0 m 1680 ls1 [])) : W p l e room_1 s m #[Value.ref b] below meth c H locs cells slots Q (F0 m 938 ls []) := by
  obtain ⟨hx, hb, hr, hml, hown, hts0, hX, hbl, hlocks, hgv⟩ := id C.1
  have hts := lw_hts C.1
  obtain ⟨-, hl0, hdm, hXt, hbA, hL⟩ := id C
  obtain ⟨⟨ho, hn, htn⟩, ⟨hR, hPk⟩, ⟨hm1, hm2, hm8⟩, hdi, hke, ⟨ht1, ht2, htx, hch⟩, hbo⟩ := id hJ
  have hl : lv_has ls 7 [(4, .int (iZ (i : Int))), (3, .ref (gad G 178)), (2, .ref (gad G 169)), (1, .ref (gad G 152)), (0, .ref b)] := hl
  obtain ⟨a0, e0, r0⟩ : ∃ z : Int, xs (i + 1) = iZ z ∧ (-2147483648 ≤ z ∧ z < 2147483648) := ⟨_, (iZ_of _).symm, lw_r32 _⟩
  refine lv_aload_n hx hb dL_law_938 rfl (lv_at hl 3 rfl) ?_
  refine law_arg C hG i (j := 1) (jn := 1) (by omega) rfl (lv_at hl 4 rfl) (lv_at hl 0 rfl) dL_law_939 dL_law_940 dL_law_942 dL_law_943 dL_law_944 ?_
  rw [e0]
  refine lv_aload_n hx hb dL_law_945 rfl (lv_at hl 1 rfl) ?_
  refine g_callW (As := [.ref (gad G 152), .int (iZ a0), .ref (gad G 178)]) (rest := []) ⟨hx, hb, hml, hown, hts⟩ (c_L_nextDay l G M hl0 hdm (M 172) hR hPk.1 o n ho hn hm1 hm2 a0 r0) (vx_cwSW 3 hts gL_law_L_nextDay rfl rfl rfl (by decide +kernel) ⟨Nat.le_of_ble_eq_true rfl, Nat.le_of_ble_eq_true rfl⟩) hXt hG rfl hl.1 rfl (Nat.le_of_ble_eq_true rfl) dL_law_946 hf (fun z1 M1 H locs hp1 hG => ?_)
  have hmd : q_mid M M1 := q_mid.of md_act hp1.2
  have hz : 0 ≤ z1 ∧ z1 ≤ 3 := by rw [hp1.1]; (repeat' split) <;> decide
  refine lv_istore (lv' := [(5, .int (iZ z1)), (4, .int (iZ (i : Int))), (3, .ref (gad G 178)), (2, .ref (gad G 169)), (1, .ref (gad G 152)), (0, .ref b)]) hx hb dL_law_949 hl (by decide) rfl (fun ls hl => ?_)
  refine lv_aload_n hx hb dL_law_951 rfl (lv_at hl 3 rfl) ?_
  refine law_arg C hG i (j := 1) (jn := 1) (by omega) rfl (lv_at hl 5 rfl) (lv_at hl 1 rfl) dL_law_952 dL_law_953 dL_law_955 dL_law_956 dL_law_957 ?_
  rw [e0]
  refine g_callV (b := 169) (As := [.int (iZ a0)]) (rest := []) ⟨hx, hb, hml, hown, hts⟩ (c_X6_nextDay l G M1 hdm (M 172) (hmd 172 (by decide) (by decide)) hPk.1 n hn (by rw [hmd 169 (by decide) (by decide)]; exact hm8) a0 r0) (cwV 1 hts gL_law_X6_nextDay rfl rfl rfl (by decide +kernel) ⟨Nat.le_of_ble_eq_true rfl, Nat.le_of_ble_eq_true rfl⟩) hG (g_recv hG (b := 169) (hdm 169 (by decide)) rfl rfl) rfl hl.1 rfl (Nat.le_of_ble_eq_true rfl) dL_law_958 hf (fun z2 M2 H locs hp2 hG => ?_)
  exact law_tail C hf ⟨Nat.le_of_ble_eq_true rfl, Nat.le_of_ble_eq_true rfl⟩ hG hl hz (lw_a hJ hp1 hp2 (pk_nxt hPk)) dL_law_961 dL_law_963 dL_law_964 dL_law_967 dL_law_969 dL_law_974 dL_law_976 dL_law_979 dL_law_980 dL_law_981 dL_law_982 dL_law_984 dL_law_985 dL_law_986 dL_law_991 (by decide) K
set_option maxHeartbeats 4000000 in
set_option maxRecDepth 100000 in
theorem law_k15 {p : Program} {l : Launch} {e : Env} {s : State} {m : MethodId} {below : List Frame} {meth : Method} {c : Code} {H : Heap} {locs : List Loc} {cells slots : Nat} {Q : State → Prop} {ls : Array Slot} {G : gG} {M : Nat → Nat → Int} {b L : Nat} {xs : Nat → Int32} (C : lw_C p l s m meth c G b L xs) {i o n tn : Nat} (hi : i + 4 ≤ L) (hJ : q_J M o n tn) (hG : gH G M s H locs) (hl : lv_has ls 7 (lw_ls b G i)) (hf : cells + 1 ≤ room_1.cells ∧ slots + 6 ≤ room_1.slots) (K : ∀ (M1 : Nat → Nat → Int) (H1 : Heap) (locs1 : List Loc) (ls1 : Array Slot), (∃ o n tn, q_J M1 o n tn) → gH G M1 s H1 locs1 → lv_has ls1 7 (lw_ls b G i) → W p l e room_1 s m #[Value.ref b] below meth c H1 locs1 (cells + 1) (slots + 6) Q (F0 m 1680 ls1 [])) : W p l e room_1 s m #[Value.ref b] below meth c H locs cells slots Q (F0 m 994 ls []) := by
  obtain ⟨hx, hb, hr, hml, hown, hts0, hX, hbl, hlocks, hgv⟩ := id C.1
  have hts := lw_hts C.1
  obtain ⟨-, hl0, hdm, hXt, hbA, hL⟩ := id C
  obtain ⟨⟨ho, hn, htn⟩, ⟨hR, hPk⟩, ⟨hm1, hm2, hm8⟩, hdi, hke, ⟨ht1, ht2, htx, hch⟩, hbo⟩ := id hJ
  have hl : lv_has ls 7 [(4, .int (iZ (i : Int))), (3, .ref (gad G 178)), (2, .ref (gad G 169)), (1, .ref (gad G 152)), (0, .ref b)] := hl
  obtain ⟨a0, e0, r0⟩ : ∃ z : Int, xs (i + 1) = iZ z ∧ (-2147483648 ≤ z ∧ z < 2147483648) := ⟨_, (iZ_of _).symm, lw_r32 _⟩
  refine lv_aload_n hx hb dL_law_994 rfl (lv_at hl 3 rfl) ?_
  refine law_arg C hG i (j := 1) (jn := 1) (by omega) rfl (lv_at hl 4 rfl) (lv_at hl 0 rfl) dL_law_995 dL_law_996 dL_law_998 dL_law_999 dL_law_1000 ?_
  rw [e0]
  refine lv_aload_n hx hb dL_law_1001 rfl (lv_at hl 1 rfl) ?_
  refine g_callW (As := [.ref (gad G 152), .int (iZ a0), .ref (gad G 178)]) (rest := []) ⟨hx, hb, hml, hown, hts⟩ (c_L_setRank l G M hl0 hdm (M 172) hR hPk.1 o n ho hn hm1 hm2 a0 r0) (vx_cwSW 3 hts gL_law_L_setRank rfl rfl rfl (by decide +kernel) ⟨Nat.le_of_ble_eq_true rfl, Nat.le_of_ble_eq_true rfl⟩) hXt hG rfl hl.1 rfl (Nat.le_of_ble_eq_true rfl) dL_law_1002 hf (fun z1 M1 H locs hp1 hG => ?_)
  have hmd : q_mid M M1 := q_mid.of md_act hp1.2
  have hz : 0 ≤ z1 ∧ z1 ≤ 3 := by rw [hp1.1]; (repeat' split) <;> decide
  refine lv_istore (lv' := [(5, .int (iZ z1)), (4, .int (iZ (i : Int))), (3, .ref (gad G 178)), (2, .ref (gad G 169)), (1, .ref (gad G 152)), (0, .ref b)]) hx hb dL_law_1005 hl (by decide) rfl (fun ls hl => ?_)
  refine lv_aload_n hx hb dL_law_1007 rfl (lv_at hl 3 rfl) ?_
  refine law_arg C hG i (j := 1) (jn := 1) (by omega) rfl (lv_at hl 5 rfl) (lv_at hl 1 rfl) dL_law_1008 dL_law_1009 dL_law_1011 dL_law_1012 dL_law_1013 ?_
  rw [e0]
  refine g_callV (b := 169) (As := [.int (iZ a0)]) (rest := []) ⟨hx, hb, hml, hown, hts⟩ (c_X6_setRank l G M1 hdm (M 172) (hmd 172 (by decide) (by decide)) hPk.1 n hn (by rw [hmd 169 (by decide) (by decide)]; exact hm8) a0 r0) (cwV 1 hts gL_law_X6_setRank rfl rfl rfl (by decide +kernel) ⟨Nat.le_of_ble_eq_true rfl, Nat.le_of_ble_eq_true rfl⟩) hG (g_recv hG (b := 169) (hdm 169 (by decide)) rfl rfl) rfl hl.1 rfl (Nat.le_of_ble_eq_true rfl) dL_law_1014 hf (fun z2 M2 H locs hp2 hG => ?_)
  exact law_tail C hf ⟨Nat.le_of_ble_eq_true rfl, Nat.le_of_ble_eq_true rfl⟩ hG hl hz (lw_a hJ hp1 hp2 (pk_srk hPk)) dL_law_1017 dL_law_1019 dL_law_1020 dL_law_1023 dL_law_1025 dL_law_1030 dL_law_1032 dL_law_1035 dL_law_1036 dL_law_1037 dL_law_1038 dL_law_1040 dL_law_1041 dL_law_1042 dL_law_1047 (by decide) K
set_option maxHeartbeats 4000000 in
set_option maxRecDepth 100000 in
theorem law_k16 {p : Program} {l : Launch} {e : Env} {s : State} {m : MethodId} {below : List Frame} {meth : Method} {c : Code} {H : Heap} {locs : List Loc} {cells slots : Nat} {Q : State → Prop} {ls : Array Slot} {G : gG} {M : Nat → Nat → Int} {b L : Nat} {xs : Nat → Int32} (C : lw_C p l s m meth c G b L xs) {i o n tn : Nat} (hi : i + 4 ≤ L) (hJ : q_J M o n tn) (hG : gH G M s H locs) (hl : lv_has ls 7 (lw_ls b G i)) (hf : cells + 1 ≤ room_1.cells ∧ slots + 6 ≤ room_1.slots) (K : ∀ (M1 : Nat → Nat → Int) (H1 : Heap) (locs1 : List Loc) (ls1 : Array Slot), (∃ o n tn, q_J M1 o n tn) → gH G M1 s H1 locs1 → lv_has ls1 7 (lw_ls b G i) → W p l e room_1 s m #[Value.ref b] below meth c H1 locs1 (cells + 1) (slots + 6) Q (F0 m 1680 ls1 [])) : W p l e room_1 s m #[Value.ref b] below meth c H locs cells slots Q (F0 m 1050 ls []) := by
  obtain ⟨hx, hb, hr, hml, hown, hts0, hX, hbl, hlocks, hgv⟩ := id C.1
  have hts := lw_hts C.1
  obtain ⟨-, hl0, hdm, hXt, hbA, hL⟩ := id C
  obtain ⟨⟨ho, hn, htn⟩, ⟨hR, hPk⟩, ⟨hm1, hm2, hm8⟩, hdi, hke, ⟨ht1, ht2, htx, hch⟩, hbo⟩ := id hJ
  have hl : lv_has ls 7 [(4, .int (iZ (i : Int))), (3, .ref (gad G 178)), (2, .ref (gad G 169)), (1, .ref (gad G 152)), (0, .ref b)] := hl
  obtain ⟨a0, e0, r0⟩ : ∃ z : Int, xs (i + 1) = iZ z ∧ (-2147483648 ≤ z ∧ z < 2147483648) := ⟨_, (iZ_of _).symm, lw_r32 _⟩
  obtain ⟨a1, e1, r1⟩ : ∃ z : Int, xs (i + 2) = iZ z ∧ (-2147483648 ≤ z ∧ z < 2147483648) := ⟨_, (iZ_of _).symm, lw_r32 _⟩
  refine lv_aload_n hx hb dL_law_1050 rfl (lv_at hl 3 rfl) ?_
  refine law_arg C hG i (j := 1) (jn := 1) (by omega) rfl (lv_at hl 4 rfl) (lv_at hl 0 rfl) dL_law_1051 dL_law_1052 dL_law_1054 dL_law_1055 dL_law_1056 ?_
  rw [e0]
  refine law_arg C hG i (j := 2) (jn := 2) (by omega) rfl (lv_at hl 4 rfl) (lv_at hl 0 rfl) dL_law_1057 dL_law_1058 dL_law_1060 dL_law_1061 dL_law_1062 ?_
  rw [e1]
  refine lv_aload_n hx hb dL_law_1063 rfl (lv_at hl 1 rfl) ?_
  refine g_callW (As := [.ref (gad G 152), .int (iZ a0), .int (iZ a1), .ref (gad G 178)]) (rest := []) ⟨hx, hb, hml, hown, hts⟩ (c_L_setDraw l G M hl0 hdm (M 172) hR hPk.1 o n ho hn hm1 hm2 a0 r0 a1 r1) (vx_cwSW 4 hts gL_law_L_setDraw rfl rfl rfl (by decide +kernel) ⟨Nat.le_of_ble_eq_true rfl, Nat.le_of_ble_eq_true rfl⟩) hXt hG rfl hl.1 rfl (Nat.le_of_ble_eq_true rfl) dL_law_1064 hf (fun z1 M1 H locs hp1 hG => ?_)
  have hmd : q_mid M M1 := q_mid.of md_act hp1.2
  have hz : 0 ≤ z1 ∧ z1 ≤ 3 := by rw [hp1.1]; (repeat' split) <;> decide
  refine lv_istore (lv' := [(5, .int (iZ z1)), (4, .int (iZ (i : Int))), (3, .ref (gad G 178)), (2, .ref (gad G 169)), (1, .ref (gad G 152)), (0, .ref b)]) hx hb dL_law_1067 hl (by decide) rfl (fun ls hl => ?_)
  refine lv_aload_n hx hb dL_law_1069 rfl (lv_at hl 3 rfl) ?_
  refine law_arg C hG i (j := 1) (jn := 1) (by omega) rfl (lv_at hl 5 rfl) (lv_at hl 1 rfl) dL_law_1070 dL_law_1071 dL_law_1073 dL_law_1074 dL_law_1075 ?_
  rw [e0]
  refine law_arg C hG i (j := 2) (jn := 2) (by omega) rfl (lv_at hl 5 rfl) (lv_at hl 1 rfl) dL_law_1076 dL_law_1077 dL_law_1079 dL_law_1080 dL_law_1081 ?_
  rw [e1]
  refine g_callV (b := 169) (As := [.int (iZ a0), .int (iZ a1)]) (rest := []) ⟨hx, hb, hml, hown, hts⟩ (c_X6_setDraw l G M1 hdm (M 172) (hmd 172 (by decide) (by decide)) hPk.1 n hn (by rw [hmd 169 (by decide) (by decide)]; exact hm8) a0 r0 a1 r1) (cwV 2 hts gL_law_X6_setDraw rfl rfl rfl (by decide +kernel) ⟨Nat.le_of_ble_eq_true rfl, Nat.le_of_ble_eq_true rfl⟩) hG (g_recv hG (b := 169) (hdm 169 (by decide)) rfl rfl) rfl hl.1 rfl (Nat.le_of_ble_eq_true rfl) dL_law_1082 hf (fun z2 M2 H locs hp2 hG => ?_)
  exact law_tail C hf ⟨Nat.le_of_ble_eq_true rfl, Nat.le_of_ble_eq_true rfl⟩ hG hl hz (lw_a hJ hp1 hp2 (pk_sdr hPk)) dL_law_1085 dL_law_1087 dL_law_1088 dL_law_1091 dL_law_1093 dL_law_1098 dL_law_1100 dL_law_1103 dL_law_1104 dL_law_1105 dL_law_1106 dL_law_1108 dL_law_1109 dL_law_1110 dL_law_1115 (by decide) K
set_option maxHeartbeats 4000000 in
set_option maxRecDepth 100000 in
theorem law_k17 {p : Program} {l : Launch} {e : Env} {s : State} {m : MethodId} {below : List Frame} {meth : Method} {c : Code} {H : Heap} {locs : List Loc} {cells slots : Nat} {Q : State → Prop} {ls : Array Slot} {G : gG} {M : Nat → Nat → Int} {b L : Nat} {xs : Nat → Int32} (C : lw_C p l s m meth c G b L xs) {i o n tn : Nat} (hi : i + 4 ≤ L) (hJ : q_J M o n tn) (hG : gH G M s H locs) (hl : lv_has ls 7 (lw_ls b G i)) (hf : cells + 1 ≤ room_1.cells ∧ slots + 6 ≤ room_1.slots) (K : ∀ (M1 : Nat → Nat → Int) (H1 : Heap) (locs1 : List Loc) (ls1 : Array Slot), (∃ o n tn, q_J M1 o n tn) → gH G M1 s H1 locs1 → lv_has ls1 7 (lw_ls b G i) → W p l e room_1 s m #[Value.ref b] below meth c H1 locs1 (cells + 1) (slots + 6) Q (F0 m 1680 ls1 [])) : W p l e room_1 s m #[Value.ref b] below meth c H locs cells slots Q (F0 m 1118 ls []) := by
  obtain ⟨hx, hb, hr, hml, hown, hts0, hX, hbl, hlocks, hgv⟩ := id C.1
  have hts := lw_hts C.1
  obtain ⟨-, hl0, hdm, hXt, hbA, hL⟩ := id C
  obtain ⟨⟨ho, hn, htn⟩, ⟨hR, hPk⟩, ⟨hm1, hm2, hm8⟩, hdi, hke, ⟨ht1, ht2, htx, hch⟩, hbo⟩ := id hJ
  have hl : lv_has ls 7 [(4, .int (iZ (i : Int))), (3, .ref (gad G 178)), (2, .ref (gad G 169)), (1, .ref (gad G 152)), (0, .ref b)] := hl
  refine lv_aload_n hx hb dL_law_1118 rfl (lv_at hl 3 rfl) ?_
  refine lv_aload_n hx hb dL_law_1119 rfl (lv_at hl 1 rfl) ?_
  refine g_callW (As := [.ref (gad G 152), .ref (gad G 178)]) (rest := []) ⟨hx, hb, hml, hown, hts⟩ (c_L_undo l G M hl0 hdm o n ho hn hm1 hm2 (q_pgd M (n - 1)) (fun h9 => ⟨(hdi (n - 1) (by omega)).1, (hdi (n - 1) (by omega)).2.1⟩)) (vx_cwSW 2 hts gL_law_L_undo rfl rfl rfl (by decide +kernel) ⟨Nat.le_of_ble_eq_true rfl, Nat.le_of_ble_eq_true rfl⟩) hXt hG rfl hl.1 rfl (Nat.le_of_ble_eq_true rfl) dL_law_1120 hf (fun z1 M1 H locs hp1 hG => ?_)
  have hmd : q_mid M M1 := q_mid.of (fun z9 Mx h a h1 h2 => h.2.2.2.2.2 a (by omega) (by omega)) hp1.2
  have hz : 0 ≤ z1 ∧ z1 ≤ 3 := by rw [hp1.1]; (repeat' split) <;> decide
  refine lv_istore (lv' := [(5, .int (iZ z1)), (4, .int (iZ (i : Int))), (3, .ref (gad G 178)), (2, .ref (gad G 169)), (1, .ref (gad G 152)), (0, .ref b)]) hx hb dL_law_1123 hl (by decide) rfl (fun ls hl => ?_)
  refine lv_aload_n hx hb dL_law_1125 rfl (lv_at hl 3 rfl) ?_
  refine g_callV (b := 169) (As := []) (rest := []) ⟨hx, hb, hml, hown, hts⟩ (c_X6_undo l G M1 hdm n hn (by rw [hmd 169 (by decide) (by decide)]; exact hm8)) (cwV 0 hts gL_law_X6_undo rfl rfl rfl (by decide +kernel) ⟨Nat.le_of_ble_eq_true rfl, Nat.le_of_ble_eq_true rfl⟩) hG (g_recv hG (b := 169) (hdm 169 (by decide)) rfl rfl) rfl hl.1 rfl (Nat.le_of_ble_eq_true rfl) dL_law_1126 hf (fun z2 M2 H locs hp2 hG => ?_)
  exact law_tail C hf ⟨Nat.le_of_ble_eq_true rfl, Nat.le_of_ble_eq_true rfl⟩ hG hl hz (lw_und hJ cd_und (fun _ => rfl) hp1 hp2) dL_law_1129 dL_law_1131 dL_law_1132 dL_law_1135 dL_law_1137 dL_law_1142 dL_law_1144 dL_law_1147 dL_law_1148 dL_law_1149 dL_law_1150 dL_law_1152 dL_law_1153 dL_law_1154 dL_law_1159 (by decide) K
set_option maxHeartbeats 4000000 in
set_option maxRecDepth 100000 in
theorem law_k18 {p : Program} {l : Launch} {e : Env} {s : State} {m : MethodId} {below : List Frame} {meth : Method} {c : Code} {H : Heap} {locs : List Loc} {cells slots : Nat} {Q : State → Prop} {ls : Array Slot} {G : gG} {M : Nat → Nat → Int} {b L : Nat} {xs : Nat → Int32} (C : lw_C p l s m meth c G b L xs) {i o n tn : Nat} (hi : i + 4 ≤ L) (hJ : q_J M o n tn) (hG : gH G M s H locs) (hl : lv_has ls 7 (lw_ls b G i)) (hf : cells + 1 ≤ room_1.cells ∧ slots + 6 ≤ room_1.slots) (K : ∀ (M1 : Nat → Nat → Int) (H1 : Heap) (locs1 : List Loc) (ls1 : Array Slot), (∃ o n tn, q_J M1 o n tn) → gH G M1 s H1 locs1 → lv_has ls1 7 (lw_ls b G i) → W p l e room_1 s m #[Value.ref b] below meth c H1 locs1 (cells + 1) (slots + 6) Q (F0 m 1680 ls1 [])) : W p l e room_1 s m #[Value.ref b] below meth c H locs cells slots Q (F0 m 1162 ls []) := by
  obtain ⟨hx, hb, hr, hml, hown, hts0, hX, hbl, hlocks, hgv⟩ := id C.1
  have hts := lw_hts C.1
  obtain ⟨-, hl0, hdm, hXt, hbA, hL⟩ := id C
  obtain ⟨⟨ho, hn, htn⟩, ⟨hR, hPk⟩, ⟨hm1, hm2, hm8⟩, hdi, hke, ⟨ht1, ht2, htx, hch⟩, hbo⟩ := id hJ
  have hl : lv_has ls 7 [(4, .int (iZ (i : Int))), (3, .ref (gad G 178)), (2, .ref (gad G 169)), (1, .ref (gad G 152)), (0, .ref b)] := hl
  refine lv_aload_n hx hb dL_law_1162 rfl (lv_at hl 3 rfl) ?_
  refine g_callV (b := 152) (As := []) (rest := []) ⟨hx, hb, hml, hown, hts⟩ (c_X5_whyNot l G M hdm (M 172) hR hPk.1) (cwV 0 hts gL_law_X5_whyNot rfl rfl rfl (by decide +kernel) ⟨Nat.le_of_ble_eq_true rfl, Nat.le_of_ble_eq_true rfl⟩) hG (g_recv hG (b := 152) (hdm 152 (by decide)) rfl rfl) rfl hl.1 rfl (Nat.le_of_ble_eq_true rfl) dL_law_1163 ⟨by omega, by omega⟩ (fun z1 M1 H locs hp1 hG => ?_)
  have hmd : q_mid M M1 := fun a h1 h2 => by rw [hp1.2]
  refine lv_aload_n hx hb dL_law_1166 rfl (lv_at hl 2 rfl) ?_
  refine g_callV (b := 169) (As := []) (rest := [.int (iZ z1)]) ⟨hx, hb, hml, hown, hts⟩ (c_X6_whyNot l G M1 hdm (M 172) (hmd 172 (by decide) (by decide)) hPk.1) (cwV 0 hts gL_law_X6_whyNot rfl rfl rfl (by decide +kernel) ⟨Nat.le_of_ble_eq_true rfl, Nat.le_of_ble_eq_true rfl⟩) hG (g_recv hG (b := 169) (hdm 169 (by decide)) rfl rfl) rfl hl.1 rfl (Nat.le_of_ble_eq_true rfl) dL_law_1167 ⟨by omega, by omega⟩ (fun z2 M2 H locs hp2 hG => ?_)
  obtain ⟨hz, hJ2⟩ := lw_0 hJ ⟨hp1.1, by rw [hp1.2]; exact q_cs.rf _⟩ hp2
  refine lv_icmp_eq (tgt := 1680) hx hb dL_law_1170 (by decide) (fun _ => ?_) (fun h9 => absurd (by rw [hz]) h9)
  refine W.widen (k := cells + 1) (n := slots + 6) (by omega) (by omega) ?_
  exact K M2 H locs ls hJ2 hG hl
set_option maxHeartbeats 4000000 in
set_option maxRecDepth 100000 in
theorem law_k19 {p : Program} {l : Launch} {e : Env} {s : State} {m : MethodId} {below : List Frame} {meth : Method} {c : Code} {H : Heap} {locs : List Loc} {cells slots : Nat} {Q : State → Prop} {ls : Array Slot} {G : gG} {M : Nat → Nat → Int} {b L : Nat} {xs : Nat → Int32} (C : lw_C p l s m meth c G b L xs) {i o n tn : Nat} (hi : i + 4 ≤ L) (hJ : q_J M o n tn) (hG : gH G M s H locs) (hl : lv_has ls 7 (lw_ls b G i)) (hf : cells + 1 ≤ room_1.cells ∧ slots + 6 ≤ room_1.slots) (K : ∀ (M1 : Nat → Nat → Int) (H1 : Heap) (locs1 : List Loc) (ls1 : Array Slot), (∃ o n tn, q_J M1 o n tn) → gH G M1 s H1 locs1 → lv_has ls1 7 (lw_ls b G i) → W p l e room_1 s m #[Value.ref b] below meth c H1 locs1 (cells + 1) (slots + 6) Q (F0 m 1680 ls1 [])) : W p l e room_1 s m #[Value.ref b] below meth c H locs cells slots Q (F0 m 1175 ls []) := by
  obtain ⟨hx, hb, hr, hml, hown, hts0, hX, hbl, hlocks, hgv⟩ := id C.1
  have hts := lw_hts C.1
  obtain ⟨-, hl0, hdm, hXt, hbA, hL⟩ := id C
  obtain ⟨⟨ho, hn, htn⟩, ⟨hR, hPk⟩, ⟨hm1, hm2, hm8⟩, hdi, hke, ⟨ht1, ht2, htx, hch⟩, hbo⟩ := id hJ
  have hl : lv_has ls 7 [(4, .int (iZ (i : Int))), (3, .ref (gad G 178)), (2, .ref (gad G 169)), (1, .ref (gad G 152)), (0, .ref b)] := hl
  obtain ⟨a0, e0, r0⟩ : ∃ z : Int, xs (i + 1) = iZ z ∧ (-2147483648 ≤ z ∧ z < 2147483648) := ⟨_, (iZ_of _).symm, lw_r32 _⟩
  refine lv_aload_n hx hb dL_law_1175 rfl (lv_at hl 3 rfl) ?_
  refine law_arg C hG i (j := 1) (jn := 1) (by omega) rfl (lv_at hl 4 rfl) (lv_at hl 0 rfl) dL_law_1176 dL_law_1177 dL_law_1179 dL_law_1180 dL_law_1181 ?_
  rw [e0]
  refine lv_aload_n hx hb dL_law_1182 rfl (lv_at hl 1 rfl) ?_
  refine g_callW (As := [.ref (gad G 152), .int (iZ a0), .ref (gad G 178)]) (rest := []) ⟨hx, hb, hml, hown, hts⟩ (c_L_runsLeft l G M hl0 hdm (M 172) hR hPk.1 a0 r0) (vx_cwSW 3 hts gL_law_L_runsLeft rfl rfl rfl (by decide +kernel) ⟨Nat.le_of_ble_eq_true rfl, Nat.le_of_ble_eq_true rfl⟩) hXt hG rfl hl.1 rfl (Nat.le_of_ble_eq_true rfl) dL_law_1183 hf (fun z1 M1 H locs hp1 hG => ?_)
  have hmd : q_mid M M1 := q_mid.of md_cs hp1.2
  have hz : 0 ≤ z1 ∧ z1 ≤ 3 := by rw [hp1.1]; (repeat' split) <;> decide
  refine lv_istore (lv' := [(5, .int (iZ z1)), (4, .int (iZ (i : Int))), (3, .ref (gad G 178)), (2, .ref (gad G 169)), (1, .ref (gad G 152)), (0, .ref b)]) hx hb dL_law_1186 hl (by decide) rfl (fun ls hl => ?_)
  refine lv_aload_n hx hb dL_law_1188 rfl (lv_at hl 3 rfl) ?_
  refine law_arg C hG i (j := 1) (jn := 1) (by omega) rfl (lv_at hl 5 rfl) (lv_at hl 1 rfl) dL_law_1189 dL_law_1190 dL_law_1192 dL_law_1193 dL_law_1194 ?_
  rw [e0]
  refine g_callV (b := 169) (As := [.int (iZ a0)]) (rest := []) ⟨hx, hb, hml, hown, hts⟩ (c_X6_runsLeft l G M1 hdm (M 172) (hmd 172 (by decide) (by decide)) hPk.1 a0 r0) (cwV 1 hts gL_law_X6_runsLeft rfl rfl rfl (by decide +kernel) ⟨Nat.le_of_ble_eq_true rfl, Nat.le_of_ble_eq_true rfl⟩) hG (g_recv hG (b := 169) (hdm 169 (by decide)) rfl rfl) rfl hl.1 rfl (Nat.le_of_ble_eq_true rfl) dL_law_1195 hf (fun z2 M2 H locs hp2 hG => ?_)
  exact law_tail C hf ⟨Nat.le_of_ble_eq_true rfl, Nat.le_of_ble_eq_true rfl⟩ hG hl hz (lw_q hJ hp1 hp2) dL_law_1198 dL_law_1200 dL_law_1201 dL_law_1204 dL_law_1206 dL_law_1211 dL_law_1213 dL_law_1216 dL_law_1217 dL_law_1218 dL_law_1219 dL_law_1221 dL_law_1222 dL_law_1223 dL_law_1228 (by decide) K
set_option maxHeartbeats 4000000 in
set_option maxRecDepth 100000 in
theorem law_k20 {p : Program} {l : Launch} {e : Env} {s : State} {m : MethodId} {below : List Frame} {meth : Method} {c : Code} {H : Heap} {locs : List Loc} {cells slots : Nat} {Q : State → Prop} {ls : Array Slot} {G : gG} {M : Nat → Nat → Int} {b L : Nat} {xs : Nat → Int32} (C : lw_C p l s m meth c G b L xs) {i o n tn : Nat} (hi : i + 4 ≤ L) (hJ : q_J M o n tn) (hG : gH G M s H locs) (hl : lv_has ls 7 (lw_ls b G i)) (hf : cells + 1 ≤ room_1.cells ∧ slots + 6 ≤ room_1.slots) (K : ∀ (M1 : Nat → Nat → Int) (H1 : Heap) (locs1 : List Loc) (ls1 : Array Slot), (∃ o n tn, q_J M1 o n tn) → gH G M1 s H1 locs1 → lv_has ls1 7 (lw_ls b G i) → W p l e room_1 s m #[Value.ref b] below meth c H1 locs1 (cells + 1) (slots + 6) Q (F0 m 1680 ls1 [])) : W p l e room_1 s m #[Value.ref b] below meth c H locs cells slots Q (F0 m 1231 ls []) := by
  obtain ⟨hx, hb, hr, hml, hown, hts0, hX, hbl, hlocks, hgv⟩ := id C.1
  have hts := lw_hts C.1
  obtain ⟨-, hl0, hdm, hXt, hbA, hL⟩ := id C
  obtain ⟨⟨ho, hn, htn⟩, ⟨hR, hPk⟩, ⟨hm1, hm2, hm8⟩, hdi, hke, ⟨ht1, ht2, htx, hch⟩, hbo⟩ := id hJ
  have hl : lv_has ls 7 [(4, .int (iZ (i : Int))), (3, .ref (gad G 178)), (2, .ref (gad G 169)), (1, .ref (gad G 152)), (0, .ref b)] := hl
  obtain ⟨a0, e0, r0⟩ : ∃ z : Int, xs (i + 1) = iZ z ∧ (-2147483648 ≤ z ∧ z < 2147483648) := ⟨_, (iZ_of _).symm, lw_r32 _⟩
  refine lv_aload_n hx hb dL_law_1231 rfl (lv_at hl 3 rfl) ?_
  refine law_arg C hG i (j := 1) (jn := 1) (by omega) rfl (lv_at hl 4 rfl) (lv_at hl 0 rfl) dL_law_1232 dL_law_1233 dL_law_1235 dL_law_1236 dL_law_1237 ?_
  rw [e0]
  refine lv_aload_n hx hb dL_law_1238 rfl (lv_at hl 1 rfl) ?_
  refine g_callW (As := [.ref (gad G 152), .int (iZ a0), .ref (gad G 178)]) (rest := []) ⟨hx, hb, hml, hown, hts⟩ (c_L_bestPlace l G M hl0 hdm (M 172) hR hPk.1 a0 r0) (vx_cwSW 3 hts gL_law_L_bestPlace rfl rfl rfl (by decide +kernel) ⟨Nat.le_of_ble_eq_true rfl, Nat.le_of_ble_eq_true rfl⟩) hXt hG rfl hl.1 rfl (Nat.le_of_ble_eq_true rfl) dL_law_1239 hf (fun z1 M1 H locs hp1 hG => ?_)
  have hmd : q_mid M M1 := q_mid.of md_cs hp1.2
  have hz : 0 ≤ z1 ∧ z1 ≤ 3 := by rw [hp1.1]; (repeat' split) <;> decide
  refine lv_istore (lv' := [(5, .int (iZ z1)), (4, .int (iZ (i : Int))), (3, .ref (gad G 178)), (2, .ref (gad G 169)), (1, .ref (gad G 152)), (0, .ref b)]) hx hb dL_law_1242 hl (by decide) rfl (fun ls hl => ?_)
  refine lv_aload_n hx hb dL_law_1244 rfl (lv_at hl 3 rfl) ?_
  refine law_arg C hG i (j := 1) (jn := 1) (by omega) rfl (lv_at hl 5 rfl) (lv_at hl 1 rfl) dL_law_1245 dL_law_1246 dL_law_1248 dL_law_1249 dL_law_1250 ?_
  rw [e0]
  refine g_callV (b := 169) (As := [.int (iZ a0)]) (rest := []) ⟨hx, hb, hml, hown, hts⟩ (c_X6_bestPlace l G M1 hdm (M 172) (hmd 172 (by decide) (by decide)) hPk.1 a0 r0) (cwV 1 hts gL_law_X6_bestPlace rfl rfl rfl (by decide +kernel) ⟨Nat.le_of_ble_eq_true rfl, Nat.le_of_ble_eq_true rfl⟩) hG (g_recv hG (b := 169) (hdm 169 (by decide)) rfl rfl) rfl hl.1 rfl (Nat.le_of_ble_eq_true rfl) dL_law_1251 hf (fun z2 M2 H locs hp2 hG => ?_)
  exact law_tail C hf ⟨Nat.le_of_ble_eq_true rfl, Nat.le_of_ble_eq_true rfl⟩ hG hl hz (lw_q hJ hp1 hp2) dL_law_1254 dL_law_1256 dL_law_1257 dL_law_1260 dL_law_1262 dL_law_1267 dL_law_1269 dL_law_1272 dL_law_1273 dL_law_1274 dL_law_1275 dL_law_1277 dL_law_1278 dL_law_1279 dL_law_1284 (by decide) K
