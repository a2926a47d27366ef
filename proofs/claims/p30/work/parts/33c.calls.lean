/-! CALL: a call by its number -/
set_option maxHeartbeats 4000000 in
set_option maxRecDepth 100000 in
theorem c_L_call_AppendT (l : Launch) (hl0 : l.stackTraces = false) (G : gG) (hdm : ∀ k, k < 169 → gdm G k) (M0 : Nat → Nat → Int) (X : Nat → Int) (n : Nat) (hn9 : n < 70) (a : Int) (ha9 : -2147483648 ≤ a ∧ a < 2147483648) (ha : 0 ≤ a ∧ a ≤ 255) (x1 x2 x3 : Int) : gML l yL_call wsL_call ({ frames := 8, cells := 1, slots := 6, locals := 191 } : Room) 1 G M0 (kT X n) [.ref (gad G 152), .int (iZ 0), .int (iZ a), .int (iZ x1), .int (iZ x2), .int (iZ x3)] (fun z K1 => z = (n : Int) + 1 ∧ K1 = kT (q_up X n a) (n + 1)) := by
  refine gML_of (cc := cL_call) (maxL := 6) (ret := some .int) (by decide) rfl (Nat.le_of_ble_eq_true rfl) ?_
  intro p e s m below meth c ls hx hb hr hml hown hts hlocks hl hG
  have hown : s.vm.findClass RL = some m.cls := hown
  have hl : lv_has ls 6 [(0, .ref (gad G 152)), (1, .int (iZ 0)), (2, .int (iZ a)), (3, .int (iZ x1)), (4, .int (iZ x2)), (5, .int (iZ x3))] := hl
  refine lv_iload_n hx hb dL_call_0 rfl (lv_at hl 1 rfl) ?_
  have hsw : (iZ 0).toInt = 0 := iZ_int (by omega)
  refine lv_tableIn (off := 87) (tgt := 88) hx hb dL_call_1 (by rw [hsw]; omega) (by rw [hsw]; omega) (by rw [hsw]; rfl) (by decide) ?_
  refine lv_aload_n hx hb dL_call_88 rfl (lv_at hl 0 rfl) ?_
  refine lv_iload_n hx hb dL_call_89 rfl (lv_at hl 2 rfl) ?_
  refine g_callLW (As := [.ref (gad G 152), .int (iZ a)]) (rest := []) ⟨hx, hb, hml, hown, hts⟩ (c_L_tryAppendT l hl0 G hdm M0 X n hn9 a ha9 ha) (vx_cwSW 2 hts gL_call_L_tryAppend rfl rfl rfl (by decide +kernel) ⟨Nat.le_of_ble_eq_true rfl, Nat.le_of_ble_eq_true rfl⟩) hG rfl hl.1 rfl (Nat.le_of_ble_eq_true rfl) dL_call_90 ⟨Nat.le_of_ble_eq_true rfl, Nat.le_of_ble_eq_true rfl⟩ (fun z1 K1 H locs hp hG => ?_)
  exact g_iretL hx hb hr hG hlocks hp ⟨Nat.le_of_ble_eq_true rfl, Nat.le_of_ble_eq_true rfl⟩ dL_call_93
set_option maxHeartbeats 4000000 in
set_option maxRecDepth 100000 in
theorem c_L_call_AppendS (l : Launch) (hl0 : l.stackTraces = false) (G : gG) (hdm : ∀ k, k < 169 → gdm G k) (M0 : Nat → Nat → Int) (σ : gS) (a : Int) (ha9 : -2147483648 ≤ a ∧ a < 2147483648) (ha : a < 0) (x1 x2 x3 : Int) : gML l yL_call wsL_call ({ frames := 8, cells := 1, slots := 6, locals := 191 } : Room) 1 G M0 (kS σ) [.ref (gad G 152), .int (iZ 0), .int (iZ a), .int (iZ x1), .int (iZ x2), .int (iZ x3)] (fun z K1 => z = -9999002 ∧ K1 = kS σ) := by
  refine gML_of (cc := cL_call) (maxL := 6) (ret := some .int) (by decide) rfl (Nat.le_of_ble_eq_true rfl) ?_
  intro p e s m below meth c ls hx hb hr hml hown hts hlocks hl hG
  have hown : s.vm.findClass RL = some m.cls := hown
  have hl : lv_has ls 6 [(0, .ref (gad G 152)), (1, .int (iZ 0)), (2, .int (iZ a)), (3, .int (iZ x1)), (4, .int (iZ x2)), (5, .int (iZ x3))] := hl
  refine lv_iload_n hx hb dL_call_0 rfl (lv_at hl 1 rfl) ?_
  have hsw : (iZ 0).toInt = 0 := iZ_int (by omega)
  refine lv_tableIn (off := 87) (tgt := 88) hx hb dL_call_1 (by rw [hsw]; omega) (by rw [hsw]; omega) (by rw [hsw]; rfl) (by decide) ?_
  refine lv_aload_n hx hb dL_call_88 rfl (lv_at hl 0 rfl) ?_
  refine lv_iload_n hx hb dL_call_89 rfl (lv_at hl 2 rfl) ?_
  refine g_callLW (As := [.ref (gad G 152), .int (iZ a)]) (rest := []) ⟨hx, hb, hml, hown, hts⟩ (c_L_tryAppendS l hl0 G hdm M0 σ a ha9 ha) (vx_cwSW 2 hts gL_call_L_tryAppend rfl rfl rfl (by decide +kernel) ⟨Nat.le_of_ble_eq_true rfl, Nat.le_of_ble_eq_true rfl⟩) hG rfl hl.1 rfl (Nat.le_of_ble_eq_true rfl) dL_call_90 ⟨Nat.le_of_ble_eq_true rfl, Nat.le_of_ble_eq_true rfl⟩ (fun z1 K1 H locs hp hG => ?_)
  exact g_iretL hx hb hr hG hlocks hp ⟨Nat.le_of_ble_eq_true rfl, Nat.le_of_ble_eq_true rfl⟩ dL_call_93
set_option maxHeartbeats 4000000 in
set_option maxRecDepth 100000 in
theorem c_L_call_Load (l : Launch) (hl0 : l.stackTraces = false) (G : gG) (hdm : ∀ k, k < 169 → gdm G k) (M0 : Nat → Nat → Int) (X : Nat → Int) (n : Nat) (he : q_err X n = -9) (x0 x1 x2 x3 : Int) : gML l yL_call wsL_call ({ frames := 8, cells := 1, slots := 6, locals := 191 } : Room) 1 G M0 (kT X n) [.ref (gad G 152), .int (iZ 1), .int (iZ x0), .int (iZ x1), .int (iZ x2), .int (iZ x3)] (fun z K1 => z = q_nd (q_rdt X n).2.2 ∧ K1 = kS (s_new (q_rdt X n).2.2)) := by
  refine gML_of (cc := cL_call) (maxL := 6) (ret := some .int) (by decide) rfl (Nat.le_of_ble_eq_true rfl) ?_
  intro p e s m below meth c ls hx hb hr hml hown hts hlocks hl hG
  have hown : s.vm.findClass RL = some m.cls := hown
  have hl : lv_has ls 6 [(0, .ref (gad G 152)), (1, .int (iZ 1)), (2, .int (iZ x0)), (3, .int (iZ x1)), (4, .int (iZ x2)), (5, .int (iZ x3))] := hl
  refine lv_iload_n hx hb dL_call_0 rfl (lv_at hl 1 rfl) ?_
  have hsw : (iZ 1).toInt = 1 := iZ_int (by omega)
  refine lv_tableIn (off := 93) (tgt := 94) hx hb dL_call_1 (by rw [hsw]; omega) (by rw [hsw]; omega) (by rw [hsw]; rfl) (by decide) ?_
  refine lv_aload_n hx hb dL_call_94 rfl (lv_at hl 0 rfl) ?_
  refine g_callLW (As := [.ref (gad G 152)]) (rest := []) ⟨hx, hb, hml, hown, hts⟩ (c_L_tryLoad l hl0 G hdm M0 X n he) (vx_cwSW 1 hts gL_call_L_tryLoad rfl rfl rfl (by decide +kernel) ⟨Nat.le_of_ble_eq_true rfl, Nat.le_of_ble_eq_true rfl⟩) hG rfl hl.1 rfl (Nat.le_of_ble_eq_true rfl) dL_call_95 ⟨Nat.le_of_ble_eq_true rfl, Nat.le_of_ble_eq_true rfl⟩ (fun z1 K1 H locs hp hG => ?_)
  exact g_iretL hx hb hr hG hlocks hp ⟨Nat.le_of_ble_eq_true rfl, Nat.le_of_ble_eq_true rfl⟩ dL_call_98
set_option maxHeartbeats 4000000 in
set_option maxRecDepth 100000 in
theorem c_L_call_About (l : Launch) (hl0 : l.stackTraces = false) (G : gG) (hdm : ∀ k, k < 169 → gdm G k) (M0 : Nat → Nat → Int) (σ : gS) (hσ : s_ok σ) (a : Int) (ha9 : -2147483648 ≤ a ∧ a < 2147483648) (x1 x2 x3 : Int) : gML l yL_call wsL_call ({ frames := 8, cells := 1, slots := 6, locals := 191 } : Room) 1 G M0 (kS σ) [.ref (gad G 152), .int (iZ 2), .int (iZ a), .int (iZ x1), .int (iZ x2), .int (iZ x3)] (fun z K1 => z = a_about σ a ∧ K1 = kS σ) := by
  refine gML_of (cc := cL_call) (maxL := 6) (ret := some .int) (by decide) rfl (Nat.le_of_ble_eq_true rfl) ?_
  intro p e s m below meth c ls hx hb hr hml hown hts hlocks hl hG
  have hown : s.vm.findClass RL = some m.cls := hown
  have hl : lv_has ls 6 [(0, .ref (gad G 152)), (1, .int (iZ 2)), (2, .int (iZ a)), (3, .int (iZ x1)), (4, .int (iZ x2)), (5, .int (iZ x3))] := hl
  refine lv_iload_n hx hb dL_call_0 rfl (lv_at hl 1 rfl) ?_
  have hsw : (iZ 2).toInt = 2 := iZ_int (by omega)
  refine lv_tableIn (off := 98) (tgt := 99) hx hb dL_call_1 (by rw [hsw]; omega) (by rw [hsw]; omega) (by rw [hsw]; rfl) (by decide) ?_
  refine lv_aload_n hx hb dL_call_99 rfl (lv_at hl 0 rfl) ?_
  refine lv_iload_n hx hb dL_call_100 rfl (lv_at hl 2 rfl) ?_
  refine g_callLW (As := [.ref (gad G 152), .int (iZ a)]) (rest := []) ⟨hx, hb, hml, hown, hts⟩ (c_L_tryAbout l hl0 G hdm M0 σ hσ a ha9) (vx_cwSW 2 hts gL_call_L_tryAbout rfl rfl rfl (by decide +kernel) ⟨Nat.le_of_ble_eq_true rfl, Nat.le_of_ble_eq_true rfl⟩) hG rfl hl.1 rfl (Nat.le_of_ble_eq_true rfl) dL_call_101 ⟨Nat.le_of_ble_eq_true rfl, Nat.le_of_ble_eq_true rfl⟩ (fun z1 K1 H locs hp hG => ?_)
  exact g_iretL hx hb hr hG hlocks hp ⟨Nat.le_of_ble_eq_true rfl, Nat.le_of_ble_eq_true rfl⟩ dL_call_104
set_option maxHeartbeats 4000000 in
set_option maxRecDepth 100000 in
theorem c_L_call_Dog (l : Launch) (hl0 : l.stackTraces = false) (G : gG) (hdm : ∀ k, k < 169 → gdm G k) (M0 : Nat → Nat → Int) (σ : gS) (hσ : s_ok σ) (a : Int) (ha9 : -2147483648 ≤ a ∧ a < 2147483648) (b : Int) (hb9 : -2147483648 ≤ b ∧ b < 2147483648) (x2 x3 : Int) : gML l yL_call wsL_call ({ frames := 8, cells := 1, slots := 6, locals := 191 } : Room) 1 G M0 (kS σ) [.ref (gad G 152), .int (iZ 3), .int (iZ a), .int (iZ b), .int (iZ x2), .int (iZ x3)] (fun z K1 => z = a_dog σ a b ∧ K1 = kS σ) := by
  refine gML_of (cc := cL_call) (maxL := 6) (ret := some .int) (by decide) rfl (Nat.le_of_ble_eq_true rfl) ?_
  intro p e s m below meth c ls hx hb hr hml hown hts hlocks hl hG
  have hown : s.vm.findClass RL = some m.cls := hown
  have hl : lv_has ls 6 [(0, .ref (gad G 152)), (1, .int (iZ 3)), (2, .int (iZ a)), (3, .int (iZ b)), (4, .int (iZ x2)), (5, .int (iZ x3))] := hl
  refine lv_iload_n hx hb dL_call_0 rfl (lv_at hl 1 rfl) ?_
  have hsw : (iZ 3).toInt = 3 := iZ_int (by omega)
  refine lv_tableIn (off := 104) (tgt := 105) hx hb dL_call_1 (by rw [hsw]; omega) (by rw [hsw]; omega) (by rw [hsw]; rfl) (by decide) ?_
  refine lv_aload_n hx hb dL_call_105 rfl (lv_at hl 0 rfl) ?_
  refine lv_iload_n hx hb dL_call_106 rfl (lv_at hl 2 rfl) ?_
  refine lv_iload_n hx hb dL_call_107 rfl (lv_at hl 3 rfl) ?_
  refine g_callLW (As := [.ref (gad G 152), .int (iZ a), .int (iZ b)]) (rest := []) ⟨hx, hb, hml, hown, hts⟩ (c_L_tryDog l hl0 G hdm M0 σ hσ a ha9 b hb9) (vx_cwSW 3 hts gL_call_L_tryDog rfl rfl rfl (by decide +kernel) ⟨Nat.le_of_ble_eq_true rfl, Nat.le_of_ble_eq_true rfl⟩) hG rfl hl.1 rfl (Nat.le_of_ble_eq_true rfl) dL_call_108 ⟨Nat.le_of_ble_eq_true rfl, Nat.le_of_ble_eq_true rfl⟩ (fun z1 K1 H locs hp hG => ?_)
  exact g_iretL hx hb hr hG hlocks hp ⟨Nat.le_of_ble_eq_true rfl, Nat.le_of_ble_eq_true rfl⟩ dL_call_111
set_option maxHeartbeats 4000000 in
set_option maxRecDepth 100000 in
theorem c_L_call_Lost (l : Launch) (hl0 : l.stackTraces = false) (G : gG) (hdm : ∀ k, k < 169 → gdm G k) (M0 : Nat → Nat → Int) (σ : gS) (hσ : s_ok σ) (a : Int) (ha9 : -2147483648 ≤ a ∧ a < 2147483648) (b : Int) (hb9 : -2147483648 ≤ b ∧ b < 2147483648) (x2 x3 : Int) : gML l yL_call wsL_call ({ frames := 8, cells := 1, slots := 6, locals := 191 } : Room) 1 G M0 (kS σ) [.ref (gad G 152), .int (iZ 4), .int (iZ a), .int (iZ b), .int (iZ x2), .int (iZ x3)] (fun z K1 => z = a_lost σ a b ∧ K1 = kS σ) := by
  refine gML_of (cc := cL_call) (maxL := 6) (ret := some .int) (by decide) rfl (Nat.le_of_ble_eq_true rfl) ?_
  intro p e s m below meth c ls hx hb hr hml hown hts hlocks hl hG
  have hown : s.vm.findClass RL = some m.cls := hown
  have hl : lv_has ls 6 [(0, .ref (gad G 152)), (1, .int (iZ 4)), (2, .int (iZ a)), (3, .int (iZ b)), (4, .int (iZ x2)), (5, .int (iZ x3))] := hl
  refine lv_iload_n hx hb dL_call_0 rfl (lv_at hl 1 rfl) ?_
  have hsw : (iZ 4).toInt = 4 := iZ_int (by omega)
  refine lv_tableIn (off := 111) (tgt := 112) hx hb dL_call_1 (by rw [hsw]; omega) (by rw [hsw]; omega) (by rw [hsw]; rfl) (by decide) ?_
  refine lv_aload_n hx hb dL_call_112 rfl (lv_at hl 0 rfl) ?_
  refine lv_iload_n hx hb dL_call_113 rfl (lv_at hl 2 rfl) ?_
  refine lv_iload_n hx hb dL_call_114 rfl (lv_at hl 3 rfl) ?_
  refine g_callLW (As := [.ref (gad G 152), .int (iZ a), .int (iZ b)]) (rest := []) ⟨hx, hb, hml, hown, hts⟩ (c_L_tryLost l hl0 G hdm M0 σ hσ a ha9 b hb9) (vx_cwSW 3 hts gL_call_L_tryLost rfl rfl rfl (by decide +kernel) ⟨Nat.le_of_ble_eq_true rfl, Nat.le_of_ble_eq_true rfl⟩) hG rfl hl.1 rfl (Nat.le_of_ble_eq_true rfl) dL_call_115 ⟨Nat.le_of_ble_eq_true rfl, Nat.le_of_ble_eq_true rfl⟩ (fun z1 K1 H locs hp hG => ?_)
  exact g_iretL hx hb hr hG hlocks hp ⟨Nat.le_of_ble_eq_true rfl, Nat.le_of_ble_eq_true rfl⟩ dL_call_118
set_option maxHeartbeats 4000000 in
set_option maxRecDepth 100000 in
theorem c_L_call_Order (l : Launch) (hl0 : l.stackTraces = false) (G : gG) (hdm : ∀ k, k < 169 → gdm G k) (M0 : Nat → Nat → Int) (σ : gS) (hσ : s_ok σ) (a : Int) (ha9 : -2147483648 ≤ a ∧ a < 2147483648) (x1 x2 x3 : Int) : gML l yL_call wsL_call ({ frames := 8, cells := 1, slots := 6, locals := 191 } : Room) 1 G M0 (kS σ) [.ref (gad G 152), .int (iZ 5), .int (iZ a), .int (iZ x1), .int (iZ x2), .int (iZ x3)] (fun z K1 => z = a_order σ a ∧ K1 = kS σ) := by
  refine gML_of (cc := cL_call) (maxL := 6) (ret := some .int) (by decide) rfl (Nat.le_of_ble_eq_true rfl) ?_
  intro p e s m below meth c ls hx hb hr hml hown hts hlocks hl hG
  have hown : s.vm.findClass RL = some m.cls := hown
  have hl : lv_has ls 6 [(0, .ref (gad G 152)), (1, .int (iZ 5)), (2, .int (iZ a)), (3, .int (iZ x1)), (4, .int (iZ x2)), (5, .int (iZ x3))] := hl
  refine lv_iload_n hx hb dL_call_0 rfl (lv_at hl 1 rfl) ?_
  have hsw : (iZ 5).toInt = 5 := iZ_int (by omega)
  refine lv_tableIn (off := 118) (tgt := 119) hx hb dL_call_1 (by rw [hsw]; omega) (by rw [hsw]; omega) (by rw [hsw]; rfl) (by decide) ?_
  refine lv_aload_n hx hb dL_call_119 rfl (lv_at hl 0 rfl) ?_
  refine lv_iload_n hx hb dL_call_120 rfl (lv_at hl 2 rfl) ?_
  refine g_callLW (As := [.ref (gad G 152), .int (iZ a)]) (rest := []) ⟨hx, hb, hml, hown, hts⟩ (c_L_tryOrder l hl0 G hdm M0 σ hσ a ha9) (vx_cwSW 2 hts gL_call_L_tryOrder rfl rfl rfl (by decide +kernel) ⟨Nat.le_of_ble_eq_true rfl, Nat.le_of_ble_eq_true rfl⟩) hG rfl hl.1 rfl (Nat.le_of_ble_eq_true rfl) dL_call_121 ⟨Nat.le_of_ble_eq_true rfl, Nat.le_of_ble_eq_true rfl⟩ (fun z1 K1 H locs hp hG => ?_)
  exact g_iretL hx hb hr hG hlocks hp ⟨Nat.le_of_ble_eq_true rfl, Nat.le_of_ble_eq_true rfl⟩ dL_call_124
set_option maxHeartbeats 4000000 in
set_option maxRecDepth 100000 in
theorem c_L_call_Owner (l : Launch) (hl0 : l.stackTraces = false) (G : gG) (hdm : ∀ k, k < 169 → gdm G k) (M0 : Nat → Nat → Int) (σ : gS) (hσ : s_ok σ) (a : Int) (ha9 : -2147483648 ≤ a ∧ a < 2147483648) (x1 x2 x3 : Int) : gML l yL_call wsL_call ({ frames := 8, cells := 1, slots := 6, locals := 191 } : Room) 1 G M0 (kS σ) [.ref (gad G 152), .int (iZ 6), .int (iZ a), .int (iZ x1), .int (iZ x2), .int (iZ x3)] (fun z K1 => z = a_owner σ a ∧ K1 = kS σ) := by
  refine gML_of (cc := cL_call) (maxL := 6) (ret := some .int) (by decide) rfl (Nat.le_of_ble_eq_true rfl) ?_
  intro p e s m below meth c ls hx hb hr hml hown hts hlocks hl hG
  have hown : s.vm.findClass RL = some m.cls := hown
  have hl : lv_has ls 6 [(0, .ref (gad G 152)), (1, .int (iZ 6)), (2, .int (iZ a)), (3, .int (iZ x1)), (4, .int (iZ x2)), (5, .int (iZ x3))] := hl
  refine lv_iload_n hx hb dL_call_0 rfl (lv_at hl 1 rfl) ?_
  have hsw : (iZ 6).toInt = 6 := iZ_int (by omega)
  refine lv_tableIn (off := 124) (tgt := 125) hx hb dL_call_1 (by rw [hsw]; omega) (by rw [hsw]; omega) (by rw [hsw]; rfl) (by decide) ?_
  refine lv_aload_n hx hb dL_call_125 rfl (lv_at hl 0 rfl) ?_
  refine lv_iload_n hx hb dL_call_126 rfl (lv_at hl 2 rfl) ?_
  refine g_callLW (As := [.ref (gad G 152), .int (iZ a)]) (rest := []) ⟨hx, hb, hml, hown, hts⟩ (c_L_tryOwner l hl0 G hdm M0 σ hσ a ha9) (vx_cwSW 2 hts gL_call_L_tryOwner rfl rfl rfl (by decide +kernel) ⟨Nat.le_of_ble_eq_true rfl, Nat.le_of_ble_eq_true rfl⟩) hG rfl hl.1 rfl (Nat.le_of_ble_eq_true rfl) dL_call_127 ⟨Nat.le_of_ble_eq_true rfl, Nat.le_of_ble_eq_true rfl⟩ (fun z1 K1 H locs hp hG => ?_)
  exact g_iretL hx hb hr hG hlocks hp ⟨Nat.le_of_ble_eq_true rfl, Nat.le_of_ble_eq_true rfl⟩ dL_call_130
set_option maxHeartbeats 4000000 in
set_option maxRecDepth 100000 in
theorem c_L_call_Enter (l : Launch) (hl0 : l.stackTraces = false) (G : gG) (hdm : ∀ k, k < 169 → gdm G k) (M0 : Nat → Nat → Int) (σ : gS) (hσ : s_ok σ) (a : Int) (ha9 : -2147483648 ≤ a ∧ a < 2147483648) (b : Int) (hb9 : -2147483648 ≤ b ∧ b < 2147483648) (x2 x3 : Int) : gML l yL_call wsL_call ({ frames := 8, cells := 1, slots := 6, locals := 191 } : Room) 1 G M0 (kS σ) [.ref (gad G 152), .int (iZ 7), .int (iZ a), .int (iZ b), .int (iZ x2), .int (iZ x3)] (fun z K1 => z = a_enter σ a b ∧ K1 = kS (t_enter σ a b)) := by
  refine gML_of (cc := cL_call) (maxL := 6) (ret := some .int) (by decide) rfl (Nat.le_of_ble_eq_true rfl) ?_
  intro p e s m below meth c ls hx hb hr hml hown hts hlocks hl hG
  have hown : s.vm.findClass RL = some m.cls := hown
  have hl : lv_has ls 6 [(0, .ref (gad G 152)), (1, .int (iZ 7)), (2, .int (iZ a)), (3, .int (iZ b)), (4, .int (iZ x2)), (5, .int (iZ x3))] := hl
  refine lv_iload_n hx hb dL_call_0 rfl (lv_at hl 1 rfl) ?_
  have hsw : (iZ 7).toInt = 7 := iZ_int (by omega)
  refine lv_tableIn (off := 130) (tgt := 131) hx hb dL_call_1 (by rw [hsw]; omega) (by rw [hsw]; omega) (by rw [hsw]; rfl) (by decide) ?_
  refine lv_aload_n hx hb dL_call_131 rfl (lv_at hl 0 rfl) ?_
  refine lv_iload_n hx hb dL_call_132 rfl (lv_at hl 2 rfl) ?_
  refine lv_iload_n hx hb dL_call_133 rfl (lv_at hl 3 rfl) ?_
  refine g_callLW (As := [.ref (gad G 152), .int (iZ a), .int (iZ b)]) (rest := []) ⟨hx, hb, hml, hown, hts⟩ (c_L_tryEnter l hl0 G hdm M0 σ hσ a ha9 b hb9) (vx_cwSW 3 hts gL_call_L_tryEnter rfl rfl rfl (by decide +kernel) ⟨Nat.le_of_ble_eq_true rfl, Nat.le_of_ble_eq_true rfl⟩) hG rfl hl.1 rfl (Nat.le_of_ble_eq_true rfl) dL_call_134 ⟨Nat.le_of_ble_eq_true rfl, Nat.le_of_ble_eq_true rfl⟩ (fun z1 K1 H locs hp hG => ?_)
  exact g_iretL hx hb hr hG hlocks hp ⟨Nat.le_of_ble_eq_true rfl, Nat.le_of_ble_eq_true rfl⟩ dL_call_137
set_option maxHeartbeats 4000000 in
set_option maxRecDepth 100000 in
theorem c_L_call_Withdraw (l : Launch) (hl0 : l.stackTraces = false) (G : gG) (hdm : ∀ k, k < 169 → gdm G k) (M0 : Nat → Nat → Int) (σ : gS) (hσ : s_ok σ) (a : Int) (ha9 : -2147483648 ≤ a ∧ a < 2147483648) (x1 x2 x3 : Int) : gML l yL_call wsL_call ({ frames := 8, cells := 1, slots := 6, locals := 191 } : Room) 1 G M0 (kS σ) [.ref (gad G 152), .int (iZ 8), .int (iZ a), .int (iZ x1), .int (iZ x2), .int (iZ x3)] (fun z K1 => z = a_withdraw σ a ∧ K1 = kS (t_withdraw σ a)) := by
  refine gML_of (cc := cL_call) (maxL := 6) (ret := some .int) (by decide) rfl (Nat.le_of_ble_eq_true rfl) ?_
  intro p e s m below meth c ls hx hb hr hml hown hts hlocks hl hG
  have hown : s.vm.findClass RL = some m.cls := hown
  have hl : lv_has ls 6 [(0, .ref (gad G 152)), (1, .int (iZ 8)), (2, .int (iZ a)), (3, .int (iZ x1)), (4, .int (iZ x2)), (5, .int (iZ x3))] := hl
  refine lv_iload_n hx hb dL_call_0 rfl (lv_at hl 1 rfl) ?_
  have hsw : (iZ 8).toInt = 8 := iZ_int (by omega)
  refine lv_tableIn (off := 137) (tgt := 138) hx hb dL_call_1 (by rw [hsw]; omega) (by rw [hsw]; omega) (by rw [hsw]; rfl) (by decide) ?_
  refine lv_aload_n hx hb dL_call_138 rfl (lv_at hl 0 rfl) ?_
  refine lv_iload_n hx hb dL_call_139 rfl (lv_at hl 2 rfl) ?_
  refine g_callLW (As := [.ref (gad G 152), .int (iZ a)]) (rest := []) ⟨hx, hb, hml, hown, hts⟩ (c_L_tryWithdraw l hl0 G hdm M0 σ hσ a ha9) (vx_cwSW 2 hts gL_call_L_tryWithdraw rfl rfl rfl (by decide +kernel) ⟨Nat.le_of_ble_eq_true rfl, Nat.le_of_ble_eq_true rfl⟩) hG rfl hl.1 rfl (Nat.le_of_ble_eq_true rfl) dL_call_140 ⟨Nat.le_of_ble_eq_true rfl, Nat.le_of_ble_eq_true rfl⟩ (fun z1 K1 H locs hp hG => ?_)
  exact g_iretL hx hb hr hG hlocks hp ⟨Nat.le_of_ble_eq_true rfl, Nat.le_of_ble_eq_true rfl⟩ dL_call_143
set_option maxHeartbeats 4000000 in
set_option maxRecDepth 100000 in
theorem c_L_call_Interfere (l : Launch) (hl0 : l.stackTraces = false) (G : gG) (hdm : ∀ k, k < 169 → gdm G k) (M0 : Nat → Nat → Int) (σ : gS) (hσ : s_ok σ) (a : Int) (ha9 : -2147483648 ≤ a ∧ a < 2147483648) (b : Int) (hb9 : -2147483648 ≤ b ∧ b < 2147483648) (x2 x3 : Int) : gML l yL_call wsL_call ({ frames := 8, cells := 1, slots := 6, locals := 191 } : Room) 1 G M0 (kS σ) [.ref (gad G 152), .int (iZ 9), .int (iZ a), .int (iZ b), .int (iZ x2), .int (iZ x3)] (fun z K1 => z = a_interfere σ a b ∧ K1 = kS (t_interfere σ a b)) := by
  refine gML_of (cc := cL_call) (maxL := 6) (ret := some .int) (by decide) rfl (Nat.le_of_ble_eq_true rfl) ?_
  intro p e s m below meth c ls hx hb hr hml hown hts hlocks hl hG
  have hown : s.vm.findClass RL = some m.cls := hown
  have hl : lv_has ls 6 [(0, .ref (gad G 152)), (1, .int (iZ 9)), (2, .int (iZ a)), (3, .int (iZ b)), (4, .int (iZ x2)), (5, .int (iZ x3))] := hl
  refine lv_iload_n hx hb dL_call_0 rfl (lv_at hl 1 rfl) ?_
  have hsw : (iZ 9).toInt = 9 := iZ_int (by omega)
  refine lv_tableIn (off := 143) (tgt := 144) hx hb dL_call_1 (by rw [hsw]; omega) (by rw [hsw]; omega) (by rw [hsw]; rfl) (by decide) ?_
  refine lv_aload_n hx hb dL_call_144 rfl (lv_at hl 0 rfl) ?_
  refine lv_iload_n hx hb dL_call_145 rfl (lv_at hl 2 rfl) ?_
  refine lv_iload_n hx hb dL_call_146 rfl (lv_at hl 3 rfl) ?_
  refine g_callLW (As := [.ref (gad G 152), .int (iZ a), .int (iZ b)]) (rest := []) ⟨hx, hb, hml, hown, hts⟩ (c_L_tryInterfere l hl0 G hdm M0 σ hσ a ha9 b hb9) (vx_cwSW 3 hts gL_call_L_tryInterfere rfl rfl rfl (by decide +kernel) ⟨Nat.le_of_ble_eq_true rfl, Nat.le_of_ble_eq_true rfl⟩) hG rfl hl.1 rfl (Nat.le_of_ble_eq_true rfl) dL_call_147 ⟨Nat.le_of_ble_eq_true rfl, Nat.le_of_ble_eq_true rfl⟩ (fun z1 K1 H locs hp hG => ?_)
  exact g_iretL hx hb hr hG hlocks hp ⟨Nat.le_of_ble_eq_true rfl, Nat.le_of_ble_eq_true rfl⟩ dL_call_150
set_option maxHeartbeats 4000000 in
set_option maxRecDepth 100000 in
theorem c_L_call_Next (l : Launch) (hl0 : l.stackTraces = false) (G : gG) (hdm : ∀ k, k < 169 → gdm G k) (M0 : Nat → Nat → Int) (σ : gS) (hσ : s_ok σ) (a : Int) (ha9 : -2147483648 ≤ a ∧ a < 2147483648) (x1 x2 x3 : Int) : gML l yL_call wsL_call ({ frames := 8, cells := 1, slots := 6, locals := 191 } : Room) 1 G M0 (kS σ) [.ref (gad G 152), .int (iZ 10), .int (iZ a), .int (iZ x1), .int (iZ x2), .int (iZ x3)] (fun z K1 => z = a_next σ a ∧ K1 = kS (t_next σ a)) := by
  refine gML_of (cc := cL_call) (maxL := 6) (ret := some .int) (by decide) rfl (Nat.le_of_ble_eq_true rfl) ?_
  intro p e s m below meth c ls hx hb hr hml hown hts hlocks hl hG
  have hown : s.vm.findClass RL = some m.cls := hown
  have hl : lv_has ls 6 [(0, .ref (gad G 152)), (1, .int (iZ 10)), (2, .int (iZ a)), (3, .int (iZ x1)), (4, .int (iZ x2)), (5, .int (iZ x3))] := hl
  refine lv_iload_n hx hb dL_call_0 rfl (lv_at hl 1 rfl) ?_
  have hsw : (iZ 10).toInt = 10 := iZ_int (by omega)
  refine lv_tableIn (off := 150) (tgt := 151) hx hb dL_call_1 (by rw [hsw]; omega) (by rw [hsw]; omega) (by rw [hsw]; rfl) (by decide) ?_
  refine lv_aload_n hx hb dL_call_151 rfl (lv_at hl 0 rfl) ?_
  refine lv_iload_n hx hb dL_call_152 rfl (lv_at hl 2 rfl) ?_
  refine g_callLW (As := [.ref (gad G 152), .int (iZ a)]) (rest := []) ⟨hx, hb, hml, hown, hts⟩ (c_L_tryNext l hl0 G hdm M0 σ hσ a ha9) (vx_cwSW 2 hts gL_call_L_tryNext rfl rfl rfl (by decide +kernel) ⟨Nat.le_of_ble_eq_true rfl, Nat.le_of_ble_eq_true rfl⟩) hG rfl hl.1 rfl (Nat.le_of_ble_eq_true rfl) dL_call_153 ⟨Nat.le_of_ble_eq_true rfl, Nat.le_of_ble_eq_true rfl⟩ (fun z1 K1 H locs hp hG => ?_)
  exact g_iretL hx hb hr hG hlocks hp ⟨Nat.le_of_ble_eq_true rfl, Nat.le_of_ble_eq_true rfl⟩ dL_call_156
set_option maxHeartbeats 4000000 in
set_option maxRecDepth 100000 in
theorem c_L_call_Rank (l : Launch) (hl0 : l.stackTraces = false) (G : gG) (hdm : ∀ k, k < 169 → gdm G k) (M0 : Nat → Nat → Int) (σ : gS) (hσ : s_ok σ) (a : Int) (ha9 : -2147483648 ≤ a ∧ a < 2147483648) (x1 x2 x3 : Int) : gML l yL_call wsL_call ({ frames := 8, cells := 1, slots := 6, locals := 191 } : Room) 1 G M0 (kS σ) [.ref (gad G 152), .int (iZ 11), .int (iZ a), .int (iZ x1), .int (iZ x2), .int (iZ x3)] (fun z K1 => z = a_rank σ a ∧ K1 = kS (t_rank σ a)) := by
  refine gML_of (cc := cL_call) (maxL := 6) (ret := some .int) (by decide) rfl (Nat.le_of_ble_eq_true rfl) ?_
  intro p e s m below meth c ls hx hb hr hml hown hts hlocks hl hG
  have hown : s.vm.findClass RL = some m.cls := hown
  have hl : lv_has ls 6 [(0, .ref (gad G 152)), (1, .int (iZ 11)), (2, .int (iZ a)), (3, .int (iZ x1)), (4, .int (iZ x2)), (5, .int (iZ x3))] := hl
  refine lv_iload_n hx hb dL_call_0 rfl (lv_at hl 1 rfl) ?_
  have hsw : (iZ 11).toInt = 11 := iZ_int (by omega)
  refine lv_tableIn (off := 156) (tgt := 157) hx hb dL_call_1 (by rw [hsw]; omega) (by rw [hsw]; omega) (by rw [hsw]; rfl) (by decide) ?_
  refine lv_aload_n hx hb dL_call_157 rfl (lv_at hl 0 rfl) ?_
  refine lv_iload_n hx hb dL_call_158 rfl (lv_at hl 2 rfl) ?_
  refine g_callLW (As := [.ref (gad G 152), .int (iZ a)]) (rest := []) ⟨hx, hb, hml, hown, hts⟩ (c_L_tryRank l hl0 G hdm M0 σ hσ a ha9) (vx_cwSW 2 hts gL_call_L_tryRank rfl rfl rfl (by decide +kernel) ⟨Nat.le_of_ble_eq_true rfl, Nat.le_of_ble_eq_true rfl⟩) hG rfl hl.1 rfl (Nat.le_of_ble_eq_true rfl) dL_call_159 ⟨Nat.le_of_ble_eq_true rfl, Nat.le_of_ble_eq_true rfl⟩ (fun z1 K1 H locs hp hG => ?_)
  exact g_iretL hx hb hr hG hlocks hp ⟨Nat.le_of_ble_eq_true rfl, Nat.le_of_ble_eq_true rfl⟩ dL_call_162
set_option maxHeartbeats 4000000 in
set_option maxRecDepth 100000 in
theorem c_L_call_Draw (l : Launch) (hl0 : l.stackTraces = false) (G : gG) (hdm : ∀ k, k < 169 → gdm G k) (M0 : Nat → Nat → Int) (σ : gS) (hσ : s_ok σ) (a : Int) (ha9 : -2147483648 ≤ a ∧ a < 2147483648) (b : Int) (hb9 : -2147483648 ≤ b ∧ b < 2147483648) (x2 x3 : Int) : gML l yL_call wsL_call ({ frames := 8, cells := 1, slots := 6, locals := 191 } : Room) 1 G M0 (kS σ) [.ref (gad G 152), .int (iZ 12), .int (iZ a), .int (iZ b), .int (iZ x2), .int (iZ x3)] (fun z K1 => z = a_draw σ a b ∧ K1 = kS (t_draw σ a b)) := by
  refine gML_of (cc := cL_call) (maxL := 6) (ret := some .int) (by decide) rfl (Nat.le_of_ble_eq_true rfl) ?_
  intro p e s m below meth c ls hx hb hr hml hown hts hlocks hl hG
  have hown : s.vm.findClass RL = some m.cls := hown
  have hl : lv_has ls 6 [(0, .ref (gad G 152)), (1, .int (iZ 12)), (2, .int (iZ a)), (3, .int (iZ b)), (4, .int (iZ x2)), (5, .int (iZ x3))] := hl
  refine lv_iload_n hx hb dL_call_0 rfl (lv_at hl 1 rfl) ?_
  have hsw : (iZ 12).toInt = 12 := iZ_int (by omega)
  refine lv_tableIn (off := 162) (tgt := 163) hx hb dL_call_1 (by rw [hsw]; omega) (by rw [hsw]; omega) (by rw [hsw]; rfl) (by decide) ?_
  refine lv_aload_n hx hb dL_call_163 rfl (lv_at hl 0 rfl) ?_
  refine lv_iload_n hx hb dL_call_164 rfl (lv_at hl 2 rfl) ?_
  refine lv_iload_n hx hb dL_call_165 rfl (lv_at hl 3 rfl) ?_
  refine g_callLW (As := [.ref (gad G 152), .int (iZ a), .int (iZ b)]) (rest := []) ⟨hx, hb, hml, hown, hts⟩ (c_L_tryDraw l hl0 G hdm M0 σ hσ a ha9 b hb9) (vx_cwSW 3 hts gL_call_L_tryDraw rfl rfl rfl (by decide +kernel) ⟨Nat.le_of_ble_eq_true rfl, Nat.le_of_ble_eq_true rfl⟩) hG rfl hl.1 rfl (Nat.le_of_ble_eq_true rfl) dL_call_166 ⟨Nat.le_of_ble_eq_true rfl, Nat.le_of_ble_eq_true rfl⟩ (fun z1 K1 H locs hp hG => ?_)
  exact g_iretL hx hb hr hG hlocks hp ⟨Nat.le_of_ble_eq_true rfl, Nat.le_of_ble_eq_true rfl⟩ dL_call_169
set_option maxHeartbeats 4000000 in
set_option maxRecDepth 100000 in
theorem c_L_call_Undo (l : Launch) (hl0 : l.stackTraces = false) (G : gG) (hdm : ∀ k, k < 169 → gdm G k) (M0 : Nat → Nat → Int) (σ : gS) (hσ : s_ok σ)  (x0 x1 x2 x3 : Int) : gML l yL_call wsL_call ({ frames := 8, cells := 1, slots := 6, locals := 191 } : Room) 1 G M0 (kS σ) [.ref (gad G 152), .int (iZ 13), .int (iZ x0), .int (iZ x1), .int (iZ x2), .int (iZ x3)] (fun z K1 => z = a_undo σ ∧ K1 = kS (t_undo σ)) := by
  refine gML_of (cc := cL_call) (maxL := 6) (ret := some .int) (by decide) rfl (Nat.le_of_ble_eq_true rfl) ?_
  intro p e s m below meth c ls hx hb hr hml hown hts hlocks hl hG
  have hown : s.vm.findClass RL = some m.cls := hown
  have hl : lv_has ls 6 [(0, .ref (gad G 152)), (1, .int (iZ 13)), (2, .int (iZ x0)), (3, .int (iZ x1)), (4, .int (iZ x2)), (5, .int (iZ x3))] := hl
  refine lv_iload_n hx hb dL_call_0 rfl (lv_at hl 1 rfl) ?_
  have hsw : (iZ 13).toInt = 13 := iZ_int (by omega)
  refine lv_tableIn (off := 169) (tgt := 170) hx hb dL_call_1 (by rw [hsw]; omega) (by rw [hsw]; omega) (by rw [hsw]; rfl) (by decide) ?_
  refine lv_aload_n hx hb dL_call_170 rfl (lv_at hl 0 rfl) ?_
  refine g_callLW (As := [.ref (gad G 152)]) (rest := []) ⟨hx, hb, hml, hown, hts⟩ (c_L_tryUndo l hl0 G hdm M0 σ hσ ) (vx_cwSW 1 hts gL_call_L_tryUndo rfl rfl rfl (by decide +kernel) ⟨Nat.le_of_ble_eq_true rfl, Nat.le_of_ble_eq_true rfl⟩) hG rfl hl.1 rfl (Nat.le_of_ble_eq_true rfl) dL_call_171 ⟨Nat.le_of_ble_eq_true rfl, Nat.le_of_ble_eq_true rfl⟩ (fun z1 K1 H locs hp hG => ?_)
  exact g_iretL hx hb hr hG hlocks hp ⟨Nat.le_of_ble_eq_true rfl, Nat.le_of_ble_eq_true rfl⟩ dL_call_174
set_option maxHeartbeats 4000000 in
set_option maxRecDepth 100000 in
theorem c_L_call_Left (l : Launch) (hl0 : l.stackTraces = false) (G : gG) (hdm : ∀ k, k < 169 → gdm G k) (M0 : Nat → Nat → Int) (σ : gS) (hσ : s_ok σ) (a : Int) (ha9 : -2147483648 ≤ a ∧ a < 2147483648) (x1 x2 x3 : Int) : gML l yL_call wsL_call ({ frames := 8, cells := 1, slots := 6, locals := 191 } : Room) 1 G M0 (kS σ) [.ref (gad G 152), .int (iZ 14), .int (iZ a), .int (iZ x1), .int (iZ x2), .int (iZ x3)] (fun z K1 => z = a_left σ a ∧ K1 = kS σ) := by
  refine gML_of (cc := cL_call) (maxL := 6) (ret := some .int) (by decide) rfl (Nat.le_of_ble_eq_true rfl) ?_
  intro p e s m below meth c ls hx hb hr hml hown hts hlocks hl hG
  have hown : s.vm.findClass RL = some m.cls := hown
  have hl : lv_has ls 6 [(0, .ref (gad G 152)), (1, .int (iZ 14)), (2, .int (iZ a)), (3, .int (iZ x1)), (4, .int (iZ x2)), (5, .int (iZ x3))] := hl
  refine lv_iload_n hx hb dL_call_0 rfl (lv_at hl 1 rfl) ?_
  have hsw : (iZ 14).toInt = 14 := iZ_int (by omega)
  refine lv_tableIn (off := 174) (tgt := 175) hx hb dL_call_1 (by rw [hsw]; omega) (by rw [hsw]; omega) (by rw [hsw]; rfl) (by decide) ?_
  refine lv_aload_n hx hb dL_call_175 rfl (lv_at hl 0 rfl) ?_
  refine lv_iload_n hx hb dL_call_176 rfl (lv_at hl 2 rfl) ?_
  refine g_callLW (As := [.ref (gad G 152), .int (iZ a)]) (rest := []) ⟨hx, hb, hml, hown, hts⟩ (c_L_tryLeft l hl0 G hdm M0 σ hσ a ha9) (vx_cwSW 2 hts gL_call_L_tryLeft rfl rfl rfl (by decide +kernel) ⟨Nat.le_of_ble_eq_true rfl, Nat.le_of_ble_eq_true rfl⟩) hG rfl hl.1 rfl (Nat.le_of_ble_eq_true rfl) dL_call_177 ⟨Nat.le_of_ble_eq_true rfl, Nat.le_of_ble_eq_true rfl⟩ (fun z1 K1 H locs hp hG => ?_)
  exact g_iretL hx hb hr hG hlocks hp ⟨Nat.le_of_ble_eq_true rfl, Nat.le_of_ble_eq_true rfl⟩ dL_call_180
set_option maxHeartbeats 4000000 in
set_option maxRecDepth 100000 in
theorem c_L_call_Best (l : Launch) (hl0 : l.stackTraces = false) (G : gG) (hdm : ∀ k, k < 169 → gdm G k) (M0 : Nat → Nat → Int) (σ : gS) (hσ : s_ok σ) (a : Int) (ha9 : -2147483648 ≤ a ∧ a < 2147483648) (x1 x2 x3 : Int) : gML l yL_call wsL_call ({ frames := 8, cells := 1, slots := 6, locals := 191 } : Room) 1 G M0 (kS σ) [.ref (gad G 152), .int (iZ 15), .int (iZ a), .int (iZ x1), .int (iZ x2), .int (iZ x3)] (fun z K1 => z = a_best σ a ∧ K1 = kS σ) := by
  refine gML_of (cc := cL_call) (maxL := 6) (ret := some .int) (by decide) rfl (Nat.le_of_ble_eq_true rfl) ?_
  intro p e s m below meth c ls hx hb hr hml hown hts hlocks hl hG
  have hown : s.vm.findClass RL = some m.cls := hown
  have hl : lv_has ls 6 [(0, .ref (gad G 152)), (1, .int (iZ 15)), (2, .int (iZ a)), (3, .int (iZ x1)), (4, .int (iZ x2)), (5, .int (iZ x3))] := hl
  refine lv_iload_n hx hb dL_call_0 rfl (lv_at hl 1 rfl) ?_
  have hsw : (iZ 15).toInt = 15 := iZ_int (by omega)
  refine lv_tableIn (off := 180) (tgt := 181) hx hb dL_call_1 (by rw [hsw]; omega) (by rw [hsw]; omega) (by rw [hsw]; rfl) (by decide) ?_
  refine lv_aload_n hx hb dL_call_181 rfl (lv_at hl 0 rfl) ?_
  refine lv_iload_n hx hb dL_call_182 rfl (lv_at hl 2 rfl) ?_
  refine g_callLW (As := [.ref (gad G 152), .int (iZ a)]) (rest := []) ⟨hx, hb, hml, hown, hts⟩ (c_L_tryBest l hl0 G hdm M0 σ hσ a ha9) (vx_cwSW 2 hts gL_call_L_tryBest rfl rfl rfl (by decide +kernel) ⟨Nat.le_of_ble_eq_true rfl, Nat.le_of_ble_eq_true rfl⟩) hG rfl hl.1 rfl (Nat.le_of_ble_eq_true rfl) dL_call_183 ⟨Nat.le_of_ble_eq_true rfl, Nat.le_of_ble_eq_true rfl⟩ (fun z1 K1 H locs hp hG => ?_)
  exact g_iretL hx hb hr hG hlocks hp ⟨Nat.le_of_ble_eq_true rfl, Nat.le_of_ble_eq_true rfl⟩ dL_call_186
set_option maxHeartbeats 4000000 in
set_option maxRecDepth 100000 in
theorem c_L_call_May (l : Launch) (hl0 : l.stackTraces = false) (G : gG) (hdm : ∀ k, k < 169 → gdm G k) (M0 : Nat → Nat → Int) (σ : gS) (hσ : s_ok σ) (a : Int) (ha9 : -2147483648 ≤ a ∧ a < 2147483648) (b : Int) (hb9 : -2147483648 ≤ b ∧ b < 2147483648) (x2 x3 : Int) : gML l yL_call wsL_call ({ frames := 8, cells := 1, slots := 6, locals := 191 } : Room) 1 G M0 (kS σ) [.ref (gad G 152), .int (iZ 16), .int (iZ a), .int (iZ b), .int (iZ x2), .int (iZ x3)] (fun z K1 => z = a_may σ a b ∧ K1 = kS σ) := by
  refine gML_of (cc := cL_call) (maxL := 6) (ret := some .int) (by decide) rfl (Nat.le_of_ble_eq_true rfl) ?_
  intro p e s m below meth c ls hx hb hr hml hown hts hlocks hl hG
  have hown : s.vm.findClass RL = some m.cls := hown
  have hl : lv_has ls 6 [(0, .ref (gad G 152)), (1, .int (iZ 16)), (2, .int (iZ a)), (3, .int (iZ b)), (4, .int (iZ x2)), (5, .int (iZ x3))] := hl
  refine lv_iload_n hx hb dL_call_0 rfl (lv_at hl 1 rfl) ?_
  have hsw : (iZ 16).toInt = 16 := iZ_int (by omega)
  refine lv_tableIn (off := 186) (tgt := 187) hx hb dL_call_1 (by rw [hsw]; omega) (by rw [hsw]; omega) (by rw [hsw]; rfl) (by decide) ?_
  refine lv_aload_n hx hb dL_call_187 rfl (lv_at hl 0 rfl) ?_
  refine lv_iload_n hx hb dL_call_188 rfl (lv_at hl 2 rfl) ?_
  refine lv_iload_n hx hb dL_call_189 rfl (lv_at hl 3 rfl) ?_
  refine g_callLW (As := [.ref (gad G 152), .int (iZ a), .int (iZ b)]) (rest := []) ⟨hx, hb, hml, hown, hts⟩ (c_L_tryMay l hl0 G hdm M0 σ hσ a ha9 b hb9) (vx_cwSW 3 hts gL_call_L_tryMay rfl rfl rfl (by decide +kernel) ⟨Nat.le_of_ble_eq_true rfl, Nat.le_of_ble_eq_true rfl⟩) hG rfl hl.1 rfl (Nat.le_of_ble_eq_true rfl) dL_call_190 ⟨Nat.le_of_ble_eq_true rfl, Nat.le_of_ble_eq_true rfl⟩ (fun z1 K1 H locs hp hG => ?_)
  exact g_iretL hx hb hr hG hlocks hp ⟨Nat.le_of_ble_eq_true rfl, Nat.le_of_ble_eq_true rfl⟩ dL_call_193
set_option maxHeartbeats 4000000 in
set_option maxRecDepth 100000 in
theorem c_L_call_Save (l : Launch) (hl0 : l.stackTraces = false) (G : gG) (hdm : ∀ k, k < 169 → gdm G k) (M0 : Nat → Nat → Int) (σ : gS) (hσ : s_ok σ) (a : Int) (ha9 : -2147483648 ≤ a ∧ a < 2147483648) (x1 x2 x3 : Int) : gML l yL_call wsL_call ({ frames := 8, cells := 1, slots := 6, locals := 191 } : Room) 1 G M0 (kS σ) [.ref (gad G 152), .int (iZ 17), .int (iZ a), .int (iZ x1), .int (iZ x2), .int (iZ x3)] (fun z K1 => z = a_save σ a ∧ K1 = kS (t_save σ a)) := by
  refine gML_of (cc := cL_call) (maxL := 6) (ret := some .int) (by decide) rfl (Nat.le_of_ble_eq_true rfl) ?_
  intro p e s m below meth c ls hx hb hr hml hown hts hlocks hl hG
  have hown : s.vm.findClass RL = some m.cls := hown
  have hl : lv_has ls 6 [(0, .ref (gad G 152)), (1, .int (iZ 17)), (2, .int (iZ a)), (3, .int (iZ x1)), (4, .int (iZ x2)), (5, .int (iZ x3))] := hl
  refine lv_iload_n hx hb dL_call_0 rfl (lv_at hl 1 rfl) ?_
  have hsw : (iZ 17).toInt = 17 := iZ_int (by omega)
  refine lv_tableIn (off := 193) (tgt := 194) hx hb dL_call_1 (by rw [hsw]; omega) (by rw [hsw]; omega) (by rw [hsw]; rfl) (by decide) ?_
  refine lv_aload_n hx hb dL_call_194 rfl (lv_at hl 0 rfl) ?_
  refine lv_iload_n hx hb dL_call_195 rfl (lv_at hl 2 rfl) ?_
  refine g_callLW (As := [.ref (gad G 152), .int (iZ a)]) (rest := []) ⟨hx, hb, hml, hown, hts⟩ (c_L_trySave l hl0 G hdm M0 σ hσ a ha9) (vx_cwSW 2 hts gL_call_L_trySave rfl rfl rfl (by decide +kernel) ⟨Nat.le_of_ble_eq_true rfl, Nat.le_of_ble_eq_true rfl⟩) hG rfl hl.1 rfl (Nat.le_of_ble_eq_true rfl) dL_call_196 ⟨Nat.le_of_ble_eq_true rfl, Nat.le_of_ble_eq_true rfl⟩ (fun z1 K1 H locs hp hG => ?_)
  exact g_iretL hx hb hr hG hlocks hp ⟨Nat.le_of_ble_eq_true rfl, Nat.le_of_ble_eq_true rfl⟩ dL_call_199
set_option maxHeartbeats 4000000 in
set_option maxRecDepth 100000 in
theorem c_L_call_Restore (l : Launch) (hl0 : l.stackTraces = false) (G : gG) (hdm : ∀ k, k < 169 → gdm G k) (M0 : Nat → Nat → Int) (σ : gS) (hσ : s_ok σ) (a : Int) (ha9 : -2147483648 ≤ a ∧ a < 2147483648) (x1 x2 x3 : Int) : gML l yL_call wsL_call ({ frames := 8, cells := 1, slots := 6, locals := 191 } : Room) 1 G M0 (kS σ) [.ref (gad G 152), .int (iZ 18), .int (iZ a), .int (iZ x1), .int (iZ x2), .int (iZ x3)] (fun z K1 => z = a_restore σ a ∧ K1 = kS (t_restore σ a)) := by
  refine gML_of (cc := cL_call) (maxL := 6) (ret := some .int) (by decide) rfl (Nat.le_of_ble_eq_true rfl) ?_
  intro p e s m below meth c ls hx hb hr hml hown hts hlocks hl hG
  have hown : s.vm.findClass RL = some m.cls := hown
  have hl : lv_has ls 6 [(0, .ref (gad G 152)), (1, .int (iZ 18)), (2, .int (iZ a)), (3, .int (iZ x1)), (4, .int (iZ x2)), (5, .int (iZ x3))] := hl
  refine lv_iload_n hx hb dL_call_0 rfl (lv_at hl 1 rfl) ?_
  have hsw : (iZ 18).toInt = 18 := iZ_int (by omega)
  refine lv_tableOut (tgt := 200) hx hb dL_call_1 (by rw [hsw]; omega) (by decide) ?_
  refine lv_aload_n hx hb dL_call_200 rfl (lv_at hl 0 rfl) ?_
  refine lv_iload_n hx hb dL_call_201 rfl (lv_at hl 2 rfl) ?_
  refine g_callLW (As := [.ref (gad G 152), .int (iZ a)]) (rest := []) ⟨hx, hb, hml, hown, hts⟩ (c_L_tryRestore l hl0 G hdm M0 σ hσ a ha9) (vx_cwSW 2 hts gL_call_L_tryRestore rfl rfl rfl (by decide +kernel) ⟨Nat.le_of_ble_eq_true rfl, Nat.le_of_ble_eq_true rfl⟩) hG rfl hl.1 rfl (Nat.le_of_ble_eq_true rfl) dL_call_202 ⟨Nat.le_of_ble_eq_true rfl, Nat.le_of_ble_eq_true rfl⟩ (fun z1 K1 H locs hp hG => ?_)
  exact g_iretL hx hb hr hG hlocks hp ⟨Nat.le_of_ble_eq_true rfl, Nat.le_of_ble_eq_true rfl⟩ dL_call_205
