/-! THE LAW'S START: what the tables and the Statement give of it -/
def lw_fl : Jvm.Cond → List Jvm.Cond → List Jvm.Cond
  | .and a b, acc => lw_fl a (lw_fl b acc)
  | c, acc => c :: acc
theorem lw_fl_of {args : Array Value} {s : State} (T : Jvm.Cond) : ∀ acc : List Jvm.Cond, T.before args s = true → (∀ c ∈ acc, c.before args s = true) → ∀ c ∈ lw_fl T acc, c.before args s = true := by
  induction T with
  | and a b iha ihb =>
    intro acc h ha
    rw [Cond.before_and, Bool.and_eq_true] at h
    exact iha _ h.1 (ihb _ h.2 ha)
  | _ =>
    intro acc h ha c hc
    simp only [lw_fl, List.mem_cons] at hc
    rcases hc with hc | hc
    · rw [hc]; exact h
    · exact ha c hc
theorem lw_eqi {args : Array Value} {s : State} {t : Term} {z : Int32} (h : (Cond.eq t (.int z)).before args s = true) : t.eval args s none [] s = some (.int z) := by
  cases hv : t.eval args s none [] s with
  | none => simp [Cond.before, Cond.holds, Cond.value, hv] at h
  | some w =>
    have hz : (Term.int z).eval args s none [] s = some (.int z) := rfl
    simp only [Cond.before, Cond.holds, Cond.value, hv, hz] at h
    cases w <;> simp_all
abbrev lw_W : Term := .static "DogTrials" "WORTH" "[I"
theorem lw_fw1 : Cond.arrayOf lw_W .int ∈ lw_fl (Jvm.Cond.and given_1 narrow_1) [] := by decide +kernel
theorem lw_fw2 : Cond.eq (.length lw_W) (.int 6) ∈ lw_fl (Jvm.Cond.and given_1 narrow_1) [] := by decide +kernel
theorem lw_fw3 : ∀ q ∈ ([(0, 20), (1, 10), (2, 20), (3, 30), (4, 10), (5, 10)] : List (Int32 × Int32)), Cond.eq (.elem lw_W (.int q.1)) (.int q.2) ∈ lw_fl (Jvm.Cond.and given_1 narrow_1) [] := by decide +kernel
theorem lw_fw4 : ∀ q ∈ ([("java/lang/IllegalStateException", "java/lang/IllegalArgumentException"), ("java/lang/IllegalArgumentException", "java/lang/IndexOutOfBoundsException"), ("java/lang/IllegalStateException", "java/lang/IndexOutOfBoundsException")] : List (String × String)), Cond.not (.castable q.1 q.2) ∈ lw_fl (Jvm.Cond.and given_1 narrow_1) [] := by decide +kernel
theorem lw_fw5 : ∀ q ∈ gStr, Cond.exactly (.string "DogTrials" q.1) "java/lang/String" ∈ lw_fl (Jvm.Cond.and given_1 narrow_1) [] := by decide +kernel
theorem lw_fw6 : ∀ q ∈ gStr, Cond.stringRef "DogTrials" q.1 q.2 ∈ lw_tbl := by decide +kernel
set_option maxHeartbeats 4000000 in
theorem lw_xs {p : Program} {s : State} {m : MethodId} {meth : Method} {c : Code} {b L : Nat} {xs : Nat → Int32} (C0 : lw_At p s m meth c b L xs) : gXs s := by
  obtain ⟨hx, hb, hr, hml, hown, hts, hX, hbl, hlocks, hgv⟩ := C0
  have hgs := lw_fl_of (args := #[Value.ref b]) (s := s) (Jvm.Cond.and given_1 narrow_1) [] hgv (fun c hc => absurd hc List.not_mem_nil)
  refine ⟨va_Nw.of rfl (hts (.castable "java/lang/IllegalArgumentException" "java/lang/IllegalArgumentException") (List.mem_of_getElem? (i := 242) (by decide +kernel))), va_Nw.of rfl (hts (.castable "java/lang/IllegalStateException" "java/lang/IllegalStateException") (List.mem_of_getElem? (i := 434) (by decide +kernel))), va_Nw.of rfl (hts (.castable "java/lang/IndexOutOfBoundsException" "java/lang/IndexOutOfBoundsException") (List.mem_of_getElem? (i := 547) (by decide +kernel))), va_Nc.of (hgs _ (lw_fw4 ("java/lang/IllegalStateException", "java/lang/IllegalArgumentException") (by decide))), va_Nc.of (hgs _ (lw_fw4 ("java/lang/IllegalArgumentException", "java/lang/IndexOutOfBoundsException") (by decide))), va_Nc.of (hgs _ (lw_fw4 ("java/lang/IllegalStateException", "java/lang/IndexOutOfBoundsException") (by decide))), va_Nw.of (A := #[Value.ref b]) rfl (hts (.declares (Bundle.initS "java/lang/RuntimeException")) (List.mem_of_getElem? (i := 244) (by decide +kernel))), va_Nw.of (A := #[Value.ref b]) rfl (hts (.declares (Bundle.initS "java/lang/Exception")) (List.mem_of_getElem? (i := 246) (by decide +kernel))), va_Nw.of (A := #[Value.ref b]) rfl (hts (.declares (Bundle.initS Bundle.tN)) (List.mem_of_getElem? (i := 248) (by decide +kernel))), fun q hq => ?_⟩
  obtain ⟨a, c9, cell, k9, q1, -⟩ := Cond.exactly_spec (args := #[Value.ref b]) (first := s) (o := none) (s := s) (idx := []) (t := .string "DogTrials" q.1) (cls := "java/lang/String") (hgs _ (lw_fw5 q hq))
  exact ⟨a, vk_R.of (A := #[Value.ref b]) (hts _ (lw_fw6 q hq)) q1⟩
theorem lw_fw7U : Cond.isRef (.static Bundle.tN "UNASSIGNED_STACK" Bundle.steD) ∈ lw_fl (Jvm.Cond.and given_1 narrow_1) [] := by decide +kernel
theorem lw_fw7S : Cond.isRef (.static Bundle.tN "SUPPRESSED_SENTINEL" Bundle.listD) ∈ lw_fl (Jvm.Cond.and given_1 narrow_1) [] := by decide +kernel
set_option maxHeartbeats 4000000 in
theorem lw_world {p : Program} {s : State} {m : MethodId} {meth : Method} {c : Code} {b L : Nat} {xs : Nat → Int32} (C0 : lw_At p s m meth c b L xs) : ∃ B : wB, B.2.2.1 = (s.heap.size, 0) ∧ wI B s ∧ gXz (wg B (fun k => k < 179) s.heap.size) s s.heap := by
  obtain ⟨hx, hb, hr, hml, hown, hts, hX, hbl, hlocks, hgv⟩ := C0
  have hgs := lw_fl_of (args := #[Value.ref b]) (s := s) (Jvm.Cond.and given_1 narrow_1) [] hgv (fun c hc => absurd hc List.not_mem_nil)
  obtain ⟨c0, iS0, hKn0⟩ := u_known (C := RX0) (T := TX0) (N := 4) (n := 4) hts (fun w h => (in_wsX00 w h).1) (hts (.instantiable RX0 4) (List.mem_of_getElem? (i := 132) (by decide +kernel)))
  obtain ⟨c1, iS1, hKn1⟩ := u_known (C := RX1) (T := TX1) (N := 3) (n := 3) hts (fun w h => (in_wsX10 w h).1) (hts (.instantiable RX1 3) (List.mem_of_getElem? (i := 173) (by decide +kernel)))
  obtain ⟨c2, iS2, hKn2⟩ := u_known (C := RX2) (T := TX2) (N := 3) (n := 3) hts (fun w h => (in_wsX20 w h).1) (hts (.instantiable RX2 3) (List.mem_of_getElem? (i := 153) (by decide +kernel)))
  obtain ⟨c3, iS3, hKn3⟩ := u_known (C := RX3) (T := TX3) (N := 15) (n := 15) hts (fun w h => (in_wsX30 w h).1) (hts (.instantiable RX3 15) (List.mem_of_getElem? (i := 45) (by decide +kernel)))
  obtain ⟨c4, iS4, hKn4⟩ := u_known (C := RX4) (T := TX4) (N := 3) (n := 3) hts (fun w h => (in_wsX40 w h).1) (hts (.instantiable RX4 3) (List.mem_of_getElem? (i := 192) (by decide +kernel)))
  obtain ⟨c5, iS5, hKn5⟩ := u_known (C := RX5) (T := TX5) (N := 8) (n := 8) hts (fun w h => (in_wsX50 w h).1) (hts (.instantiable RX5 8) (List.mem_of_getElem? (i := 37) (by decide +kernel)))
  obtain ⟨dC, dI, hKc⟩ : ∃ (dC : Nat → ClassId) (dI : Nat → Nat → Nat), ∀ (k : Nat) (q : vw_C), vwCl[k]? = some q → u_Kn s q.1 q.2.1 q.2.2 (dC k) (dI k) := by
    refine ⟨fun k => if k = 0 then c0 else if k = 1 then c1 else if k = 2 then c2 else if k = 3 then c3 else if k = 4 then c4 else c5, fun k => if k = 0 then iS0 else if k = 1 then iS1 else if k = 2 then iS2 else if k = 3 then iS3 else if k = 4 then iS4 else iS5, ?_⟩
    intro k q hq
    match k, hq with
    | 0, hq => cases hq; exact hKn0
    | 1, hq => cases hq; exact hKn1
    | 2, hq => cases hq; exact hKn2
    | 3, hq => cases hq; exact hKn3
    | 4, hq => cases hq; exact hKn4
    | 5, hq => cases hq; exact hKn5
    | k + 6, hq => simp [vwCl] at hq
  obtain ⟨a0, k0, p0, f0, g0, h0⟩ := Cond.arrayClass_spec (args := #[Value.ref b]) (first := s) (o := none) (s := s) (idx := []) (hts (.arrayClass .int) (List.mem_of_getElem? (i := 129) (by decide +kernel)))
  obtain ⟨a1, k1, p1, f1, g1, h1⟩ := Cond.arrayClass_spec (args := #[Value.ref b]) (first := s) (o := none) (s := s) (idx := []) (hts (.arrayClass .boolean) (List.mem_of_getElem? (i := 130) (by decide +kernel)))
  obtain ⟨p2, a2, k2, f2, -, g2, h2, f2b⟩ := Cond.arrayOver_spec (args := #[Value.ref b]) (first := s) (o := none) (s := s) (idx := []) (hts (.arrayOver (.object "DogTrials$Trial")) (List.mem_of_getElem? (i := 179) (by decide +kernel)))
  have hA : ∀ a : Nat, a < s.heap.size → ¬ (fun q => s.heap.size ≤ q) a := fun a h1 h2 => absurd h1 (Nat.not_lt.mpr h2)
  have hle : (Term.length lw_W).eval #[Value.ref b] s none [] s = some (.int (Int32.ofNat 6)) := lw_eqi (hgs _ lw_fw2)
  obtain ⟨t, ht, hT⟩ := va_Tof (args := #[Value.ref b]) (s := s) (tm := lw_W) (ty := .int) (N := 6) (f := fun j => .int (iZ (q_wth j))) (A := fun q => s.heap.size ≤ q) (by decide) (hgs _ lw_fw1) hle (fun j hj => by
    rcases (show j = 0 ∨ j = 1 ∨ j = 2 ∨ j = 3 ∨ j = 4 ∨ j = 5 by omega) with rfl | rfl | rfl | rfl | rfl | rfl
    · exact lw_eqi (hgs _ (lw_fw3 (0, 20) (by decide)))
    · exact lw_eqi (hgs _ (lw_fw3 (1, 10) (by decide)))
    · exact lw_eqi (hgs _ (lw_fw3 (2, 20) (by decide)))
    · exact lw_eqi (hgs _ (lw_fw3 (3, 30) (by decide)))
    · exact lw_eqi (hgs _ (lw_fw3 (4, 10) (by decide)))
    · exact lw_eqi (hgs _ (lw_fw3 (5, 10) (by decide)))) hA
  have hZ := va_Zof (args := #[Value.ref b]) (s := s) (C := "DogTrials") (n := "WORTH") (d := "[I") (A := fun q => s.heap.size ≤ q) (hts _ (List.mem_of_getElem? (i := 362) (by decide +kernel))) (hts (.initialized "DogTrials") (List.mem_of_getElem? (i := 22) (by decide +kernel))) ht hA
  refine ⟨((dC, dI), (fun k => if k = 0 then a0 else if k = 1 then a1 else a2), (s.heap.size, 0), t), rfl, ⟨⟨⟨hKc, fun k q hq => ?_⟩, fun i j (hi : False) => hi.elim, fun k (hk : False) => hk.elim, Nat.le_refl _, hZ, hT, ?_⟩, ?_⟩, ?_⟩
  · match k, hq with
    | 0, hq => cases hq; exact ⟨fun n z => ⟨fun k h => (by cases h), k0, g0, p0, h0⟩, f0⟩
    | 1, hq => cases hq; exact ⟨fun n z => ⟨fun k h => (by cases h), k1, g1, p1, h1⟩, f1⟩
    | 2, hq => cases hq; exact ⟨fun n z => ⟨fun k h => (by cases h), k2, g2, p2, h2⟩, k2, p2, g2, h2, f2, f2b⟩
    | k + 3, hq => simp at hq
  · exact ⟨va_Nw.of (A := #[Value.ref b]) rfl (hts (.fieldLinkNest RX3 72 "DogTrials" "WORTH" "[I" "DogTrials") (List.mem_of_getElem? (i := 402) (by decide +kernel))), va_Nw.of (A := #[Value.ref b]) rfl (hts (.fieldLinkNest RX0 56 "DogTrials" "WORTH" "[I" "DogTrials") (List.mem_of_getElem? (i := 812) (by decide +kernel))), va_Nw.of (A := #[Value.ref b]) rfl (hts (.fieldLinkNest RX2 130 "DogTrials" "WORTH" "[I" "DogTrials") (List.mem_of_getElem? (i := 361) (by decide +kernel))), va_Nw.of (A := #[Value.ref b]) rfl (hts (.methodLinkNest RX2 77 yX5_isMinutes "DogTrials") (List.mem_of_getElem? (i := 850) (by decide +kernel))), va_Nw.of (A := #[Value.ref b]) rfl (hts (.methodLinkNest RX2 91 yX5_isPhase "DogTrials") (List.mem_of_getElem? (i := 383) (by decide +kernel))), va_Nw.of (A := #[Value.ref b]) rfl (hts (.methodLinkNest RX2 98 yX5_isSunset "DogTrials") (List.mem_of_getElem? (i := 860) (by decide +kernel))), va_Nw.of (A := #[Value.ref b]) rfl (hts (.methodLinkNest RX4 55 yX5_isOwner "DogTrials") (List.mem_of_getElem? (i := 488) (by decide +kernel))), va_Nw.of (A := #[Value.ref b]) rfl (hts (.methodLinkNest RX4 70 yX5_isDraw "DogTrials") (List.mem_of_getElem? (i := 497) (by decide +kernel))), va_Nw.of (A := #[Value.ref b]) rfl (hts (.methodLinkNest RX4 77 yX5_isPhase "DogTrials") (List.mem_of_getElem? (i := 512) (by decide +kernel)))⟩
  · exact ⟨va_AO.of (A := #[Value.ref b]) (hts _ (List.mem_of_getElem? (i := 179) (by decide +kernel))), va_Nw.of (A := #[Value.ref b]) rfl (hts (.methodLinkNest RX5 21 yX0_init "DogTrials") (List.mem_of_getElem? (i := 133) (by decide +kernel))), va_Nw.of (A := #[Value.ref b]) rfl (hts (.methodLinkNest RX5 28 yX2_init "DogTrials") (List.mem_of_getElem? (i := 154) (by decide +kernel))), va_Nw.of (A := #[Value.ref b]) rfl (hts (.methodLinkNest RX2 20 yX0_init "DogTrials") (List.mem_of_getElem? (i := 161) (by decide +kernel))), va_Nw.of (A := #[Value.ref b]) rfl (hts (.methodLinkNest RX5 42 yX4_init "DogTrials") (List.mem_of_getElem? (i := 193) (by decide +kernel)))⟩
  · exact ⟨vx_Zqof (args := #[Value.ref b]) (hts _ (List.mem_of_getElem? (i := 267) (by decide +kernel))) (hts (.initialized Bundle.tN) (List.mem_of_getElem? (i := 28) (by decide +kernel))) (hgs _ (lw_fw7U)) hA, vx_Zqof (args := #[Value.ref b]) (hts _ (List.mem_of_getElem? (i := 269) (by decide +kernel))) (hts (.initialized Bundle.tN) (List.mem_of_getElem? (i := 28) (by decide +kernel))) (hgs _ (lw_fw7S)) hA⟩
