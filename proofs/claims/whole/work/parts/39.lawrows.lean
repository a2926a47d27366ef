/-! THE CLAIM OUT OF ONE WALK OF THE LAW'S BODY. Your part is whole_start (and what it stands on); all else here is the same for every law, but numbers. -/
def R_law : String := "DogTrialsLaw"
def lw_P (b : Addr) (xs : List Int32) (args : Array Value) (s : State) : Prop := args = #[.ref b] ∧ s.IntsAt b xs ∧ xs.length ≤ 2048 ∧ (Jvm.Cond.and given_1 narrow_1).before args s = true
def lw_Q (_ : Array Value) (s : State) (o : Outcome) (t : State) : Prop := o = .returned (some (.int 1)) ∧ Framed s o t [] 601024 7293034
def lw_Z (below : List Frame) (a : Array Value) (s : State) : State → Prop := fun t => ∃ o, t.status = .running ∧ Ended t below o ∧ lw_Q a s o t
/-- the law's own end, with 1 on the stack, nothing written that was there before, its room as the claim has it -/
theorem lw_ret {p : Program} {l : Launch} {e : Env} {s : State} {m : MethodId} {below : List Frame} {meth : Method} {c : Code} {b : Nat} (hx : p.tables.exec = Jvm.exec) (hb : c.code = code) (hr : meth.sig.returnType = ret) (hlocks : meth.locks = false) {pc : Nat} {H : Heap} {ls : Array Slot} (hdg : decode code pc = .ok (.ireturn, 1)) : W p l e room_1 s m #[Value.ref b] below meth c H [] 601024 7293034 (lw_Z below #[Value.ref b] s) (F0 m pc ls [.int 1]) := by
  intro T hT X
  obtain ⟨fs, hret, hrun, hended, hW, hframe⟩ := X.leave (v := some (.int 1)) (hlocks := hlocks) (fun h => by rw [hr] at h; cases h)
  have hmeth' : T.vm.method? m = some meth := X.method'
  refine ⟨T.setFrames fs, ?_, .returned (some (.int 1)), hrun, hended, rfl, ⟨_, rfl⟩, hW, hframe⟩
  jvm_step X.here [X.here.top, hx, hb, hdg, hmeth', hr, ret, narrow_b1]
  (try refine ⟨rfl, ?_⟩); (try refine ⟨rfl, ?_⟩)
  first | (intro acts; rw [hret _ acts rfl rfl rfl]) | rw [hret _ _ rfl rfl rfl]
  exact Steps.refl _
/-- what holds at the law's entry: the machine, the code, the tables' words (any of lw_tbl by 'hts w (by decide +kernel)'), the script of L ints xs at the cell b, what the Statement gives of the start (any of its parts by flat_of_before) -/
def lw_At (p : Program) (s : State) (m : MethodId) (meth : Method) (c : Code) (b L : Nat) (xs : Nat → Int32) : Prop :=
  p.tables.exec = Jvm.exec ∧ c.code = code ∧ meth.sig.returnType = ret ∧ c.maxLocals = 7 ∧ s.vm.findClass R_law = some m.cls ∧ (∀ w ∈ lw_tbl, w.before #[Value.ref b] s = true) ∧ va_X b L xs s s.heap ∧ b < s.heap.size ∧ meth.locks = false ∧ (Jvm.Cond.and given_1 narrow_1).before #[Value.ref b] s = true

/-! THE LAW'S LOOP: rows that each case uses -/
def lw_C (p : Program) (l : Launch) (s : State) (m : MethodId) (meth : Method) (c : Code) (G : gG) (b L : Nat) (xs : Nat → Int32) : Prop :=
  lw_At p s m meth c b L xs ∧ l.stackTraces = false ∧ (∀ k, k < 179 → gdm G k) ∧ gXt G s ∧ ¬ gA G b ∧ L ≤ 2048
theorem lw_hts {p : Program} {s : State} {m : MethodId} {meth : Method} {c : Code} {b L : Nat} {xs : Nat → Int32} (C : lw_At p s m meth c b L xs) : ∀ w ∈ wsL_law, w.before #[Value.ref b] s = true := fun w hw => C.2.2.2.2.2.1 w (wsL_law_in w hw)
/-- the long of two ints of the script -/
def lw_lv (xs : Nat → Int32) (k : Nat) : Int64 := ((xs k).toInt64 <<< ((32 : Int32).toInt64 &&& 63)) ||| ((xs (k + 1)).toInt64 &&& (4294967295 : Int64))
theorem lw_r32 (x : Int32) : -2147483648 ≤ x.toInt ∧ x.toInt < 2147483648 := by have h1 := Int32.le_toInt x; have h2 := Int32.toInt_lt x; omega
theorem lw_r64 (x : Int64) : -9223372036854775808 ≤ x.toInt ∧ x.toInt < 9223372036854775808 := by have h1 := Int64.le_toInt x; have h2 := Int64.toInt_lt x; omega
def lw_ls (b : Nat) (G : gG) (i : Nat) : List (Nat × Value) := [(4, .int (iZ (i : Int))), (3, .ref (gad G 178)), (2, .ref (gad G 169)), (1, .ref (gad G 152)), (0, .ref b)]
theorem arrV_cong (cI : ClassId) (N : Nat) {f g : Nat → Value} (h : ∀ j, j < N → f j = g j) : arrV cI N f = arrV cI N g := by
  have e : Array.ofFn (n := N) (fun j => f j.val) = Array.ofFn (n := N) (fun j => g j.val) := by
    congr 1
    funext j
    exact h j.val j.isLt
  unfold arrV
  rw [e]
def q_cut (M : Nat → Nat → Int) : Nat → Nat → Int := fun k => if k = 154 ∨ k = 176 then (fun j => if j < 2 then M k j else 0) else M k
/-- what lies past the two slots is no part of the world -/
theorem law_cut {G : gG} {M : Nat → Nat → Int} {s : State} {H : Heap} {locs : List Loc} {o n tn : Nat} (hJ : q_J M o n tn) (hG : gH G M s H locs) : ∃ M9, q_J M9 o n tn ∧ gH G M9 s H locs ∧ ∀ j : Nat, (2 ≤ j → M9 154 j = 0) ∧ (2 ≤ j → M9 176 j = 0) := by
  have e : ∀ k, k ≠ 154 → k ≠ 176 → q_cut M k = M k := fun k h1 h2 => if_neg (fun h => h.elim h1 h2)
  have e4 : ∀ k, (k = 154 ∨ k = 176) → ∀ j, q_cut M k j = if j < 2 then M k j else 0 := fun k h j => by unfold q_cut; rw [if_pos h]
  refine ⟨q_cut M, ?_, ⟨fun k hk => ?_, hG.2⟩, fun j => ⟨fun h => ?_, fun h => ?_⟩⟩
  · obtain ⟨g1, ⟨g2, g3⟩, ⟨g4, g5, g6⟩, g7, g8, ⟨g9, g10, g11, g12⟩, g13⟩ := hJ
    have hd : ∀ k, q_pgd (q_cut M) k = q_pgd M k := fun k => by unfold q_pgd; rw [e 174 (by decide) (by decide)]
    have hk : ∀ k, q_pgk (q_cut M) k = q_pgk M k := fun k => by unfold q_pgk; rw [e 175 (by decide) (by decide)]
    refine ⟨g1, ⟨by rw [e 172 (by decide) (by decide)]; exact q_tr_keep g2 (fun a h4 h5 => e a (by omega) (by omega)), by rw [e 172 (by decide) (by decide)]; exact g3⟩, ⟨by rw [e 165 (by decide) (by decide)]; exact g4, by rw [e 165 (by decide) (by decide)]; exact g5, by rw [e 169 (by decide) (by decide)]; exact g6⟩, fun k hk9 => ?_, fun j hj => ?_, ⟨by rw [e 167 (by decide) (by decide)]; exact g9, by rw [e 169 (by decide) (by decide)]; exact g10, by rw [e 168 (by decide) (by decide), e 170 (by decide) (by decide)]; exact g11, fun j hj => by rw [e 168 (by decide) (by decide)]; exact g12 j hj⟩, fun j hj => by rw [e 12 (by decide) (by decide)]; exact g13 j hj⟩
    · have hs := q_slot_in o k
      rw [hd k]
      exact ⟨q_tr_keep (g7 k hk9).1 (fun a h4 h5 => e a (by omega) (by omega)), (g7 k hk9).2⟩
    · have g := g8 j hj
      rw [e4 154 (Or.inl rfl), if_pos hj, e4 176 (Or.inr rfl), if_pos hj, hk j]
      exact ⟨g.1, g.2.1, fun h9 => ⟨q_tr_keep (g.2.2 h9).1 (fun a h4 h5 => e a (by omega) (by omega)), (g.2.2 h9).2⟩⟩
  · by_cases h4 : k = 154
    · subst h4
      have h : H[gad G 154]? = some (arrV (G.2.1 1) 2 (fun j => .int (iZ (M 154 j)))) := hG.1 154 hk
      show H[gad G 154]? = some (arrV (G.2.1 1) 2 (fun j => .int (iZ (q_cut M 154 j))))
      rw [h]
      exact congrArg some (arrV_cong _ _ (fun j hj => by rw [e4 154 (Or.inl rfl), if_pos hj]))
    · by_cases h6 : k = 176
      · subst h6
        have h : H[gad G 176]? = some (arrV (G.2.1 1) 2 (fun j => .int (iZ (M 176 j)))) := hG.1 176 hk
        show H[gad G 176]? = some (arrV (G.2.1 1) 2 (fun j => .int (iZ (q_cut M 176 j))))
        rw [h]
        exact congrArg some (arrV_cong _ _ (fun j hj => by rw [e4 176 (Or.inr rfl), if_pos hj]))
      · rw [e k h4 h6]; exact hG.1 k hk
  · rw [e4 154 (Or.inl rfl), if_neg (by omega)]
  · rw [e4 176 (Or.inr rfl), if_neg (by omega)]
section LW
variable {p : Program} {l : Launch} {e : Env} {R : Room} {s : State} {m : MethodId} {below : List Frame} {meth : Method} {c : Code} {H : Heap} {locs : List Loc} {cells slots : Nat} {Q : State → Prop} {pc : Nat} {ls : Array Slot} {rest : List Value} {G : gG} {M : Nat → Nat → Int} {b L : Nat} {xs : Nat → Int32}
theorem law_arg (C : lw_C p l s m meth c G b L xs) (hG : gH G M s H locs) (i : Nat) {j : Nat} {jn : Int} (hij : i + j < L) (hjn : jn = (j : Int)) (h0 : ls[0]? = some (.val (.ref b))) (h4 : ls[4]? = some (.val (.int (iZ (i : Int))))) (d0 : decode code pc = .ok (.aload_n 0, 1)) (d1 : decode code (pc + 1) = .ok (.iload 4, 2)) (d3 : decode code (pc + 3) = .ok (.iconst jn, 1)) (d4 : decode code (pc + 4) = .ok (.iadd, 1)) (d5 : decode code (pc + 5) = .ok (.iaload, 1))
    (k : W p l e R s m #[Value.ref b] below meth c H locs cells slots Q (F0 m (pc + 6) ls (.int (xs (i + j)) :: rest))) : W p l e R s m #[Value.ref b] below meth c H locs cells slots Q (F0 m pc ls rest) := by
  obtain ⟨⟨hx, hb, hr, hml, hown, hts, hX, hbl, hlocks, hgv⟩, hl0, hdm, hXt, hbA, hL⟩ := C
  refine lv_aload_n hx hb d0 rfl h0 ?_
  refine lv_iload hx hb d1 h4 ?_
  subst hjn
  refine lv_iconst (v := iZ (j : Int)) hx hb d3 rfl ?_
  refine lv_iadd hx hb d4 ?_
  rw [iZ_add, show ((i : Int) + (j : Int)) = ((i + j : Nat) : Int) by omega]
  refine va_sld hx hb hX hbl hbA hG.2.2 (iZ_in rfl hij (by omega)) d5 ?_
  rw [iZ_cl rfl (by omega)]
  exact k
theorem law_long (C : lw_C p l s m meth c G b L xs) (hG : gH G M s H locs) (i : Nat) {j : Nat} {jn jm : Int} (hij : i + (j + 1) < L) (hjn : jn = (j : Int)) (hjm : jm = ((j + 1 : Nat) : Int)) (h0 : ls[0]? = some (.val (.ref b))) (h4 : ls[4]? = some (.val (.int (iZ (i : Int))))) (d0 : decode code pc = .ok (.aload_n 0, 1)) (d1 : decode code (pc + 1) = .ok (.iload 4, 2)) (d3 : decode code (pc + 3) = .ok (.iconst jn, 1)) (d4 : decode code (pc + 4) = .ok (.iadd, 1)) (d5 : decode code (pc + 5) = .ok (.iaload, 1)) (d6 : decode code (pc + 6) = .ok (.i2l, 1)) (d7 : decode code (pc + 7) = .ok (.bipush 32, 2)) (d9 : decode code (pc + 9) = .ok (.lshl, 1)) (d10 : decode code (pc + 10) = .ok (.aload_n 0, 1)) (d11 : decode code (pc + 11) = .ok (.iload 4, 2)) (d13 : decode code (pc + 13) = .ok (.iconst jm, 1)) (d14 : decode code (pc + 14) = .ok (.iadd, 1)) (d15 : decode code (pc + 15) = .ok (.iaload, 1)) (d16 : decode code (pc + 16) = .ok (.i2l, 1)) (d17 : decode code (pc + 17) = .ok (.ldc2_w 139, 3)) (d20 : decode code (pc + 20) = .ok (.land, 1)) (d21 : decode code (pc + 21) = .ok (.lor, 1))
    (k : W p l e R s m #[Value.ref b] below meth c H locs cells slots Q (F0 m (pc + 22) ls (.long (lw_lv xs (i + j)) :: rest))) : W p l e R s m #[Value.ref b] below meth c H locs cells slots Q (F0 m pc ls rest) := by
  obtain ⟨hx, hb, hr, hml, hown, hts, hX, hbl, hlocks, hgv⟩ := id C.1
  refine law_arg C hG i (j := j) (by omega) hjn h0 h4 d0 d1 d3 d4 d5 ?_
  refine lv_i2l hx hb d6 rfl ?_
  refine lv_bipush (v := 32) hx hb d7 (by decide) ?_
  refine lv_lshl hx hb d9 rfl ?_
  refine law_arg C hG i (j := j + 1) hij hjm h0 h4 d10 d11 d13 d14 d15 ?_
  refine lv_i2l hx hb d16 rfl ?_
  refine lv_ldc2 (v := 4294967295) hx hb hown (lw_hts C.1 (.constantLong RL 139 4294967295) (List.mem_append_left _ (List.mem_append_left _ (List.mem_append_left _ (List.mem_append_left _ (List.mem_append_left _ (List.mem_append_left _ (List.mem_append_left _ (List.mem_append_left _ (List.mem_append_left _ (List.mem_append_left _ (List.mem_append_left _ (List.mem_append_left _ (List.mem_of_getElem? (i := 7) rfl)))))))))))))) d17 ?_
  refine lv_land hx hb d20 ?_
  refine lv_lor hx hb d21 ?_
  exact k
theorem g_callW {cc : ByteArray} {args : Array Value} {st0 As : List Value} {y : MethodName} {bytes : ByteArray} {maxL nL n index : Nat} {ret : Option FieldType} {hh : List (Nat × Nat × Nat × Nat)} {ws Ts : List Cond} {rm : Room} {own : String} {post : Int → (Nat → Nat → Int) → Prop} (S : CallFix p m c cc nL s args Ts own) (hM : gMw l y ws rm G M As post) (cw : vx_CSW R s args own index y bytes maxL ret hh ws rm 1 6 n) (hXt : gXt G s) (hG : gH G M s H locs) (hn : As.length = n) (hsize : ls.size = nL) (hstack : st0 = As.reverse ++ rest) (hroom : (rest.map fun v => v.category).sum ≤ 8) (hdg : decode cc pc = .ok (.invokestatic index, 3)) (hf : cells + 1 ≤ R.cells ∧ slots + 6 ≤ R.slots)
    (kk : ∀ (z : Int) (M1 : Nat → Nat → Int) (H1 : Heap) (locs1 : List Loc), post z M1 → gH G M1 s H1 locs1 → W p l e R s m args below meth c H1 locs1 (cells + 1) (slots + 6) Q (F0 m (pc + 3) ls (.int (iZ z) :: rest))) : W p l e R s m args below meth c H locs cells slots Q (F0 m pc ls st0) := by
  refine va_calli (A1 := gA G) (A0 := gA G) (vx_runSW (As := As) (rest := rest) S hM cw ⟨fun a U g mk q => ⟨q.1, q.2.1.blind, q.2.2.blind⟩, fun U hU hW => ⟨rfl, hG.out hU hW, hXt.out hG hU hW⟩⟩ rfl hn hsize hstack (lv_room hroom) hdg hf) hG.2.2 (fun _ _ h => h) (fun _ h => h) (fun r u t H1 locs1 ht hvm hw hB hz hk hS => ?_)
  obtain ⟨rfl, hp⟩ := hw
  exact kk u.1 u.2 H1 locs1 hp ⟨by rw [← ht]; exact hB.1, hG.2.1, hS⟩
/-- behind both calls: thrown alike, answers alike -/
theorem law_tail (C : lw_C p l s m meth c G b L xs) (hf : cells ≤ R.cells ∧ slots ≤ R.slots) (hR : 1 ≤ R.frames ∧ 20 ≤ R.locals) (hG : gH G M s H locs) {i : Nat} {z1 z2 : Int} (hl : lv_has ls 7 ((5, .int (iZ z1)) :: lw_ls b G i)) (hz : 0 ≤ z1 ∧ z1 ≤ 3) (hF : q_fin M z1 z2) (d0 : decode code pc = .ok (.istore 6, 2)) (d2 : decode code (pc + 2) = .ok (.aload_n 2, 1)) (d3 : decode code (pc + 3) = .ok (.invokevirtual 99, 3)) (d6 : decode code (pc + 6) = .ok (.iload 5, 2)) (d8 : decode code (pc + 8) = .ok (.if_icmp .eq 5, 3)) (d13 : decode code (pc + 13) = .ok (.iload 5, 2)) (d15 : decode code (pc + 15) = .ok (.ifCond .ne 15, 3)) (d18 : decode code (pc + 18) = .ok (.aload_n 3, 1)) (d19 : decode code (pc + 19) = .ok (.iconst 0, 1)) (d20 : decode code (pc + 20) = .ok (.laload, 1)) (d21 : decode code (pc + 21) = .ok (.iload 6, 2)) (d23 : decode code (pc + 23) = .ok (.i2l, 1)) (d24 : decode code (pc + 24) = .ok (.lcmp, 1)) (d25 : decode code (pc + 25) = .ok (.ifCond .eq 5, 3)) {off : Int} (d30 : decode code (pc + 30) = .ok (.goto off, 3)) (ht : ((pc + 30 : Nat) : Int) + off = ((1680 : Nat) : Int))
    (K : ∀ (M1 : Nat → Nat → Int) (H1 : Heap) (locs1 : List Loc) (ls1 : Array Slot), (∃ o n tn, q_J M1 o n tn) → gH G M1 s H1 locs1 → lv_has ls1 7 (lw_ls b G i) → W p l e R s m #[Value.ref b] below meth c H1 locs1 cells slots Q (F0 m 1680 ls1 [])) : W p l e R s m #[Value.ref b] below meth c H locs cells slots Q (F0 m pc ls [.int (iZ z2)]) := by
  obtain ⟨hx, hb, hr, hml, hown, hts0, hX, hbl, hlocks, hgv⟩ := id C.1
  have hts := lw_hts C.1
  obtain ⟨-, hl0, hdm, hXt, hbA, hL⟩ := C
  have hl : lv_has ls 7 [(5, .int (iZ z1)), (4, .int (iZ (i : Int))), (3, .ref (gad G 178)), (2, .ref (gad G 169)), (1, .ref (gad G 152)), (0, .ref b)] := hl
  obtain ⟨f1, f2, f3⟩ := hF
  refine lv_istore (lv' := [(6, .int (iZ z2)), (5, .int (iZ z1)), (4, .int (iZ (i : Int))), (3, .ref (gad G 178)), (2, .ref (gad G 169)), (1, .ref (gad G 152)), (0, .ref b)]) hx hb d0 hl (by decide) rfl (fun ls hl => ?_)
  refine lv_aload_n hx hb d2 rfl (lv_at hl 4 rfl) ?_
  refine g_callV (b := 169) (As := []) (rest := []) ⟨hx, hb, hml, hown, hts⟩ (c_X6_thrown l G M hdm) (cwV 0 hts gL_law_X6_thrown rfl rfl rfl (by decide +kernel) ⟨hR.1, by have := hR.2; exact this⟩) hG (g_recv hG (b := 169) (hdm 169 (by decide)) rfl rfl) rfl hl.1 rfl (Nat.le_of_ble_eq_true rfl) d3 hf (fun z9 M9 H locs hp_9 hG => ?_)
  obtain ⟨hz9, hM9⟩ := hp_9
  rw [hM9] at hG
  rw [hz9, f1]
  refine lv_iload hx hb d6 (lv_at hl 1 rfl) ?_
  refine lv_icmp_eq (tgt := pc + 13) hx hb d8 (by omega) (fun _ => ?_) (fun h9 => absurd rfl h9)
  refine lv_iload hx hb d13 (lv_at hl 1 rfl) ?_
  have k9 : W p l e R s m #[Value.ref b] below meth c H locs cells slots Q (F0 m (pc + 30) ls []) := by
    refine lv_goto (tgt := 1680) hx hb d30 ht ?_
    exact K M H locs ls f3 hG (lv_sub hl [2, 3, 4, 5, 6] rfl)
  refine z_if_ne (tgt := pc + 30) hx hb (by omega) d15 (by omega) (fun _ => k9) (fun h9 => ?_)
  have hz1 : z1 = 0 := by omega
  refine lv_aload_n hx hb d18 rfl (lv_at hl 3 rfl) ?_
  refine lv_iconst (v := iZ 0) hx hb d19 rfl ?_
  refine g_lald (j := 0) (z := (iZ z2).toInt) hx hb hG (o := 178) (hdm 178 (by decide)) rfl (by omega) (by decide) (by decide) (f2 hz1) d20 ?_
  refine lv_iload hx hb d21 (lv_at hl 0 rfl) ?_
  refine z_i2lw hx hb d23 ?_
  refine W.lcmp hx hb d24 ?_
  refine lv_if_eq (tgt := pc + 30) hx hb d25 (by omega) (fun _ => k9) (fun h8 => absurd ?_ h8)
  unfold lg_cmp
  rw [if_neg (Int64.lt_irrefl), if_pos rfl]
end LW
