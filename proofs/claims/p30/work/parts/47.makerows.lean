/-! WHAT THE CONSTRUCTORS MAKE: every cell of the system lies at a known place behind the law's start -/
def q_of (k : Nat) : Nat := if k < 16 then k + 1 else if k < 24 then k + 6 else if k < 40 then k + 129 else if k < 152 then k - 3 else if k = 152 then 0 else if k = 153 then 151 else if k = 154 then 152 else if k < 159 then k - 138 else if k < 163 then k - 129 else if k = 163 then 21 else if k = 164 then 34 else if k = 165 then 35 else if k = 166 then 36 else if k = 167 then 149 else if k = 168 then 150 else k
def q_oi (o : Nat) : Nat := if o = 0 then 152 else if o < 17 then o - 1 else if o < 21 then o + 138 else if o = 21 then 163 else if o < 30 then o - 6 else if o < 34 then o + 129 else if o = 34 then 164 else if o = 35 then 165 else if o = 36 then 166 else if o < 149 then o + 3 else if o = 149 then 167 else if o = 150 then 168 else if o = 151 then 153 else if o = 152 then 154 else if o < 169 then o - 129 else o
theorem q_oi_of : ∀ k, k < 179 → q_oi (q_of k) = k := by decide +kernel
theorem q_of_lt : ∀ k, k < 179 → q_of k < 179 := by decide +kernel
theorem q_of_inj {i j : Nat} (hi : i < 179) (hj : j < 179) (h : q_of i = q_of j) : i = j := by rw [← q_oi_of i hi, h, q_oi_of j hj]
abbrev wB : Type := va_G × (Nat → ClassId) × (Nat × Nat) × Nat
def wa (B : wB) (o : Nat) : Nat := B.2.2.1.1 + B.2.2.1.2 + o
abbrev wg (B : wB) (dm : Nat → Prop) (b0 : Nat) : gG := (B.1, B.2.1, fun k => wa B (q_of k), dm, b0, B.2.2.2)
abbrev wF (B : wB) : gG := wg B (fun _ => False) B.2.2.1.1
set_option maxRecDepth 20000 in
theorem gE0_wg (B : wB) (dm : Nat → Prop) (b0 : Nat) (f : Nat → Int) (k : Nat) : gE0 (wg B dm b0) f k = gE0 (wF B) f k := rfl
set_option maxRecDepth 20000 in
theorem gE0_wgs (B : wB) (dm : Nat → Prop) (b0 : Nat) (f : Nat → Int) (k : Nat) : gE0 (gSw (wg B dm b0)) f k = gE0 (gSw (wF B)) f k := rfl
theorem gE_wg (B : wB) (dm : Nat → Prop) (b0 : Nat) (f : Nat → Int) (k : Nat) : gE (wg B dm b0) f k = gE (wF B) f k := by
  unfold gE
  rw [gE0_wg, gE0_wgs]
theorem arrV_cong (cI : ClassId) (N : Nat) {f g : Nat → Value} (h : ∀ j, j < N → f j = g j) : arrV cI N f = arrV cI N g := by
  have e : Array.ofFn (n := N) (fun j => f j.val) = Array.ofFn (n := N) (fun j => g j.val) := by
    congr 1
    funext j
    exact h j.val j.isLt
  unfold arrV
  rw [e]
def q_cut (M : Nat → Nat → Int) : Nat → Nat → Int := fun k => if k = 154 ∨ k = 176 then (fun j => if j < 2 then M k j else 0) else M k
/-- the numbers that the new system holds -/
def qMI : Nat → Nat → Int := fun k j => if k < 152 then (if k % 8 = 0 then (if j = 10 then 300 else if j = 11 then -9 else 0) else if k % 8 = 7 then (j : Int) else 0) else if k = 172 then q_new j else 0
def qM0 : Nat → Nat → Int := fun _ _ => 0
def wN (B : wB) (M : Nat → Nat → Int) (a z : Nat) (H : Heap) : Prop := ∀ k, k < 179 → a ≤ q_of k → q_of k < z → va_at B.1 vwCl (wa B (q_of k), gE (wF B) (M k) k) H
theorem wN.nil {B : wB} {M : Nat → Nat → Int} {a : Nat} {H : Heap} : wN B M a a H := fun _ _ h1 h2 => absurd h2 (Nat.not_lt.mpr h1)
theorem wN.kept {B : wB} {M : Nat → Nat → Int} {a z : Nat} {H H1 : Heap} (h : wN B M a z H) (hq : ∀ o, a ≤ o → o < z → H1[wa B o]? = H[wa B o]?) : wN B M a z H1 := fun k hk h1 h2 => (h k hk h1 h2).kept (hq _ h1 h2)
theorem wN.join {B : wB} {M : Nat → Nat → Int} {a z y : Nat} {H : Heap} (h1 : wN B M a z H) (h2 : wN B M z y H) : wN B M a y H := fun k hk h3 h4 => (Nat.lt_or_ge (q_of k) z).elim (fun h => h1 k hk h3 h) (fun h => h2 k hk h h4)
theorem wN.one {B : wB} {M : Nat → Nat → Int} {k : Nat} {o : Nat} {H : Heap} (hk : k < 179) (hq : q_of k = o) (he : va_at B.1 vwCl (wa B o, gE (wF B) (M k) k) H) : wN B M o (o + 1) H := fun k' hk' h1 h2 => by
  have e : q_of k' = q_of k := by omega
  have e9 := q_of_inj hk' hk e
  subst e9
  rw [hq]
  exact he
theorem wN.push {B : wB} {M : Nat → Nat → Int} {a z k : Nat} {H : Heap} (h : wN B M a z H) (hk : k < 179) (hq : q_of k = z) (he : va_at B.1 vwCl (wa B z, gE (wF B) (M k) k) H) : wN B M a (z + 1) H := h.join (wN.one hk hq he)
/-! the links of nest mates that constructors use, the arrays over Trial -/
def wJ (U : State) : Prop := va_AO "DogTrials$Trial" U ∧ va_Nw (.methodLinkNest RX5 21 yX0_init "DogTrials") U ∧ va_Nw (.methodLinkNest RX5 28 yX2_init "DogTrials") U ∧ va_Nw (.methodLinkNest RX2 20 yX0_init "DogTrials") U ∧ va_Nw (.methodLinkNest RX5 42 yX4_init "DogTrials") U
def wI (B : wB) (U : State) : Prop := gFix (wF B) U U.heap ∧ wJ U
theorem wI.out {B : wB} {s : State} {A : Nat → Prop} {H : Heap} {locs : List Loc} (h : wI B s) (hS : va_S A s.heap H locs) (hA0 : ∀ q, A q → B.2.2.1.1 ≤ q) {U : State} (hU : U.heap = H) (hW : s.WarmedH U.vm) : wI B U := by
  refine ⟨?_, h.2.1.moved hW.alike, va_Nw.warmM hW h.2.2.1, va_Nw.warmM hW h.2.2.2.1, va_Nw.warmM hW h.2.2.2.2.1, va_Nw.warmM hW h.2.2.2.2.2⟩
  rw [hU]
  exact (h.1.moved hW).kept hS.1 (fun a h1 h2 => hS.2.1 a h1 (fun h3 => h2 (hA0 a h3)))
theorem wI.blind {B : wB} {U : State} {g : JFrame} {mk : MethodId} {a : Array Value} (h : wI B U) : wI B (U.calling g mk a) := by
  have h9 : gB (wF B) qM0 U := ⟨fun k (hk : False) => hk.elim, h.1⟩
  exact ⟨h9.blind.2, va_AO.moved (u := U) (U := U.calling g mk a) (Vm.Alike.refl U.vm) h.2.1, va_Nw.same (u := U) (U := U.calling g mk a) rfl rfl h.2.2.1, va_Nw.same (u := U) (U := U.calling g mk a) rfl rfl h.2.2.2.1, va_Nw.same (u := U) (U := U.calling g mk a) rfl rfl h.2.2.2.2.1, va_Nw.same (u := U) (U := U.calling g mk a) rfl rfl h.2.2.2.2.2⟩
theorem wI.fix {B : wB} {U : State} (h : wI B U) {dm : Nat → Prop} {b0 : Nat} (hdm : ∀ k, dm k → k < 179 ∧ b0 ≤ q_of k) (hsz : wa B b0 ≤ U.heap.size) : gFix (wg B dm (wa B b0)) U U.heap := by
  obtain ⟨⟨h1, h2, h3, h4, h5, h6, h7⟩, -⟩ := h
  refine ⟨h1, fun i j hi hj hij => q_of_inj (hdm i hi).1 (hdm j hj).1 (by have h8 : wa B (q_of i) = wa B (q_of j) := hij; unfold wa at h8; omega), fun k hk => ?_, hsz, h5.narrow (fun q hq => ?_), h6.narrow (fun q hq => ?_), h7⟩
  · have := (hdm k hk).2
    show wa B b0 ≤ wa B (q_of k)
    unfold wa; omega
  · have hq : wa B b0 ≤ q := hq
    show B.2.2.1.1 ≤ q
    unfold wa at hq; omega
  · have hq : wa B b0 ≤ q := hq
    show B.2.2.1.1 ≤ q
    unfold wa at hq; omega
/-! a constructor's contract: the new object's raw cell is the heap's last; behind it lie cnt whole cells from its place on -/
abbrev wPre (B : wB) (ci : Nat) (fs : List Value) (o : Nat) : Array Value → State → Prop := va_Pc [.ref (wa B o)] (fun U => va_at B.1 vwCl (wa B o, .inr (ci, fs)) U.heap ∧ U.heap.size = wa B (o + 1) ∧ wI B U)
abbrev wPost (B : wB) (o cnt : Nat) : Array Value → State → Outcome → State → Prop := va_Qv (fun _ : Unit => True) (fun _ U => wN B qMI o (o + cnt) U.heap ∧ U.heap.size = wa B (o + cnt)) (fun q => wa B o ≤ q)
def wMet (l : Launch) (y : MethodName) (ws : List Cond) (rm : Room) (B : wB) (ci : Nat) (fs : List Value) (o cnt mc ms : Nat) : Prop := Met l y ws rm (wPre B ci fs o) (wPost B o cnt) mc ms (fun q => wa B o ≤ q)
theorem wMet_of {l : Launch} {y : MethodName} {ws ws' : List Cond} {rm : Room} {B : wB} {ci : Nat} {fs : List Value} {o cnt mc ms : Nat} {cc : ByteArray} {maxL : Nat} (hy : plainName y.cls = true) (hyn : y.name = "<init>") (hw : ws = Cond.code y cc maxL none :: ws') (hL : 1 ≤ maxL)
    (body : ∀ (p : Program) (e : Env) (s : State) (m : MethodId) (below : List Frame) (meth : Method) (c : Code) (ls : Array Slot), p.tables.exec = Jvm.exec → c.code = cc → meth.sig.returnType = none → c.maxLocals = maxL → s.vm.findClass y.cls = some m.cls → (∀ w ∈ ws, w.before #[.ref (wa B o)] s = true) → meth.locks = false → meth.name = "<init>" → lv_has ls maxL [(0, .ref (wa B o))] → va_at B.1 vwCl (wa B o, .inr (ci, fs)) s.heap → s.heap.size = wa B (o + 1) → wI B s →
      W p l e rm s m #[.ref (wa B o)] below meth c s.heap [] 0 0 (MQ below (wPost B o cnt) #[.ref (wa B o)] s mc ms (fun q => wa B o ≤ q)) (F0 m 0 ls [])) : wMet l y ws rm B ci fs o cnt mc ms := by
  refine Met.ofW (cc := cc) (maxL := maxL) (ret := none) hy hw ?_
  intro p e s m args below meth c s₁ Bd hml hv
  obtain ⟨rfl, h1, h2, h3⟩ := hv
  rw [lg_entry_eq]
  have hn : meth.name = "<init>" := ((name_of_methodNamed Bd.named Bd.method).1).trans hyn
  exact body p e s m below meth c _ Bd.exec Bd.bytes Bd.returns hml (findClass_of_methodNamed Bd.named) (atoms_spec (ws := ws) Bd.pre) Bd.notSynchronized hn (lv_entry [.ref (wa B o)] (show (lg_sl [.ref (wa B o)]).length ≤ maxL from hL)) h1 h2 h3
section WR
variable {p : Program} {l : Launch} {e : Env} {R : Room} {s : State} {m : MethodId} {args : Array Value} {below : List Frame} {meth : Method} {c : Code} {H : Heap} {locs : List Loc} {cells slots : Nat} {Q : State → Prop}
variable {cc : ByteArray} {pc : Nat} {ls : Array Slot} {rest : List Value} {B : wB}
/-- no more new cells than were paid for -/
theorem w_size {g : JFrame} (k : H.size ≤ s.heap.size + cells → W p l e R s m args below meth c H locs cells slots Q g) : W p l e R s m args below meth c H locs cells slots Q g := fun T hT X => k (by have h := X.same.2.2.1; rw [← hT]; exact h) T hT X
theorem w_newa0 (hx : p.tables.exec = Jvm.exec) (hb : c.code = cc) {atype : ArrayType} (harr : (Cond.arrayClass (newarray.typeOf atype)).before args s = true) (ti : Nat) (htys : (gty (wF B))[ti]? = some (B.2.1 ti, newarray.typeOf atype)) (hra : va_RA s (B.2.1 ti) (newarray.typeOf atype) → s.vm.findClass ("[" ++ (newarray.typeOf atype).toString) = some (B.2.1 ti)) (hI : wI B s) {A : Nat → Prop} (hS : va_S A s.heap H locs) {h : Nat} (hh : H.size = h) {N : Nat} {a0 : vp_A} (ha : ∀ cA : ClassId, vp_cell cA a0 = arrV cA N (fun _ => defaultValue (newarray.typeOf atype))) {n : Int} (hn : n = (N : Int)) (hN : N < 2147483648) (hbytes : N * componentBytes (newarray.typeOf atype) ≤ 536870912) (hcells : cells + 1 ≤ R.cells) (hslots : slots + N ≤ R.slots) (hdg : decode cc pc = .ok (.newarray atype, 2))
    (kk : ∀ H1 : Heap, va_at B.1 vwCl (h, .inl (B.2.1 ti, a0)) H1 → H1.size = h + 1 → (∀ q, q < h → H1[q]? = H[q]?) → va_S A s.heap H1 locs → W p l e R s m args below meth c H1 locs (cells + 1) (slots + N) Q (F0 m (pc + 2) ls (.ref h :: rest))) : W p l e R s m args below meth c H locs cells slots Q (F0 m pc ls (.int (iZ n) :: rest)) := by
  have h0 : ¬ iZ n < 0 := by rw [← iZ_0, iZ_lt (by omega) (by omega)]; omega
  refine va_newaK hx hb harr rfl hdg rfl h0 (iZ_cl hn hN) hbytes hcells hslots hh fun H1 cA e1 z1 o1 hAr hNm => ?_
  have hc : cA = B.2.1 ti := Option.some.inj (hNm.symm.trans (hra (hI.1.1.2 ti _ htys).2))
  subst hc
  refine kk H1 ?_ z1 o1 ⟨Nat.le_trans hS.1 (by omega), fun x h1 h2 => (o1 x (by rw [← hh]; exact Nat.lt_of_lt_of_le h1 hS.1)).trans (hS.2.1 x h1 h2), hS.2.2⟩
  show H1[h]? = some (vp_cell _ _)
  rw [ha]
  exact e1
theorem w_newq0 (hx : p.tables.exec = Jvm.exec) (hb : c.code = cc) {own : String} {index : Nat} (hown : s.vm.findClass own = some m.cls) (hclink : (Cond.classLink own index "DogTrials$Trial").before args s = true) (hI : wI B s) {A : Nat → Prop} (hS : va_S A s.heap H locs) {h : Nat} (hh : H.size = h) {N : Nat} {n : Int} (hn : n = (N : Int)) (hN : N < 100000) (hcells : cells + 1 ≤ R.cells) (hslots : slots + N ≤ R.slots) (hdg : decode cc pc = .ok (.anewarray index, 3))
    (kk : ∀ H1 : Heap, va_at B.1 vwCl (h, .inl (B.2.1 2, N, .inr (.inr (.inr (.inr (fun _ => none)))))) H1 → H1.size = h + 1 → (∀ q, q < h → H1[q]? = H[q]?) → va_S A s.heap H1 locs → W p l e R s m args below meth c H1 locs (cells + 1) (slots + N) Q (F0 m (pc + 3) ls (.ref h :: rest))) : W p l e R s m args below meth c H locs cells slots Q (F0 m pc ls (.int (iZ n) :: rest)) := by
  have h0 : ¬ iZ n < 0 := by rw [← iZ_0, iZ_lt (by omega) (by omega)]; omega
  have hc9 := iZ_cl hn (show N < 2147483648 by omega)
  subst hh
  refine W.anew hx hb hown hclink (va_AO.use hI.2.1) rfl hdg rfl h0 (by rw [hc9]; omega) hcells (by rw [hc9]; exact hslots) fun cA kA comp f1 f2 f3 f4 => ?_
  rw [hc9]
  generalize hH1 : H.push ({ cls := cA, slots := Array.replicate N .null, vm := .none } : Cell) = H1
  have z1 : H1.size = H.size + 1 := by rw [← hH1, Array.size_push]
  have e1 : H1[H.size]? = some (arrV cA N (fun _ => .null)) := by rw [← hH1, Array.getElem?_push_size, ← arrV_new]
  have o1 : ∀ q : Nat, q < H.size → H1[q]? = H[q]? := fun q hq => by rw [← hH1, Array.getElem?_push, if_neg (Nat.ne_of_lt hq)]
  obtain ⟨kA9, comp9, g1, g2, g3, g4⟩ := (hI.1.1.2 2 _ rfl).2
  have hc : cA = B.2.1 2 := Option.some.inj (f1.symm.trans g4)
  subst hc
  refine kk H1 ?_ z1 o1 ⟨Nat.le_trans hS.1 (by omega), fun x h1 h2 => (o1 x (Nat.lt_of_lt_of_le h1 hS.1)).trans (hS.2.1 x h1 h2), hS.2.2⟩
  show H1[H.size]? = some (vp_cell _ _)
  rw [vp_cell_q]
  exact e1
theorem w_putF0 (hx : p.tables.exec = Jvm.exec) (hb : c.code = cc) {own ref C : String} {T : u_T} {N ci index : Nat} {Ts : List Cond} (hts : ∀ w ∈ Ts, w.before args s = true) (hin : ∀ w ∈ u_ws C T N, w ∈ Ts) (ty0 : Nat → FieldType) (hty : ∀ k, k < N → parseFieldDescriptor (T k).2.2.1 = some (ty0 k)) (hnm : ∀ a, a < N → ∀ b, b < N → a ≠ b → (T a).2.1 ≠ (T b).2.1) (hown : s.vm.findClass own = some m.cls) (hI : wI B s) {A : Nat → Prop} (hS0 : va_S A s.heap H locs) {a : Nat} {fs : List Value} (he : va_at B.1 vwCl (a, .inr (ci, fs)) H) (hAa : A a) (hc : vwCl[ci]? = some (C, T, N)) (k : Nat) (hk : k < N) (hlink : (Cond.fieldLink own index ref (T k).2.1 (T k).2.2.1).before args s = true) (hsame : ∀ x, s.fieldFound? (T k).1 (T k).2.1 (T k).2.2.1 = some x → s.fieldFound? ref (T k).2.1 (T k).2.2.1 = some x) (hfin : (T k).2.2.2 = true) (hin2 : meth.name = "<init>") (hdecl : (T k).1 = own) {ty : FieldType} {v : Value} (hd : parseFieldDescriptor (T k).2.2.1 = some ty) (hn : narrow ty v = v) (hfit : fits ty v = true) (hl : k < fs.length)
    (hdg : decode cc pc = .ok (.putfield index, 3)) (kk : ∀ (H1 : Heap) (locs1 : List Loc), va_at B.1 vwCl (a, .inr (ci, fs.set k v)) H1 → H1.size = H.size → (∀ q, q ≠ a → H1[q]? = H[q]?) → va_S A s.heap H1 locs1 → W p l e R s m args below meth c H1 locs1 cells slots Q (F0 m (pc + 3) ls rest)) : W p l e R s m args below meth c H locs cells slots Q (F0 m pc ls (v :: .ref a :: rest)) := by
  have hK := hI.1.1
  have hap := va_apart (own := own) hts hin ty0 hty hnm hK hc
  obtain ⟨r, h1, cell, q1, q2, q3, q4⟩ := he
  have hr : r = (C, T, N) := Option.some.inj (h1.symm.trans hc)
  subst hr
  obtain ⟨hS, hfc, kC, hkC, hkind⟩ := hK.1 ci _ hc
  obtain ⟨cf, kf, fi, f, hi, hsl⟩ := hS k hk
  have hlay := hts _ (hin _ (u_in_lay hk))
  unfold u_lay at hlay
  rw [if_pos hfin] at hlay
  have hst := (u_facts hfc hkC (u_lays hts hin hk) hi).1
  have hcf : m.cls = cf := by
    obtain ⟨_, _, c', _, _, _, -, -, hf', -, -, -, hown2, -⟩ := Cond.laysFinal_spec hlay
    have e1 : c' = cf := by have := hi.symm.trans hf'; simp at this; exact this.1.symm
    rw [hdecl] at hown2
    rw [← e1]; exact Option.some.inj (hown.symm.trans hown2)
  have h6 := u_fits hfc hkC hkind (Or.inr hlay) hi hd hn hfit
  refine W.putFinK hx hb hown hlink (hsame _ hi) hst hcf hin2 (by rw [q2]; exact h6) q1 q3 (by rw [hsl]; exact k2_hasslot (q4 k hk)) rfl rfl hdg fun H' e1 e2 e3 => ?_
  rw [hsl] at e1 ⊢
  exact kk H' _ ⟨_, hc, t_OB.to (V := updV (vp_V fs) k v) ⟨_, e1, q2, q3, t_set q4 hap hk v⟩ (fun j _ => vp_updV_set hl v j)⟩ e2 e3 (hS0.put e2 e3 hAa)
theorem w_aast0 (hx : p.tables.exec = Jvm.exec) (hb : c.code = cc) (hI : wI B s) {A : Nat → Prop} (hS : va_S A s.heap H locs) {a v n : Nat} {f : Nat → Option Nat} {fs : List Value} (hat : va_at B.1 vwCl (a, .inl (B.2.1 2, n, .inr (.inr (.inr (.inr f))))) H) (hv : va_at B.1 vwCl (v, .inr (3, fs)) H) (hA : A a) {i : Int} {j : Nat} (hi : i = (j : Int)) (hj : j < n) (hn : n < 2147483648) (hdg : decode cc pc = .ok (.aastore, 1))
    (kk : ∀ (H1 : Heap) (locs1 : List Loc), va_at B.1 vwCl (a, .inl (B.2.1 2, n, .inr (.inr (.inr (.inr (va_up f j (some v))))))) H1 → H1.size = H.size → (∀ q, q ≠ a → H1[q]? = H[q]?) → va_S A s.heap H1 locs1 → W p l e R s m args below meth c H1 locs1 cells slots Q (F0 m (pc + 1) ls rest)) : W p l e R s m args below meth c H locs cells slots Q (F0 m pc ls (.ref v :: .int (iZ i) :: .ref a :: rest)) := by
  have hin := iZ_in hi hj hn
  have hlt : (iZ i).toNatClampNeg < n := Nat.not_le.mp fun q => hin (Or.inr q)
  have h0 : ¬ iZ i < 0 := fun q => hin (Or.inl q)
  obtain ⟨r', hr', cellV, g1, g2, g3, -⟩ := hv
  have hcls := (hI.1.1.1 3 _ rfl).2
  obtain ⟨kA, comp, k1, k2, k3, -⟩ := (hI.1.1.2 2 _ rfl).2
  have hcomp : comp = B.1.1 3 := Option.some.inj (k3.symm.trans hcls.1)
  subst hcomp
  obtain ⟨kC, hkC, -⟩ := hcls.2
  have hat9 : H[a]? = some (arrV (B.2.1 2) n (fun j => va_rf (f j))) := hat
  refine W.aast hx hb hat9 (fun q h => by cases h) (fun h => by cases h) k1 k2 rfl hkC ⟨h0, by show _ < (arrV _ _ _).slots.size; rw [arrV_size]; exact hlt⟩ g1 (fun q h => by rw [g3] at h; cases h) (by rw [g2]; exact hkC) (by rw [g2]; exact va_assign hcls) rfl rfl hdg fun H1 e z oq => ?_
  refine kk H1 _ ?_ z oq (hS.put z oq hA)
  show H1[a]? = some (vp_cell _ _)
  rw [e]
  rw [vp_cell_q, arrV_store, iZ_cl hi (by omega)]
  congr 2
  funext q
  by_cases hq : q = j
  · subst hq
    simp [updV, va_up, va_rf]
  · simp [updV, va_up, hq]
/-- 'new C()': new; dup; the constructor's call -/
theorem w_mk0 (hx : p.tables.exec = Jvm.exec) (hb : c.code = cc) {own C : String} {T : u_T} {N ci index : Nat} {Ts : List Cond} (hts : ∀ w ∈ Ts, w.before args s = true) (hin : ∀ w ∈ u_ws C T N, w ∈ Ts) (ty : Nat → FieldType) (hty : ∀ k, k < N → parseFieldDescriptor (T k).2.2.1 = some (ty k)) (hown : s.vm.findClass own = some m.cls) (hcl : (Cond.classLink own index C).before args s = true) (hinst : (Cond.instantiable C N).before args s = true) (hini : (Cond.initialized C).before args s = true) (hc : vwCl[ci]? = some (C, T, N)) {fs : List Value} (hfs : ∀ j, j < N → defaultValue (ty j) = vp_V fs j) {A : Nat → Prop} {z cnt mc ms : Nat} (hI : wI B s) (hS : va_S A s.heap H locs) (hA : ∀ q, wa B z ≤ q → A q) (hA0 : ∀ q, A q → B.2.2.1.1 ≤ q) (hz : H.size = wa B z) (hcells : cells + 1 ≤ R.cells) (hslots : slots + N ≤ R.slots) (d0 : decode cc pc = .ok (.new index, 3)) (d3 : decode cc (pc + 3) = .ok (.dup, 1))
    (hcall : ∀ H1 : Heap, PreS s H1 (wPre B ci fs z) [.ref (wa B z)] → va_Run p l e R s m args below meth c H1 locs (cells + 1) (slots + N) mc ms (F0 m (pc + 3 + 1) ls (.ref (wa B z) :: .ref (wa B z) :: rest)) (.ref (wa B z) :: rest) (wPost B z cnt #[.ref (wa B z)]) (fun q => wa B z ≤ q))
    (kk : ∀ (H1 : Heap) (locs1 : List Loc), wN B qMI z (z + cnt) H1 → H1.size = wa B (z + cnt) → (∀ q, q < wa B z → H1[q]? = H[q]?) → va_S A s.heap H1 locs1 → W p l e R s m args below meth c H1 locs1 (cells + 1 + mc) (slots + N + ms) Q (F0 m (pc + 3 + 1 + 3) ls (.ref (wa B z) :: rest))) : W p l e R s m args below meth c H locs cells slots Q (F0 m pc ls rest) := by
  have hKn := hI.1.1.1 ci _ hc
  refine W.newcK hx hb hown hcl hinst hini rfl d0 hcells hslots hKn.2.1 hz fun H1 kC hkC e1 z1 o1 => ?_
  refine lv_dup hx hb d3 rfl ?_
  have hS1 : va_S A s.heap H1 locs := ⟨Nat.le_trans hS.1 (by omega), fun x h1 h2 => (o1 x (by rw [← hz]; exact Nat.lt_of_lt_of_le h1 hS.1)).trans (hS.2.1 x h1 h2), hS.2.2⟩
  have hat : va_at B.1 vwCl (wa B z, .inr (ci, fs)) H1 := ⟨_, hc, (u_born ty hts hin hKn hkC e1 hty).to hfs⟩
  have hs1 : H1.size = wa B (z + 1) := z1
  refine va_callv (A1 := fun q => wa B z ≤ q) (A0 := A) (hcall H1 ⟨fun a U g mk q => ⟨q.1, q.2.1, q.2.2.1, q.2.2.2.blind⟩, fun U hU hW => ⟨rfl, by rw [hU]; exact hat, by rw [hU]; exact hs1, hI.out hS1 hA0 hU hW⟩⟩) hS1 (fun q _ h => hA q h) hA (fun u t H2 locs2 ht hvm hw hB hzz hk hS2 => ?_)
  refine kk H2 locs2 ?_ ?_ (fun q hq => ?_) hS2
  · rw [← ht]; exact hB.1
  · rw [← ht]; exact hB.2
  · rw [hk q (by rw [z1]; omega) (by omega)]; exact o1 q hq
/-! a constructor under way: its object at place r, whole cells behind it up to z -/
def wH (B : wB) (M : Nat → Nat → Int) (r ci : Nat) (fs : List Value) (z : Nat) (s : State) (H : Heap) (locs : List Loc) : Prop := va_at B.1 vwCl (wa B r, .inr (ci, fs)) H ∧ wN B M (r + 1) z H ∧ H.size = wa B z ∧ va_S (fun q => wa B r ≤ q) s.heap H locs ∧ wI B s ∧ r < z
theorem wa_lt {B : wB} {a b : Nat} (h : a < b) : wa B a < wa B b := by unfold wa; omega
theorem wa_ne {B : wB} {a b : Nat} (h : a ≠ b) : wa B a ≠ wa B b := by unfold wa; omega
theorem wa_le {B : wB} {a b : Nat} (h : a ≤ b) : wa B a ≤ wa B b := by unfold wa; omega
theorem w_newa (hx : p.tables.exec = Jvm.exec) (hb : c.code = cc) {M : Nat → Nat → Int} {r ci z : Nat} {fs : List Value} (h : wH B M r ci fs z s H locs) {atype : ArrayType} (harr : (Cond.arrayClass (newarray.typeOf atype)).before args s = true) (ti : Nat) (htys : (gty (wF B))[ti]? = some (B.2.1 ti, newarray.typeOf atype)) (hra : va_RA s (B.2.1 ti) (newarray.typeOf atype) → s.vm.findClass ("[" ++ (newarray.typeOf atype).toString) = some (B.2.1 ti)) {k N : Nat} (hk : k < 179) (hq : q_of k = z) (he : gE (wF B) (M k) k = .inl (B.2.1 ti, N, .inl (fun j => iZ (M k j)))) (hM : ∀ j, j < N → M k j = 0) (hdef : defaultValue (newarray.typeOf atype) = .int 0) {n : Int} (hn : n = (N : Int)) (hN : N < 2147483648) (hbytes : N * componentBytes (newarray.typeOf atype) ≤ 536870912) (hcells : cells + 1 ≤ R.cells) (hslots : slots + N ≤ R.slots) (hdg : decode cc pc = .ok (.newarray atype, 2))
    (kk : ∀ H1 : Heap, wH B M r ci fs (z + 1) s H1 locs → W p l e R s m args below meth c H1 locs (cells + 1) (slots + N) Q (F0 m (pc + 2) ls (.ref (wa B z) :: rest))) : W p l e R s m args below meth c H locs cells slots Q (F0 m pc ls (.int (iZ n) :: rest)) := by
  obtain ⟨h1, h2, h3, h4, h5, h6⟩ := h
  refine w_newa0 (B := B) (a0 := (N, .inl (fun j => iZ (M k j)))) hx hb harr ti htys hra h5 h4 h3 (fun cA => ?_) hn hN hbytes hcells hslots hdg (fun H1 e1 z1 o1 hS => kk H1 ⟨h1.kept (o1 _ (wa_lt h6)), (h2.kept (fun o _ h8 => o1 _ (wa_lt h8))).push hk hq (by rw [he]; exact e1), z1, hS, h5, by omega⟩)
  rw [vp_cell_i, hdef]
  exact arrV_cong _ _ (fun j hj => by rw [hM j hj, iZ_0])
theorem w_putF (hx : p.tables.exec = Jvm.exec) (hb : c.code = cc) {M : Nat → Nat → Int} {r ci z : Nat} {fs : List Value} (h : wH B M r ci fs z s H locs) {own ref C : String} {T : u_T} {N index : Nat} {Ts : List Cond} (hts : ∀ w ∈ Ts, w.before args s = true) (hin : ∀ w ∈ u_ws C T N, w ∈ Ts) (ty0 : Nat → FieldType) (hty : ∀ k, k < N → parseFieldDescriptor (T k).2.2.1 = some (ty0 k)) (hnm : ∀ a, a < N → ∀ b, b < N → a ≠ b → (T a).2.1 ≠ (T b).2.1) (hown : s.vm.findClass own = some m.cls) (hc : vwCl[ci]? = some (C, T, N)) (k : Nat) (hk : k < N) (hlink : (Cond.fieldLink own index ref (T k).2.1 (T k).2.2.1).before args s = true) (hsame : ∀ x, s.fieldFound? (T k).1 (T k).2.1 (T k).2.2.1 = some x → s.fieldFound? ref (T k).2.1 (T k).2.2.1 = some x) (hfin : (T k).2.2.2 = true) (hin2 : meth.name = "<init>") (hdecl : (T k).1 = own) {ty : FieldType} {v : Value} (hd : parseFieldDescriptor (T k).2.2.1 = some ty) (hn : narrow ty v = v) (hfit : fits ty v = true) (hl : k < fs.length)
    (hdg : decode cc pc = .ok (.putfield index, 3)) (kk : ∀ (H1 : Heap) (locs1 : List Loc), wH B M r ci (fs.set k v) z s H1 locs1 → W p l e R s m args below meth c H1 locs1 cells slots Q (F0 m (pc + 3) ls rest)) : W p l e R s m args below meth c H locs cells slots Q (F0 m pc ls (v :: .ref (wa B r) :: rest)) := by
  obtain ⟨h1, h2, h3, h4, h5, h6⟩ := h
  exact w_putF0 hx hb hts hin ty0 hty hnm hown h5 h4 h1 (Nat.le_refl _) hc k hk hlink hsame hfin hin2 hdecl hd hn hfit hl hdg (fun H1 locs1 e1 z1 o1 hS => kk H1 locs1 ⟨e1, h2.kept (fun o h7 _ => o1 _ (wa_ne (by omega))), z1.trans h3, hS, h5, h6⟩)
theorem w_mk (hx : p.tables.exec = Jvm.exec) (hb : c.code = cc) {r ci9 z : Nat} {fs9 : List Value} (h : wH B qMI r ci9 fs9 z s H locs) {own C : String} {T : u_T} {N ci index : Nat} {Ts : List Cond} (hts : ∀ w ∈ Ts, w.before args s = true) (hin : ∀ w ∈ u_ws C T N, w ∈ Ts) (ty : Nat → FieldType) (hty : ∀ k, k < N → parseFieldDescriptor (T k).2.2.1 = some (ty k)) (hown : s.vm.findClass own = some m.cls) (hcl : (Cond.classLink own index C).before args s = true) (hinst : (Cond.instantiable C N).before args s = true) (hini : (Cond.initialized C).before args s = true) (hc : vwCl[ci]? = some (C, T, N)) {fs : List Value} (hfs : ∀ j, j < N → defaultValue (ty j) = vp_V fs j) {cnt mc ms : Nat} (hcells : cells + 1 ≤ R.cells) (hslots : slots + N ≤ R.slots) (d0 : decode cc pc = .ok (.new index, 3)) (d3 : decode cc (pc + 3) = .ok (.dup, 1))
    (hcall : ∀ H1 : Heap, PreS s H1 (wPre B ci fs z) [.ref (wa B z)] → va_Run p l e R s m args below meth c H1 locs (cells + 1) (slots + N) mc ms (F0 m (pc + 3 + 1) ls (.ref (wa B z) :: .ref (wa B z) :: rest)) (.ref (wa B z) :: rest) (wPost B z cnt #[.ref (wa B z)]) (fun q => wa B z ≤ q))
    (kk : ∀ (H1 : Heap) (locs1 : List Loc), wH B qMI r ci9 fs9 (z + cnt) s H1 locs1 → W p l e R s m args below meth c H1 locs1 (cells + 1 + mc) (slots + N + ms) Q (F0 m (pc + 3 + 1 + 3) ls (.ref (wa B z) :: rest))) : W p l e R s m args below meth c H locs cells slots Q (F0 m pc ls rest) := by
  obtain ⟨h1, h2, h3, h4, h5, h6⟩ := h
  exact w_mk0 hx hb hts hin ty hty hown hcl hinst hini hc hfs h5 h4 (fun q hq => Nat.le_trans (wa_le (by omega)) hq) (fun q hq => Nat.le_trans (by unfold wa; omega) hq) h3 hcells hslots d0 d3 hcall (fun H1 locs1 n1 z1 o1 hS => kk H1 locs1 ⟨h1.kept (o1 _ (wa_lt h6)), (h2.kept (fun o _ h8 => o1 _ (wa_lt h8))).join n1, z1, hS, h5, by omega⟩)
theorem w_ret (hx : p.tables.exec = Jvm.exec) (hb : c.code = cc) (hr : meth.sig.returnType = none) (hlocks : meth.locks = false) {o cnt : Nat} (hN : wN B qMI o (o + cnt) H) (hz : H.size = wa B (o + cnt)) (hS : va_S (fun q => wa B o ≤ q) s.heap H locs) (hdg : decode cc pc = .ok (.return_, 1)) : W p l e R s m args below meth c H locs cells slots (MQ below (wPost B o cnt) args s cells slots (fun q => wa B o ≤ q)) (F0 m pc ls []) :=
  W.vret hx hb hr (fun t ht hW => ⟨⟨(), rfl, trivial, by rw [ht]; exact hN, by rw [ht]; exact hz⟩, hS.F ht⟩) hS.2.2 hdg hlocks
end WR
