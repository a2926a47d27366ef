/-! WHAT the calls answer, where they answer -/
theorem a_about_in (σ : gS) {k : Int} (hk : 0 ≤ k ∧ k ≤ 16) : a_about σ k = q_abt σ.1 k := by
  unfold a_about cd_about; rw [if_pos hk]; exact if_pos rfl
theorem a_about_0 (σ : gS) : a_about σ 0 = q_nd σ.1 := by rw [a_about_in σ (by omega)]; rfl
theorem a_about_1 (σ : gS) : a_about σ 1 = q_nwait σ.1 := by rw [a_about_in σ (by omega)]; rfl
theorem a_about_2 (σ : gS) : a_about σ 2 = q_nrun σ.1 := by rw [a_about_in σ (by omega)]; rfl
theorem a_about_5 (σ : gS) : a_about σ 5 = σ.1 1 := by rw [a_about_in σ (by omega)]; rfl
theorem a_about_6 (σ : gS) : a_about σ 6 = σ.1 2 := by rw [a_about_in σ (by omega)]; rfl
theorem a_about_7 (σ : gS) : a_about σ 7 = σ.1 3 := by rw [a_about_in σ (by omega)]; rfl
theorem a_about_8 (σ : gS) : a_about σ 8 = σ.1 4 := by rw [a_about_in σ (by omega)]; rfl
theorem a_about_17 (σ : gS) : a_about σ 17 = -9999002 := by unfold a_about cd_about; rfl
theorem a_dog_in (σ : gS) {i : Nat} (hi : (i : Int) < q_nd σ.1) {w : Int} (hw : 0 ≤ w ∧ w ≤ 7) : a_dog σ (i : Int) w = q_dga σ.1 i w := by
  have h : cd_dog σ (i : Int) w = 0 := by unfold cd_dog; rw [if_neg (fun h9 => h9 ⟨by omega, hi⟩), if_neg (fun h9 => h9 hw)]
  unfold a_dog; rw [if_pos h, Int.toNat_natCast]
theorem a_dog_0 {σ : gS} {i : Nat} (hi : (i : Int) < q_nd σ.1) : a_dog σ (i : Int) 0 = q_ow σ.1 i := by rw [a_dog_in σ hi (by omega)]; rfl
theorem a_dog_1 {σ : gS} {i : Nat} (hi : (i : Int) < q_nd σ.1) : a_dog σ (i : Int) 1 = q_dr σ.1 i := by rw [a_dog_in σ hi (by omega)]; rfl
theorem a_dog_2 {σ : gS} {i : Nat} (hi : (i : Int) < q_nd σ.1) : a_dog σ (i : Int) 2 = q_sa σ.1 i := by rw [a_dog_in σ hi (by omega)]; rfl
theorem a_dog_3 {σ : gS} {i : Nat} (hi : (i : Int) < q_nd σ.1) : a_dog σ (i : Int) 3 = q_hs σ.1 i := by rw [a_dog_in σ hi (by omega)]; rfl
theorem a_dog_4 {σ : gS} {i : Nat} (hi : (i : Int) < q_nd σ.1) : a_dog σ (i : Int) 4 = q_sc σ.1 i := by rw [a_dog_in σ hi (by omega)]; rfl
theorem a_dog_5 {σ : gS} {i : Nat} (hi : (i : Int) < q_nd σ.1) : a_dog σ (i : Int) 5 = q_fr σ.1 i := by rw [a_dog_in σ hi (by omega)]; rfl
theorem a_dog_6 {σ : gS} {i : Nat} (hi : (i : Int) < q_nd σ.1) : a_dog σ (i : Int) 6 = q_pl σ.1 i := by rw [a_dog_in σ hi (by omega)]; rfl
theorem a_dog_7 {σ : gS} {i : Nat} (hi : (i : Int) < q_nd σ.1) : a_dog σ (i : Int) 7 = q_pio σ.1 (i : Int) := by rw [a_dog_in σ hi (by omega)]; rfl
/-- what a dog lost in a phase, as it is told -/
def q_lv (R : Nat → Int) (i p : Nat) : Int := if q_hs R i = 1 then q_lo R i p else -9
theorem a_lost_in {σ : gS} {i p : Nat} (hi : (i : Int) < q_nd σ.1) (hp : p < 6) : a_lost σ (i : Int) (p : Int) = q_lv σ.1 i p := by
  have h : cd_lost σ (i : Int) (p : Int) = 0 := by unfold cd_lost; exact if_pos ⟨by omega, hi, by omega, by omega⟩
  unfold a_lost q_lv; rw [if_pos h, Int.toNat_natCast, Int.toNat_natCast]
theorem a_owner_in {σ : gS} {o : Int} (h : 0 ≤ o ∧ o ≤ 5) : a_owner σ o = q_os σ.1 o := by
  have h : cd_owner σ o = 0 := by unfold cd_owner; exact if_pos h
  unfold a_owner; rw [if_pos h]
theorem a_order_in {σ : gS} {k : Int} (h : 0 ≤ k) : a_order σ k = q_atk σ.1 k := by
  have h : cd_order σ k = 0 := by unfold cd_order; exact if_neg (by omega)
  unfold a_order; rw [if_pos h]
theorem a_order_neg (σ : gS) : a_order σ (-1) = -9999002 := by unfold a_order cd_order; rfl
/-! THE SUM of all that a trial answers -/
def q_su (a : Int) (f : Nat → Int) : Nat → Int | 0 => a | k + 1 => 131 * q_su a f k + (iZ (f k)).toInt
def q_sud (R : Nat → Int) : Nat → Int | 0 => q_su 0 (fun k => q_abt R (k : Int)) 17 | i + 1 => q_su (q_su (q_sud R i) (fun k => q_dga R i (k : Int)) 8) (q_lv R i) 6
def q_all (R : Nat → Int) : Int := q_sud R (q_nd R).toNat
/-- points by a number -/
def q_pv (v : Int) : Nat → Int | 0 => 0 | p + 1 => 100 * q_pv v p + v / ((p : Int) + 1) % (q_wth p + 1)
