def q_ro (o n : Nat) : Nat := if n = 14 then (o + 1) % 14 else o
def q_rn (n : Nat) : Nat := if n = 14 then 13 else n
def q_slot (o n : Nat) : Nat := 8 * (5 + (o + n) % 14)
theorem q_slot_T (o n : Nat) : isT (q_slot o n) := by unfold q_slot; exact ⟨by omega, by omega⟩
theorem q_slot_in (o n : Nat) : 40 ≤ q_slot o n ∧ q_slot o n + 8 ≤ 152 ∧ q_slot o n % 8 = 0 := by unfold q_slot; omega
