/-! ===== texts: where the reference's reader stands ===== -/
def tWr (h : zM) : Prop := ∀ k, 0 ≤ k → k < 150 → h.2 8 k = tRw.getD k.toNat 0
def tRp (n : Int) : Int := tRs.getD n.toNat 0
theorem tR_a : ∀ n : Nat, n < 27 → (0 ≤ tRp (n : Int) ∧ tRp (n : Int) < tRp ((n : Int) + 1) ∧ tRp ((n : Int) + 1) ≤ 149 ∧ (((tWd.getD n []).length : Nat) : Int) = tRp ((n : Int) + 1) - tRp (n : Int) - 1 ∧ (tWd.getD n []).length ≤ 8) := by decide +kernel
theorem tR_b : ∀ n : Nat, n < 27 → ∀ t : Nat, t < 150 → (tRp (n : Int) < (t : Int) → (t : Int) < tRp ((n : Int) + 1) → ¬ tRw.getD t 0 = 32) := by decide +kernel
theorem tR_c : ∀ n : Nat, n < 28 → tRw.getD (tRp (n : Int)).toNat 0 = 32 := by decide +kernel
theorem tR_d : ∀ n : Nat, n < 27 → ∀ t : Nat, t < 9 → ((t : Int) < tRp ((n : Int) + 1) - tRp (n : Int) - 1 → tRw.getD (tRp (n : Int) + 1 + (t : Int)).toNat 0 = (tWd.getD n []).getD t 0) := by decide +kernel
theorem tR_0 : tRp 0 = 0 ∧ tRp 27 = 149 := by decide
