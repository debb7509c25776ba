/-- the search over the reference's words -/
def tVi (B : Int → Int) (a b m k : Int) : Prop := (-1 ≤ m ∧ m ≤ 26) ∧ k = tRp (m + 1) ∧ ∀ i : Nat, (i : Int) ≤ m → ¬ tEq B a b (tWd.getD i [])
section TV
variable {h : zM} {a b m k i : Int}
theorem tV_i (hm : 0 ≤ m ∧ m ≤ 26) : ((m.toNat : Nat) : Int) = m := by omega
theorem tV_y (W : tWr h) (hm : 0 ≤ m ∧ m ≤ 26) (hk : k = tRp m) (nb : ∀ j, a ≤ j → j < b → ¬ h.2 7 j = 32) (i0 : 0 ≤ i) (ib : a + i = b) (e : ∀ t, 0 ≤ t → t < i → h.2 8 (k + 1 + t) = h.2 7 (a + t)) (h32 : h.2 8 (k + 1 + i) = 32) (l : k + 1 + i ≤ 149) : tEq (h.2 7) a b (tWd.getD m.toNat []) := by
  have mi := tV_i hm
  have ra := tR_a m.toNat (by omega)
  rw [mi] at ra
  have i1 : tRp (m + 1) ≤ k + 1 + i := by
    by_cases z : k + 1 + i < tRp (m + 1)
    · have rb := tR_b m.toNat (by omega) (k + 1 + i).toNat (by omega)
      rw [mi, Int.toNat_of_nonneg (by omega)] at rb
      have := W (k + 1 + i) (by omega) (by omega)
      rw [h32] at this
      exact absurd this.symm (rb (by omega) z)
    · omega
  have i2 : k + 1 + i ≤ tRp (m + 1) := by
    by_cases z : tRp (m + 1) < k + 1 + i
    · have rc := tR_c (m + 1).toNat (by omega)
      rw [Int.toNat_of_nonneg (show 0 ≤ m + 1 by omega)] at rc
      have e9 := e (tRp (m + 1) - k - 1) (by omega) (by omega)
      rw [show k + 1 + (tRp (m + 1) - k - 1) = tRp (m + 1) by omega, W _ (by omega) (by omega), rc] at e9
      exact absurd e9.symm (nb _ (by omega) (by omega))
    · omega
  refine ⟨by omega, fun t ht => ?_⟩
  have rd := tR_d m.toNat (by omega) t (by omega)
  rw [mi] at rd
  have e9 := e t (by omega) (by omega)
  rw [← e9, W _ (by omega) (by omega), hk]
  exact rd (by omega)
theorem tV_n (W : tWr h) (hm : 0 ≤ m ∧ m ≤ 26) (hk : k = tRp m) (i0 : 0 ≤ i) (c : (a + i < b ∧ ¬ h.2 8 (k + 1 + i) = h.2 7 (a + i)) ∨ (a + i = b ∧ ¬ h.2 8 (k + 1 + i) = 32)) : ¬ tEq (h.2 7) a b (tWd.getD m.toNat []) := by
  intro q
  have mi := tV_i hm
  have ra := tR_a m.toNat (by omega)
  rw [mi] at ra
  have q1 := q.1
  rcases c with ⟨c1, c2⟩ | ⟨c1, c2⟩
  · have q2 := q.2 i.toNat (by omega)
    rw [Int.toNat_of_nonneg i0] at q2
    have rd := tR_d m.toNat (by omega) i.toNat (by omega)
    rw [mi, Int.toNat_of_nonneg i0] at rd
    apply c2
    rw [W _ (by omega) (by omega), q2, hk]
    exact rd (by omega)
  · apply c2
    have rc := tR_c (m + 1).toNat (by omega)
    rw [Int.toNat_of_nonneg (show 0 ≤ m + 1 by omega)] at rc
    rw [W _ (by omega) (by omega), show k + 1 + i = tRp (m + 1) by omega]
    exact rc
theorem tV_b (W : tWr h) (hm : 0 ≤ m ∧ m ≤ 26) (l : tRp m < k) (u : k ≤ tRp (m + 1)) : (h.2 8 k = 32 → k = tRp (m + 1)) ∧ (¬ h.2 8 k = 32 → k + 1 ≤ tRp (m + 1)) := by
  have mi := tV_i hm
  have ra := tR_a m.toNat (by omega)
  rw [mi] at ra
  refine ⟨fun z => ?_, fun z => ?_⟩
  · by_cases y : k < tRp (m + 1)
    · have rb := tR_b m.toNat (by omega) k.toNat (by omega)
      rw [mi, Int.toNat_of_nonneg (by omega)] at rb
      have := W k (by omega) (by omega)
      rw [z] at this
      exact absurd this.symm (rb l y)
    · omega
  · by_cases y : k = tRp (m + 1)
    · have rc := tR_c (m + 1).toNat (by omega)
      rw [Int.toNat_of_nonneg (show 0 ≤ m + 1 by omega)] at rc
      exact absurd (by rw [y, W _ (by omega) (by omega)]; exact rc) z
    · omega
theorem tVi_0 {B : Int → Int} : tVi B a b (-1) 0 := ⟨by decide, tR_0.1.symm, fun i hi => absurd hi (by omega)⟩
theorem tVi_s {B : Int → Int} {k' : Int} (q : tVi B a b m k) (hm : m ≤ 25) (hk : k' = tRp (m + 1 + 1)) (n : ¬ tEq B a b (tWd.getD (m + 1).toNat [])) : tVi B a b (m + 1) k' := by
  obtain ⟨q1, q2, q3⟩ := q
  refine ⟨by omega, hk, fun i hi => ?_⟩
  by_cases z : (i : Int) = m + 1
  · rw [show i = (m + 1).toNat by omega]; exact n
  · exact q3 i (by omega)
theorem tVi_k {B : Int → Int} (q : tVi B a b m k) : (k < 149 → m ≤ 25) ∧ (149 ≤ k → m = 26) := by
  obtain ⟨q1, q2, q3⟩ := q
  refine ⟨fun z => ?_, fun z => ?_⟩
  · by_cases y : m = 26
    · rw [y, show (26 : Int) + 1 = 27 by decide, tR_0.2] at q2; omega
    · omega
  · by_cases y : m = 26
    · exact y
    · have ra := tR_a (m + 1).toNat (by omega)
      rw [Int.toNat_of_nonneg (show 0 ≤ m + 1 by omega)] at ra
      omega
end TV
