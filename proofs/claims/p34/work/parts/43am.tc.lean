/-- what the reference finds -/
def tWv (B : Int → Int) (a b v : Int) : Prop := (v = -1 ∧ ∀ k : Nat, k < 27 → ¬ tEq B a b (tWd.getD k [])) ∨ ((0 ≤ v ∧ v < 27) ∧ tEq B a b (tWd.getD v.toNat []))
def tRds (h h' : zM) : Prop := ∃ q, tRun tBl (h.2 7) (h.2 0 11) (h.2 0 12) q ∧ h'.2 0 13 = q ∧ ((q = h.2 0 11 ∧ h'.2 0 14 = 0) ∨ (q < h.2 0 11 ∧ ¬ h'.2 0 14 = 0 ∧ tEnd (h.2 7) (h.2 0 11) q (h'.2 0 12) ∧ tRt (h.2 7) q (h'.2 0 12) (h'.2 0 14) (h'.2 0 15)))
/-- where it stands -/
def tPm (i : Nat) (T : Int → Int) (j : Int) (h : zM) : Prop := (0 ≤ j ∧ i < 5) ∧ tQ (h.2 7) (h.2 0 11) j.toNat (h.2 0 13) ∧ tTk i (T j) (h.2 0 14) (h.2 0 15) ∧ (¬ h.2 0 14 = 0 → h.2 0 13 < h.2 0 11 ∧ tEnd (h.2 7) (h.2 0 11) (h.2 0 13) (h.2 0 12)) ∧ (∀ (j : Nat) q, tQ (h.2 7) (h.2 0 11) j q → tC i (h.2 7) (h.2 0 11) q (T j)) ∧ tWr h ∧ h.2 0 11 ≤ 400
theorem tPm_f {i : Nat} {T : Int → Int} {j : Int} {h h' : zM} (t : tPm i T j h) (a : ∀ k, h'.2 7 k = h.2 7 k) (b : ∀ k, h'.2 8 k = h.2 8 k) (c : h'.2 0 11 = h.2 0 11) (d : h'.2 0 12 = h.2 0 12) (e : h'.2 0 13 = h.2 0 13) (f : h'.2 0 14 = h.2 0 14) (g : h'.2 0 15 = h.2 0 15) : tPm i T j h' := by
  have a' : h'.2 7 = h.2 7 := funext a
  obtain ⟨t1, t2, t3, t4, t5, t6, t7⟩ := t
  refine ⟨t1, by rw [a', c, e]; exact t2, by rw [f, g]; exact t3, by rw [a', c, d, e, f]; exact t4, by rw [a', c]; exact t5, fun k k0 k1 => by rw [b k]; exact t6 k k0 k1, by rw [c]; exact t7⟩
theorem tPm_s {i : Nat} {T : Int → Int} {j : Int} {h h' : zM} (hi : i < 5) (j0 : 0 ≤ j) (W : tWr h) (l : h.2 0 11 ≤ 400) (ok : ∀ (j : Nat) q, tQ (h.2 7) (h.2 0 11) j q → tC i (h.2 7) (h.2 0 11) q (T j)) (nx : ∀ q, tRun tBl (h.2 7) (h.2 0 11) (h.2 0 12) q → tQ (h.2 7) (h.2 0 11) j.toNat q) (r : tRds h h') (a : ∀ k, h'.2 7 k = h.2 7 k) (b : ∀ k, h'.2 8 k = h.2 8 k) (c : h'.2 0 11 = h.2 0 11) : tPm i T j h' := by
  have a' : h'.2 7 = h.2 7 := funext a
  obtain ⟨q, q1, q2, q3⟩ := r
  have tq := nx q q1
  have tc := ok j.toNat q tq
  rw [Int.toNat_of_nonneg j0] at tc
  refine ⟨⟨j0, hi⟩, by rw [a', c, q2]; exact tq, ?_, fun z => ?_, by rw [a', c]; exact ok, fun k k0 k1 => by rw [b k]; exact W k k0 k1, by rw [c]; exact l⟩
  · rcases q3 with ⟨z1, z2⟩ | ⟨z1, z2, z3, z4⟩
    · exact Or.inl ⟨z2, (tC_z tc).mpr z1⟩
    · exact tC_R hi z1 z3 tc z4
  · rcases q3 with ⟨z1, z2⟩ | ⟨z1, z2, z3, z4⟩
    · exact absurd z2 z
    · rw [a', c, q2]; exact ⟨z1, z3⟩
theorem tPm_r {i : Nat} {T : Int → Int} {j : Int} {h h' : zM} (t : tPm i T j h) (n : ¬ h.2 0 14 = 0) (r : tRds h h') (a : ∀ k, h'.2 7 k = h.2 7 k) (b : ∀ k, h'.2 8 k = h.2 8 k) (c : h'.2 0 11 = h.2 0 11) : tPm i T (j + 1) h' := by
  obtain ⟨t1, t2, t3, t4, t5, t6, t7⟩ := t
  refine tPm_s t1.2 (by omega) t6 t7 t5 (fun q z => ?_) r a b c
  rw [show (j + 1).toNat = j.toNat + 1 by omega]
  exact ⟨h.2 0 13, h.2 0 12, t2, (t4 n).1, (t4 n).2, z⟩
theorem tPm_l {i : Nat} {T : Int → Int} {j : Int} {h : zM} (t : tPm i T j h) (n : ¬ h.2 0 14 = 0) : h.2 0 12 ≤ h.2 0 11 := by
  obtain ⟨t1, t2, t3, t4, t5, t6, t7⟩ := t
  exact (tEnd_b (t4 n).1 (t4 n).2).2
/-- an error's place -/
def tEp (h h' : zM) (j f : Int) : Prop := h'.2 0 29 = f ∧ 0 ≤ j ∧ tQ (h.2 7) (h.2 0 11) j.toNat (h'.2 0 30)
theorem vl_1 {B : Int → Int} {q e v : Int} (h : e = q + 1) (hv : v = B q - 48) : v = tvl B q (e - q).toNat := by
  subst h
  rw [show (q + 1 - q).toNat = 1 by omega]
  show v = tvl B q 0 * 10 + B (q + ((0 : Nat) : Int)) - 48
  rw [show q + ((0 : Nat) : Int) = q by omega]
  show v = 0 * 10 + B q - 48
  omega

