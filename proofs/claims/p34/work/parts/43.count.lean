theorem zfd_r {n v n' N v' N' : Int} (c : zfd n v n') (d : zfd N v' N') (e : n = N) : v = v' ∧ n' = N' := by
  subst e
  by_cases y : n ≤ 380
  · have a := c.1 y; have b := d.1 y; omega
  · have a := c.2 (by omega); have b := d.2 (by omega); omega
theorem zen_r {p n v n' N v' N' : Int} (c : zen p n v n') (d : zen p N v' N') (e : n = N) : v = v' ∧ n' = N' := by
  subst e
  by_cases y : p < 0
  · have a := c.2.1 y; have b := d.2.1 y; omega
  · by_cases z : n < p
    · have a := c.2.2 z; have b := d.2.2 z; omega
    · have a := c.1 (by omega) (by omega); have b := d.1 (by omega) (by omega); omega
theorem zSt_pt {h h0 hf : zM} (f0 : zfr [0, 58, 59, 60] [] h h0) (q : zSt h0 hf 1727) {j c k : Int} (hj : 0 ≤ j ∧ j < 1727) (hl : zloc j = (c, k)) : (¬ h0.2 0 58 = 0 → hf.2 35 j = h.2 c k ∧ hf.2 c k = h.2 c k) ∧ (h0.2 0 58 = 0 → hf.2 35 j = h.2 35 j ∧ hf.2 c k = h.2 35 j) := by
  obtain ⟨q1, q2, q3, q4, q5⟩ := q
  have l0 : h0.2 c k = h.2 c k := by
    have zj := zinv_i (i := j) hj
    rw [hl] at zj
    refine f0.2 _ _ rfl (fun w => ?_)
    have hm := List.contains_iff_mem.mp w.2
    have a := zj.1
    have w1 : c = 0 := w.1
    rw [w1] at a
    simp only [List.mem_cons, List.mem_nil_iff, or_false] at hm
    rcases hm with hm | hm | hm | hm <;> rw [hm] at a <;> simp [zinv] at a <;> omega
  have e3 := q3 j hj.1 hj.2
  unfold zlv at e3 q4
  rw [hl] at e3
  refine ⟨fun t => ?_, fun t => ?_⟩
  · have e4 := q4 t j hj.1 hj.2
    rw [hl] at e4
    have e4' : hf.2 c k = h0.2 c k := e4
    have e3' : hf.2 c k = hf.2 35 j := e3
    rw [← e3', e4', l0]; exact ⟨rfl, rfl⟩
  · have e5 := q5 t j
    have e6 : h0.2 35 j = h.2 35 j := zfr_a f0 rfl (by decide)
    have e3' : hf.2 c k = hf.2 35 j := e3
    rw [e3', e5, e6]; exact ⟨rfl, rfl⟩

