def zfr (fs cs : List Int) (h h' : zM) : Prop := h'.1 = h.1 ∧ ∀ a b : Int, cs.contains a = false → ¬ (a = 0 ∧ fs.contains b = true) → h'.2 a b = h.2 a b
theorem zfr_r (fs cs : List Int) (h : zM) : zfr fs cs h h := ⟨rfl, fun _ _ _ _ => rfl⟩
theorem zfr_a {fs cs : List Int} {h h' : zM} {a b : Int} (q : zfr fs cs h h') (hc : cs.contains a = false) (h0 : ¬ a = 0) : h'.2 a b = h.2 a b := q.2 a b hc (fun z => h0 z.1)
theorem zfr_f {fs cs : List Int} {h h' : zM} {b : Int} (q : zfr fs cs h h') (hc : cs.contains 0 = false) (hb : fs.contains b = false) : h'.2 0 b = h.2 0 b := q.2 0 b hc (fun z => by rw [hb] at z; cases z.2)
def zsub (a b : List Int) : Bool := a.all fun x => b.contains x
theorem zsub_f {a b : List Int} (h : zsub a b = true) {x : Int} (hb : b.contains x = false) : a.contains x = false := by
  cases hh : a.contains x with
  | false => rfl
  | true =>
    have h2 := List.all_eq_true.mp h x (List.contains_iff_mem.mp hh)
    rw [hb] at h2; cases h2
theorem zfr_t {f1 c1 f2 c2 : List Int} {h h1 h2 : zM} (q : zfr f1 c1 h h1) (q2 : zfr f2 c2 h1 h2) (sf : zsub f2 f1 = true) (sc : zsub c2 c1 = true) : zfr f1 c1 h h2 :=
  ⟨q2.1.trans q.1, fun a b hc hf => (q2.2 a b (zsub_f sc hc) (fun z => hf ⟨z.1, by
    cases hh : f1.contains b with
    | true => rfl
    | false => rw [zsub_f sf hh] at z; cases z.2⟩)).trans (q.2 a b hc hf)⟩
theorem zfr_wf {fs cs : List Int} {h h1 h2 : zM} {k v : Int} (q : zfr fs cs h h1) (e : h2 = zwr h1 0 k v) (hk : fs.contains k = true) : zfr fs cs h h2 := by
  subst e
  exact ⟨q.1, fun a b hc hf => by rw [zwr_n (fun z => hf ⟨z.1, by rw [z.2]; exact hk⟩)]; exact q.2 a b hc hf⟩
theorem zfr_wa {fs cs : List Int} {h h1 h2 : zM} {c k v : Int} (q : zfr fs cs h h1) (e : h2 = zwr h1 c k v) (hk : cs.contains c = true) : zfr fs cs h h2 := by
  subst e
  exact ⟨q.1, fun a b hc hf => by rw [zwr_n (fun z => by rw [z.1, hk] at hc; cases hc)]; exact q.2 a b hc hf⟩
def shMl : List (Nat ⊕ (Nat × Nat)) := [.inl 11, .inr (0, 63), .inr (0, 378), .inr (0, 63), .inr (0, 18), .inr (0, 18), .inr (0, 600), .inr (0, 400), .inr (0, 150), .inr (0, 2), .inr (0, 48), .inr (0, 48), .inr (0, 48), .inr (0, 48), .inr (0, 1200), .inr (0, 1200), .inr (0, 40), .inr (0, 96), .inr (0, 96), .inr (0, 36), .inr (0, 10), .inr (0, 420), .inr (0, 18), .inr (0, 8), .inr (0, 8), .inr (0, 6), .inr (0, 128), .inr (0, 116281), .inr (0, 7), .inr (0, 40), .inr (0, 8), .inr (0, 6), .inr (0, 6), .inr (0, 6), .inr (0, 60), .inr (0, 2400)]
def shM : zSh := fun c => shMl.getD c.toNat (.inl 99)
def tM0 : List (Int × Int) := [((-2147483648), 2147483647), (1, 1), (2, 2), (0, 6), (3, 3), (0, 1), (0, 18), (4, 4), (5, 5), (6, 6), (7, 7), (0, 400), (0, 400), (0, 400), (0, 4), ((-2147483648), 2147483647), (8, 8), (9, 9), (10, 10), (11, 11), (12, 12), (13, 13), (14, 14), (15, 15), (0, 0), (0, 400), (0, 8), (16, 16), (0, 40), ((-2147483648), 2147483647), ((-2147483648), 2147483647), ((-2147483648), 2147483647), ((-2147483648), 2147483647), (0, 16), (17, 17), (0, 16), (18, 18), ((-2147483648), 2147483647), (19, 19), (20, 20), (21, 21), (22, 22), (0, 5), (23, 23), (24, 24), ((-2147483648), 2147483647), (25, 25), (26, 26), (27, 27), (0, 7), (28, 28), (29, 29), (30, 30), (0, 6), (31, 31), (32, 32), (33, 33), (34, 34), (0, 1), (0, 1), (0, 2400), (35, 35)]
def tMl : List (Int × Int) := [(-2147483648, 2147483647), ((-2147483648), 2147483647), ((-2147483648), 2147483647), ((-2147483648), 2147483647), ((-2147483648), 2147483647), ((-2147483648), 2147483647), ((-2147483648), 2147483647), (0, 255), ((-2147483648), 2147483647), (0, 16), ((-2147483648), 2147483647), (0, 400), (0, 400), (0, 400), ((-2147483648), 2147483647), ((-2147483648), 2147483647), ((-2147483648), 2147483647), ((-2147483648), 2147483647), ((-2147483648), 2147483647), ((-2147483648), 2147483647), ((-2147483648), 2147483647), ((-2147483648), 2147483647), ((-2147483648), 2147483647), ((-2147483648), 2147483647), ((-2147483648), 2147483647), ((-2147483648), 2147483647), ((-2147483648), 2147483647), ((-2147483648), 2147483647), ((-2147483648), 2147483647), ((-2147483648), 2147483647), ((-2147483648), 2147483647), ((-2147483648), 2147483647), ((-2147483648), 2147483647), (0, 5), ((-2147483648), 2147483647), ((-2147483648), 2147483647)]
def tM (c j : Int) : Int × Int := if c = 0 then tM0.getD j.toNat (-2147483648, 2147483647) else tMl.getD c.toNat (-2147483648, 2147483647)
def PM (c j v : Int) : Prop := (tM c j).1 ≤ v ∧ v ≤ (tM c j).2
/-- wheels: teeth; the town's deeds; a piece of the law's code -/
def wfW (n : Int) (t : Int → Int) : Prop := ∀ k, 0 ≤ k → k < n → 6 ≤ t k ∧ t k ≤ 99
def wfD1 (x y : Int) : Prop := (x = 0 ∨ x = 1) → 0 ≤ y ∧ y ≤ 17
def wfD (d : Int → Int) : Prop := ∀ j, 0 ≤ j → j < 16 → wfD1 (d (3 * j + 1)) (d (3 * j + 2))
def wfC (op arg : Int → Int) (a k : Int) (d d' : Int) : Prop :=
  (op k = 0 ∧ d' = d + 1) ∨ (op k = 1 ∧ d' = d + 1 ∧ 0 ≤ arg k ∧ arg k ≤ 9) ∨ (op k = 9 ∧ 1 ≤ d ∧ d' = d) ∨
  (2 ≤ op k ∧ ¬ op k = 9 ∧ 2 ≤ d ∧ d' = d - 1 ∧ (op k = 5 → a < k ∧ op (k - 1) = 0 ∧ ¬ arg (k - 1) = 0))
def wfP (op arg : Int → Int) (a b d : Int) : Prop := a ≤ b ∧ ∃ dp : Int → Int, dp a = 0 ∧ dp b = d ∧ ∀ k, a ≤ k → k < b → 0 ≤ dp k ∧ wfC op arg a k (dp k) (dp (k + 1))
def wfS (op arg : Int → Int) (a b : Int) : Prop := a = b ∨ wfP op arg a b 1
def wfL (n : Int) (lf lw lt op arg : Int → Int) : Prop := ∀ l, 0 ≤ l → l < n → wfS op arg (lf l) (lw l) ∧ wfS op arg (lw l) (lt l) ∧ (0 ≤ lf l ∧ lt l ≤ 400)
def xM (h : zM) : Prop := wfW (h.2 0 42) (h.2 23) ∧ wfD (h.2 18) ∧ wfL (h.2 9 0) (h.2 11) (h.2 12) (h.2 13) (h.2 14) (h.2 15)
/-- the record that an image holds, slot by slot, as cells and slots of the live state -/
def zloc (j : Int) : Int × Int :=
  if j < 63 then (1, j) else if j = 63 then (0, 6) else if j = 64 then (0, 33) else if j = 65 then (0, 35) else if j = 66 then (0, 37) else if j = 67 then (0, 42) else if j = 68 then (0, 45) else if j = 69 then (0, 49) else if j = 70 then (0, 53)
  else if j < 125 then (if (j - 71) % 3 = 0 then (4, (j - 71) / 3) else if (j - 71) % 3 = 1 then (5, (j - 71) / 3) else (19, (j - 71) / 3))
  else if j < 141 then (if (j - 125) % 2 = 0 then (23, (j - 125) / 2) else (24, (j - 125) / 2))
  else if j < 159 then (if (j - 141) % 3 = 0 then (25, (j - 141) / 3) else if (j - 141) % 3 = 1 then (31, (j - 141) / 3) else (32, (j - 141) / 3))
  else if j < 166 then (28, j - 159) else if j < 214 then (17, j - 166) else if j < 262 then (18, j - 214) else if j < 862 then (6, j - 262) else if j = 862 then (9, 0)
  else if j < 927 then (if (j - 863) % 4 = 0 then (10, (j - 863) / 4) else if (j - 863) % 4 = 1 then (11, (j - 863) / 4) else if (j - 863) % 4 = 2 then (12, (j - 863) / 4) else (13, (j - 863) / 4))
  else if (j - 927) % 2 = 0 then (14, (j - 927) / 2) else (15, (j - 927) / 2)
def iM (h : zM) : Prop := h.2 0 59 = 1 → ∃ h0 : zM, (∀ j, 0 ≤ j → j < 1727 → h0.2 (zloc j).1 (zloc j).2 = h.2 35 j) ∧ (∀ a b, PM a b (h0.2 a b)) ∧ xM h0 ∧ (0 ≤ h0.2 1 2 ∧ h0.2 1 2 ≤ 150)
def rM (h : zM) : Prop := ∀ a j : Int, ((a = 1 ∨ a = 3) ∧ j = 2) ∨ (a = 2 ∧ 0 ≤ j ∧ j < 378 ∧ j % 63 = 2) → 0 ≤ h.2 a j ∧ h.2 a j ≤ 150
def wM (h : zM) : Prop := h.2 8 149 = 32
def okM (h : zM) : Prop := h.1 = 36 ∧ (∀ a b : Int, PM a b (h.2 a b)) ∧ rM h ∧ xM h ∧ iM h ∧ wM h
/-- what xM, iM, wM speak of -/
def nsp (c k : Int) : Prop := ¬ (c = 0 ∧ (k = 42 ∨ k = 59)) ∧ ¬ (c = 9 ∧ k = 0) ∧ ¬ ((c = 11 ∨ c = 12 ∨ c = 13) ∧ k < 16) ∧ ¬ ((c = 14 ∨ c = 15) ∧ k < 400) ∧ ¬ (c = 18 ∧ k < 48) ∧ ¬ (c = 23 ∧ k < 5) ∧ ¬ c = 35 ∧ ¬ c = 8
theorem wfC_ext {op arg op' arg' : Int → Int} {a k d d' : Int} (ho : op' k = op k) (hb : a < k → op' (k - 1) = op (k - 1) ∧ arg' (k - 1) = arg (k - 1)) (ha : arg' k = arg k) (h : wfC op arg a k d d') : wfC op' arg' a k d d' := by
  unfold wfC at h ⊢
  rw [ho, ha]
  rcases h with h | h | h | ⟨h1, h2, h3, h4, h5⟩
  · exact Or.inl h
  · exact Or.inr (Or.inl h)
  · exact Or.inr (Or.inr (Or.inl h))
  · refine Or.inr (Or.inr (Or.inr ⟨h1, h2, h3, h4, fun h6 => ?_⟩))
    obtain ⟨q1, q2, q3⟩ := h5 h6
    obtain ⟨r1, r2⟩ := hb q1
    exact ⟨q1, by rw [r1]; exact q2, by rw [r2]; exact q3⟩
theorem wfP_ext {op arg op' arg' : Int → Int} {a b d : Int} (ho : ∀ k, a ≤ k → k < b → op' k = op k ∧ arg' k = arg k) (h : wfP op arg a b d) : wfP op' arg' a b d := by
  obtain ⟨h0, dp, h1, h2, h3⟩ := h
  exact ⟨h0, dp, h1, h2, fun k q1 q2 => ⟨(h3 k q1 q2).1, wfC_ext (ho k q1 q2).1 (fun q => ho (k - 1) (by omega) (by omega)) (ho k q1 q2).2 (h3 k q1 q2).2⟩⟩
theorem wfS_ext {op arg op' arg' : Int → Int} {a b : Int} (ho : ∀ k, a ≤ k → k < b → op' k = op k ∧ arg' k = arg k) (h : wfS op arg a b) : wfS op' arg' a b := h.imp id (wfP_ext ho)
theorem wfS_le {op arg : Int → Int} {a b : Int} (h : wfS op arg a b) : a ≤ b := by
  rcases h with h | h
  · omega
  · exact h.1
theorem wfL_ext {n n' : Int} {lf lw lt op arg lf' lw' lt' op' arg' : Int → Int} (hn : n' = n) (h16 : n ≤ 16) (hl : ∀ l, 0 ≤ l → l < 16 → lf' l = lf l ∧ lw' l = lw l ∧ lt' l = lt l) (ho : ∀ k, 0 ≤ k → k < 400 → op' k = op k ∧ arg' k = arg k) (h : wfL n lf lw lt op arg) : wfL n' lf' lw' lt' op' arg' := by
  subst hn
  intro l q1 q2
  obtain ⟨h1, h2, h3⟩ := h l q1 q2
  obtain ⟨e1, e2, e3⟩ := hl l q1 (by omega)
  have l1 := wfS_le h1
  have l2 := wfS_le h2
  rw [e1, e2, e3]
  exact ⟨wfS_ext (fun k r1 r2 => ho k (by omega) (by omega)) h1, wfS_ext (fun k r1 r2 => ho k (by omega) (by omega)) h2, h3⟩
theorem xM_ext {h h' : zM} (hp : ∀ a b : Int, PM a b (h.2 a b)) (e : ∀ a b, ¬ nsp a b → h'.2 a b = h.2 a b) (x : xM h) : xM h' := by
  have p9 : 0 ≤ h.2 9 0 ∧ h.2 9 0 ≤ 16 := hp 9 0
  have p42 : 0 ≤ h.2 0 42 ∧ h.2 0 42 ≤ 5 := hp 0 42
  obtain ⟨x1, x2, x3⟩ := x
  refine ⟨fun k q1 q2 => ?_, fun j q1 q2 => ?_, wfL_ext (e 9 0 (by unfold nsp; omega)) p9.2 (fun l q1 q2 => ⟨e 11 l (by unfold nsp; omega), e 12 l (by unfold nsp; omega), e 13 l (by unfold nsp; omega)⟩) (fun k q1 q2 => ⟨e 14 k (by unfold nsp; omega), e 15 k (by unfold nsp; omega)⟩) x3⟩
  · rw [e 0 42 (by unfold nsp; omega)] at q2
    rw [e 23 k (by unfold nsp; omega)]
    exact x1 k q1 q2
  · rw [e 18 _ (by unfold nsp; omega), e 18 _ (by unfold nsp; omega)]
    exact x2 j q1 q2
theorem iM_ext {h h' : zM} (e : ∀ a b, ¬ nsp a b → h'.2 a b = h.2 a b) (x : iM h) : iM h' := by
  intro q
  rw [e 0 59 (by unfold nsp; omega)] at q
  obtain ⟨h0, q1, q2, q3⟩ := x q
  exact ⟨h0, fun j r1 r2 => by rw [e 35 j (by unfold nsp; omega)]; exact q1 j r1 r2, q2, q3⟩
theorem okM_w {h h' : zM} {c k v : Int} (s : okM h) (e : h' = zwr h c k v) (hp : PM c k v) (hr : ¬ (1 ≤ c ∧ c ≤ 3)) (hn : nsp c k) : okM h' := by
  subst e
  obtain ⟨s1, s2, s3, s4, s5, s6⟩ := s
  have ee : ∀ a b, ¬ nsp a b → (zwr h c k v).2 a b = h.2 a b := fun a b q => zwr_n (fun z => q (by rw [z.1, z.2]; exact hn))
  refine ⟨s1, fun a b => ?_, fun a j q1 => ?_, xM_ext s2 ee s4, iM_ext ee s5, ?_⟩
  · by_cases q : a = c ∧ b = k
    · rw [q.1, q.2, zwr_s]; exact hp
    · rw [zwr_n q]; exact s2 a b
  · rw [zwr_n (fun z => hr (by omega))]; exact s3 a j q1
  · show (zwr h c k v).2 8 149 = 32
    rw [ee 8 149 (by unfold nsp; omega)]; exact s6
theorem okM_wr {h h' : zM} {c k v : Int} (s : okM h) (e : h' = zwr h c k v) (hc : c = 1 ∨ c = 2 ∨ c = 3) (hi : -2147483648 ≤ v ∧ v ≤ 2147483647) (hv : k % 63 = 2 → 0 ≤ v ∧ v ≤ 150) : okM h' := by
  subst e
  obtain ⟨s1, s2, s3, s4, s5, s6⟩ := s
  have hn : nsp c k := by unfold nsp; omega
  have ee : ∀ a b, ¬ nsp a b → (zwr h c k v).2 a b = h.2 a b := fun a b q => zwr_n (fun z => q (by rw [z.1, z.2]; exact hn))
  refine ⟨s1, fun a b => ?_, fun a j q1 => ?_, xM_ext s2 ee s4, iM_ext ee s5, ?_⟩
  · by_cases q : a = c ∧ b = k
    · rw [q.1, q.2, zwr_s]
      rcases hc with rfl | rfl | rfl <;> exact hi
    · rw [zwr_n q]; exact s2 a b
  · by_cases q : a = c ∧ j = k
    · rw [q.1, q.2, zwr_s]; exact hv (by omega)
    · rw [zwr_n q]; exact s3 a j q1
  · show (zwr h c k v).2 8 149 = 32
    rw [ee 8 149 (by unfold nsp; omega)]; exact s6
theorem rM_b {h : zM} (s : okM h) (a j : Int) (ha : ((a = 1 ∨ a = 3) ∧ 0 ≤ j ∧ j < 63) ∨ (a = 2 ∧ 0 ≤ j ∧ j < 378)) : (-2147483648 ≤ h.2 a j ∧ h.2 a j ≤ 2147483647) ∧ (j % 63 = 2 → 0 ≤ h.2 a j ∧ h.2 a j ≤ 150) := by
  refine ⟨?_, fun q => s.2.2.1 a j (by omega)⟩
  have := s.2.1 a j
  have hh : a = 1 ∨ a = 2 ∨ a = 3 := by omega
  rcases hh with rfl | rfl | rfl <;> exact this
theorem k_M {h : zM} (s : okM h) : shM 0 = .inl 11 ∧ (0 : Int) ≤ 0 ∧ (0 : Int) < h.1 := ⟨rfl, by decide, by rw [s.1]; decide⟩
theorem fwM_0 {h h' : zM} {v : Int} (s : okM h) (e : h' = zwr h 0 0 v) (hv : (-2147483648) ≤ v ∧ v ≤ 2147483647) : okM h' := okM_w s e hv (by decide) (by unfold nsp; omega)
theorem rfM_1 {h : zM} (s : okM h) : h.2 0 1 = 1 := zeq (s.2.1 0 1)
theorem rfM_2 {h : zM} (s : okM h) : h.2 0 2 = 2 := zeq (s.2.1 0 2)
theorem fM_3 {h : zM} (s : okM h) : 0 ≤ h.2 0 3 ∧ h.2 0 3 ≤ 6 := s.2.1 0 3
theorem fwM_3 {h h' : zM} {v : Int} (s : okM h) (e : h' = zwr h 0 3 v) (hv : 0 ≤ v ∧ v ≤ 6) : okM h' := okM_w s e hv (by decide) (by unfold nsp; omega)
theorem rfM_4 {h : zM} (s : okM h) : h.2 0 4 = 3 := zeq (s.2.1 0 4)
theorem fM_5 {h : zM} (s : okM h) : 0 ≤ h.2 0 5 ∧ h.2 0 5 ≤ 1 := s.2.1 0 5
theorem fwM_5 {h h' : zM} {v : Int} (s : okM h) (e : h' = zwr h 0 5 v) (hv : 0 ≤ v ∧ v ≤ 1) : okM h' := okM_w s e hv (by decide) (by unfold nsp; omega)
theorem fM_6 {h : zM} (s : okM h) : 0 ≤ h.2 0 6 ∧ h.2 0 6 ≤ 18 := s.2.1 0 6
theorem fwM_6 {h h' : zM} {v : Int} (s : okM h) (e : h' = zwr h 0 6 v) (hv : 0 ≤ v ∧ v ≤ 18) : okM h' := okM_w s e hv (by decide) (by unfold nsp; omega)
theorem rfM_7 {h : zM} (s : okM h) : h.2 0 7 = 4 := zeq (s.2.1 0 7)
theorem rfM_8 {h : zM} (s : okM h) : h.2 0 8 = 5 := zeq (s.2.1 0 8)
theorem rfM_9 {h : zM} (s : okM h) : h.2 0 9 = 6 := zeq (s.2.1 0 9)
theorem rfM_10 {h : zM} (s : okM h) : h.2 0 10 = 7 := zeq (s.2.1 0 10)
theorem fM_11 {h : zM} (s : okM h) : 0 ≤ h.2 0 11 ∧ h.2 0 11 ≤ 400 := s.2.1 0 11
theorem fwM_11 {h h' : zM} {v : Int} (s : okM h) (e : h' = zwr h 0 11 v) (hv : 0 ≤ v ∧ v ≤ 400) : okM h' := okM_w s e hv (by decide) (by unfold nsp; omega)
theorem fM_12 {h : zM} (s : okM h) : 0 ≤ h.2 0 12 ∧ h.2 0 12 ≤ 400 := s.2.1 0 12
theorem fwM_12 {h h' : zM} {v : Int} (s : okM h) (e : h' = zwr h 0 12 v) (hv : 0 ≤ v ∧ v ≤ 400) : okM h' := okM_w s e hv (by decide) (by unfold nsp; omega)
theorem fM_13 {h : zM} (s : okM h) : 0 ≤ h.2 0 13 ∧ h.2 0 13 ≤ 400 := s.2.1 0 13
theorem fwM_13 {h h' : zM} {v : Int} (s : okM h) (e : h' = zwr h 0 13 v) (hv : 0 ≤ v ∧ v ≤ 400) : okM h' := okM_w s e hv (by decide) (by unfold nsp; omega)
theorem fM_14 {h : zM} (s : okM h) : 0 ≤ h.2 0 14 ∧ h.2 0 14 ≤ 4 := s.2.1 0 14
theorem fwM_14 {h h' : zM} {v : Int} (s : okM h) (e : h' = zwr h 0 14 v) (hv : 0 ≤ v ∧ v ≤ 4) : okM h' := okM_w s e hv (by decide) (by unfold nsp; omega)
theorem fM_15 {h : zM} (s : okM h) : (-2147483648) ≤ h.2 0 15 ∧ h.2 0 15 ≤ 2147483647 := s.2.1 0 15
theorem fwM_15 {h h' : zM} {v : Int} (s : okM h) (e : h' = zwr h 0 15 v) (hv : (-2147483648) ≤ v ∧ v ≤ 2147483647) : okM h' := okM_w s e hv (by decide) (by unfold nsp; omega)
theorem rfM_16 {h : zM} (s : okM h) : h.2 0 16 = 8 := zeq (s.2.1 0 16)
theorem rfM_17 {h : zM} (s : okM h) : h.2 0 17 = 9 := zeq (s.2.1 0 17)
theorem rfM_18 {h : zM} (s : okM h) : h.2 0 18 = 10 := zeq (s.2.1 0 18)
theorem rfM_19 {h : zM} (s : okM h) : h.2 0 19 = 11 := zeq (s.2.1 0 19)
theorem rfM_20 {h : zM} (s : okM h) : h.2 0 20 = 12 := zeq (s.2.1 0 20)
theorem rfM_21 {h : zM} (s : okM h) : h.2 0 21 = 13 := zeq (s.2.1 0 21)
theorem rfM_22 {h : zM} (s : okM h) : h.2 0 22 = 14 := zeq (s.2.1 0 22)
theorem rfM_23 {h : zM} (s : okM h) : h.2 0 23 = 15 := zeq (s.2.1 0 23)
theorem fwM_24 {h h' : zM} {v : Int} (s : okM h) (e : h' = zwr h 0 24 v) (hv : 0 ≤ v ∧ v ≤ 0) : okM h' := okM_w s e hv (by decide) (by unfold nsp; omega)
theorem fM_25 {h : zM} (s : okM h) : 0 ≤ h.2 0 25 ∧ h.2 0 25 ≤ 400 := s.2.1 0 25
theorem fwM_25 {h h' : zM} {v : Int} (s : okM h) (e : h' = zwr h 0 25 v) (hv : 0 ≤ v ∧ v ≤ 400) : okM h' := okM_w s e hv (by decide) (by unfold nsp; omega)
theorem fM_26 {h : zM} (s : okM h) : 0 ≤ h.2 0 26 ∧ h.2 0 26 ≤ 8 := s.2.1 0 26
theorem fwM_26 {h h' : zM} {v : Int} (s : okM h) (e : h' = zwr h 0 26 v) (hv : 0 ≤ v ∧ v ≤ 8) : okM h' := okM_w s e hv (by decide) (by unfold nsp; omega)
theorem rfM_27 {h : zM} (s : okM h) : h.2 0 27 = 16 := zeq (s.2.1 0 27)
theorem fM_28 {h : zM} (s : okM h) : 0 ≤ h.2 0 28 ∧ h.2 0 28 ≤ 40 := s.2.1 0 28
theorem fwM_28 {h h' : zM} {v : Int} (s : okM h) (e : h' = zwr h 0 28 v) (hv : 0 ≤ v ∧ v ≤ 40) : okM h' := okM_w s e hv (by decide) (by unfold nsp; omega)
theorem fM_29 {h : zM} (s : okM h) : (-2147483648) ≤ h.2 0 29 ∧ h.2 0 29 ≤ 2147483647 := s.2.1 0 29
theorem fwM_29 {h h' : zM} {v : Int} (s : okM h) (e : h' = zwr h 0 29 v) (hv : (-2147483648) ≤ v ∧ v ≤ 2147483647) : okM h' := okM_w s e hv (by decide) (by unfold nsp; omega)
theorem fM_30 {h : zM} (s : okM h) : (-2147483648) ≤ h.2 0 30 ∧ h.2 0 30 ≤ 2147483647 := s.2.1 0 30
theorem fwM_30 {h h' : zM} {v : Int} (s : okM h) (e : h' = zwr h 0 30 v) (hv : (-2147483648) ≤ v ∧ v ≤ 2147483647) : okM h' := okM_w s e hv (by decide) (by unfold nsp; omega)
theorem fM_31 {h : zM} (s : okM h) : (-2147483648) ≤ h.2 0 31 ∧ h.2 0 31 ≤ 2147483647 := s.2.1 0 31
theorem fwM_31 {h h' : zM} {v : Int} (s : okM h) (e : h' = zwr h 0 31 v) (hv : (-2147483648) ≤ v ∧ v ≤ 2147483647) : okM h' := okM_w s e hv (by decide) (by unfold nsp; omega)
theorem fM_32 {h : zM} (s : okM h) : (-2147483648) ≤ h.2 0 32 ∧ h.2 0 32 ≤ 2147483647 := s.2.1 0 32
theorem fwM_32 {h h' : zM} {v : Int} (s : okM h) (e : h' = zwr h 0 32 v) (hv : (-2147483648) ≤ v ∧ v ≤ 2147483647) : okM h' := okM_w s e hv (by decide) (by unfold nsp; omega)
theorem fM_33 {h : zM} (s : okM h) : 0 ≤ h.2 0 33 ∧ h.2 0 33 ≤ 16 := s.2.1 0 33
theorem rfM_34 {h : zM} (s : okM h) : h.2 0 34 = 17 := zeq (s.2.1 0 34)
theorem fM_35 {h : zM} (s : okM h) : 0 ≤ h.2 0 35 ∧ h.2 0 35 ≤ 16 := s.2.1 0 35
theorem rfM_36 {h : zM} (s : okM h) : h.2 0 36 = 18 := zeq (s.2.1 0 36)
theorem fM_37 {h : zM} (s : okM h) : (-2147483648) ≤ h.2 0 37 ∧ h.2 0 37 ≤ 2147483647 := s.2.1 0 37
theorem rfM_38 {h : zM} (s : okM h) : h.2 0 38 = 19 := zeq (s.2.1 0 38)
theorem rfM_39 {h : zM} (s : okM h) : h.2 0 39 = 20 := zeq (s.2.1 0 39)
theorem rfM_40 {h : zM} (s : okM h) : h.2 0 40 = 21 := zeq (s.2.1 0 40)
theorem rfM_41 {h : zM} (s : okM h) : h.2 0 41 = 22 := zeq (s.2.1 0 41)
theorem fM_42 {h : zM} (s : okM h) : 0 ≤ h.2 0 42 ∧ h.2 0 42 ≤ 5 := s.2.1 0 42
theorem rfM_43 {h : zM} (s : okM h) : h.2 0 43 = 23 := zeq (s.2.1 0 43)
theorem rfM_44 {h : zM} (s : okM h) : h.2 0 44 = 24 := zeq (s.2.1 0 44)
theorem fM_45 {h : zM} (s : okM h) : (-2147483648) ≤ h.2 0 45 ∧ h.2 0 45 ≤ 2147483647 := s.2.1 0 45
theorem fwM_45 {h h' : zM} {v : Int} (s : okM h) (e : h' = zwr h 0 45 v) (hv : (-2147483648) ≤ v ∧ v ≤ 2147483647) : okM h' := okM_w s e hv (by decide) (by unfold nsp; omega)
theorem rfM_46 {h : zM} (s : okM h) : h.2 0 46 = 25 := zeq (s.2.1 0 46)
theorem rfM_47 {h : zM} (s : okM h) : h.2 0 47 = 26 := zeq (s.2.1 0 47)
theorem rfM_48 {h : zM} (s : okM h) : h.2 0 48 = 27 := zeq (s.2.1 0 48)
theorem fM_49 {h : zM} (s : okM h) : 0 ≤ h.2 0 49 ∧ h.2 0 49 ≤ 7 := s.2.1 0 49
theorem fwM_49 {h h' : zM} {v : Int} (s : okM h) (e : h' = zwr h 0 49 v) (hv : 0 ≤ v ∧ v ≤ 7) : okM h' := okM_w s e hv (by decide) (by unfold nsp; omega)
theorem rfM_50 {h : zM} (s : okM h) : h.2 0 50 = 28 := zeq (s.2.1 0 50)
theorem rfM_51 {h : zM} (s : okM h) : h.2 0 51 = 29 := zeq (s.2.1 0 51)
theorem rfM_52 {h : zM} (s : okM h) : h.2 0 52 = 30 := zeq (s.2.1 0 52)
theorem fM_53 {h : zM} (s : okM h) : 0 ≤ h.2 0 53 ∧ h.2 0 53 ≤ 6 := s.2.1 0 53
theorem fwM_53 {h h' : zM} {v : Int} (s : okM h) (e : h' = zwr h 0 53 v) (hv : 0 ≤ v ∧ v ≤ 6) : okM h' := okM_w s e hv (by decide) (by unfold nsp; omega)
theorem rfM_54 {h : zM} (s : okM h) : h.2 0 54 = 31 := zeq (s.2.1 0 54)
theorem rfM_55 {h : zM} (s : okM h) : h.2 0 55 = 32 := zeq (s.2.1 0 55)
theorem rfM_56 {h : zM} (s : okM h) : h.2 0 56 = 33 := zeq (s.2.1 0 56)
theorem rfM_57 {h : zM} (s : okM h) : h.2 0 57 = 34 := zeq (s.2.1 0 57)
theorem kaM_1 {h : zM} (s : okM h) : shM 1 = .inr (0, 63) ∧ (0 : Int) ≤ 1 ∧ (1 : Int) < h.1 := ⟨rfl, by decide, by rw [s.1]; decide⟩
theorem kaM_2 {h : zM} (s : okM h) : shM 2 = .inr (0, 378) ∧ (0 : Int) ≤ 2 ∧ (2 : Int) < h.1 := ⟨rfl, by decide, by rw [s.1]; decide⟩
theorem kaM_3 {h : zM} (s : okM h) : shM 3 = .inr (0, 63) ∧ (0 : Int) ≤ 3 ∧ (3 : Int) < h.1 := ⟨rfl, by decide, by rw [s.1]; decide⟩
theorem kaM_4 {h : zM} (s : okM h) : shM 4 = .inr (0, 18) ∧ (0 : Int) ≤ 4 ∧ (4 : Int) < h.1 := ⟨rfl, by decide, by rw [s.1]; decide⟩
theorem abM_4 {h : zM} (s : okM h) (j : Int) : (-2147483648) ≤ h.2 4 j ∧ h.2 4 j ≤ 2147483647 := s.2.1 4 j
theorem awM_4 {h h' : zM} {v j : Int} (s : okM h) (e : h' = zwr h 4 j v) (hv : (-2147483648) ≤ v ∧ v ≤ 2147483647) (hn : nsp 4 j) : okM h' := okM_w s e hv (by decide) hn
theorem kaM_5 {h : zM} (s : okM h) : shM 5 = .inr (0, 18) ∧ (0 : Int) ≤ 5 ∧ (5 : Int) < h.1 := ⟨rfl, by decide, by rw [s.1]; decide⟩
theorem abM_5 {h : zM} (s : okM h) (j : Int) : (-2147483648) ≤ h.2 5 j ∧ h.2 5 j ≤ 2147483647 := s.2.1 5 j
theorem awM_5 {h h' : zM} {v j : Int} (s : okM h) (e : h' = zwr h 5 j v) (hv : (-2147483648) ≤ v ∧ v ≤ 2147483647) (hn : nsp 5 j) : okM h' := okM_w s e hv (by decide) hn
theorem kaM_6 {h : zM} (s : okM h) : shM 6 = .inr (0, 600) ∧ (0 : Int) ≤ 6 ∧ (6 : Int) < h.1 := ⟨rfl, by decide, by rw [s.1]; decide⟩
theorem abM_6 {h : zM} (s : okM h) (j : Int) : (-2147483648) ≤ h.2 6 j ∧ h.2 6 j ≤ 2147483647 := s.2.1 6 j
theorem awM_6 {h h' : zM} {v j : Int} (s : okM h) (e : h' = zwr h 6 j v) (hv : (-2147483648) ≤ v ∧ v ≤ 2147483647) (hn : nsp 6 j) : okM h' := okM_w s e hv (by decide) hn
theorem kaM_7 {h : zM} (s : okM h) : shM 7 = .inr (0, 400) ∧ (0 : Int) ≤ 7 ∧ (7 : Int) < h.1 := ⟨rfl, by decide, by rw [s.1]; decide⟩
theorem abM_7 {h : zM} (s : okM h) (j : Int) : 0 ≤ h.2 7 j ∧ h.2 7 j ≤ 255 := s.2.1 7 j
theorem awM_7 {h h' : zM} {v j : Int} (s : okM h) (e : h' = zwr h 7 j v) (hv : 0 ≤ v ∧ v ≤ 255) (hn : nsp 7 j) : okM h' := okM_w s e hv (by decide) hn
theorem kaM_8 {h : zM} (s : okM h) : shM 8 = .inr (0, 150) ∧ (0 : Int) ≤ 8 ∧ (8 : Int) < h.1 := ⟨rfl, by decide, by rw [s.1]; decide⟩
theorem abM_8 {h : zM} (s : okM h) (j : Int) : (-2147483648) ≤ h.2 8 j ∧ h.2 8 j ≤ 2147483647 := s.2.1 8 j
theorem kaM_9 {h : zM} (s : okM h) : shM 9 = .inr (0, 2) ∧ (0 : Int) ≤ 9 ∧ (9 : Int) < h.1 := ⟨rfl, by decide, by rw [s.1]; decide⟩
theorem abM_9 {h : zM} (s : okM h) (j : Int) : 0 ≤ h.2 9 j ∧ h.2 9 j ≤ 16 := s.2.1 9 j
theorem kaM_10 {h : zM} (s : okM h) : shM 10 = .inr (0, 48) ∧ (0 : Int) ≤ 10 ∧ (10 : Int) < h.1 := ⟨rfl, by decide, by rw [s.1]; decide⟩
theorem abM_10 {h : zM} (s : okM h) (j : Int) : (-2147483648) ≤ h.2 10 j ∧ h.2 10 j ≤ 2147483647 := s.2.1 10 j
theorem awM_10 {h h' : zM} {v j : Int} (s : okM h) (e : h' = zwr h 10 j v) (hv : (-2147483648) ≤ v ∧ v ≤ 2147483647) (hn : nsp 10 j) : okM h' := okM_w s e hv (by decide) hn
theorem kaM_11 {h : zM} (s : okM h) : shM 11 = .inr (0, 48) ∧ (0 : Int) ≤ 11 ∧ (11 : Int) < h.1 := ⟨rfl, by decide, by rw [s.1]; decide⟩
theorem abM_11 {h : zM} (s : okM h) (j : Int) : 0 ≤ h.2 11 j ∧ h.2 11 j ≤ 400 := s.2.1 11 j
theorem awM_11 {h h' : zM} {v j : Int} (s : okM h) (e : h' = zwr h 11 j v) (hv : 0 ≤ v ∧ v ≤ 400) (hn : nsp 11 j) : okM h' := okM_w s e hv (by decide) hn
theorem kaM_12 {h : zM} (s : okM h) : shM 12 = .inr (0, 48) ∧ (0 : Int) ≤ 12 ∧ (12 : Int) < h.1 := ⟨rfl, by decide, by rw [s.1]; decide⟩
theorem abM_12 {h : zM} (s : okM h) (j : Int) : 0 ≤ h.2 12 j ∧ h.2 12 j ≤ 400 := s.2.1 12 j
theorem awM_12 {h h' : zM} {v j : Int} (s : okM h) (e : h' = zwr h 12 j v) (hv : 0 ≤ v ∧ v ≤ 400) (hn : nsp 12 j) : okM h' := okM_w s e hv (by decide) hn
theorem kaM_13 {h : zM} (s : okM h) : shM 13 = .inr (0, 48) ∧ (0 : Int) ≤ 13 ∧ (13 : Int) < h.1 := ⟨rfl, by decide, by rw [s.1]; decide⟩
theorem abM_13 {h : zM} (s : okM h) (j : Int) : 0 ≤ h.2 13 j ∧ h.2 13 j ≤ 400 := s.2.1 13 j
theorem awM_13 {h h' : zM} {v j : Int} (s : okM h) (e : h' = zwr h 13 j v) (hv : 0 ≤ v ∧ v ≤ 400) (hn : nsp 13 j) : okM h' := okM_w s e hv (by decide) hn
theorem kaM_14 {h : zM} (s : okM h) : shM 14 = .inr (0, 1200) ∧ (0 : Int) ≤ 14 ∧ (14 : Int) < h.1 := ⟨rfl, by decide, by rw [s.1]; decide⟩
theorem abM_14 {h : zM} (s : okM h) (j : Int) : (-2147483648) ≤ h.2 14 j ∧ h.2 14 j ≤ 2147483647 := s.2.1 14 j
theorem awM_14 {h h' : zM} {v j : Int} (s : okM h) (e : h' = zwr h 14 j v) (hv : (-2147483648) ≤ v ∧ v ≤ 2147483647) (hn : nsp 14 j) : okM h' := okM_w s e hv (by decide) hn
theorem kaM_15 {h : zM} (s : okM h) : shM 15 = .inr (0, 1200) ∧ (0 : Int) ≤ 15 ∧ (15 : Int) < h.1 := ⟨rfl, by decide, by rw [s.1]; decide⟩
theorem abM_15 {h : zM} (s : okM h) (j : Int) : (-2147483648) ≤ h.2 15 j ∧ h.2 15 j ≤ 2147483647 := s.2.1 15 j
theorem awM_15 {h h' : zM} {v j : Int} (s : okM h) (e : h' = zwr h 15 j v) (hv : (-2147483648) ≤ v ∧ v ≤ 2147483647) (hn : nsp 15 j) : okM h' := okM_w s e hv (by decide) hn
theorem kaM_16 {h : zM} (s : okM h) : shM 16 = .inr (0, 40) ∧ (0 : Int) ≤ 16 ∧ (16 : Int) < h.1 := ⟨rfl, by decide, by rw [s.1]; decide⟩
theorem abM_16 {h : zM} (s : okM h) (j : Int) : (-2147483648) ≤ h.2 16 j ∧ h.2 16 j ≤ 2147483647 := s.2.1 16 j
theorem awM_16 {h h' : zM} {v j : Int} (s : okM h) (e : h' = zwr h 16 j v) (hv : (-2147483648) ≤ v ∧ v ≤ 2147483647) (hn : nsp 16 j) : okM h' := okM_w s e hv (by decide) hn
theorem kaM_17 {h : zM} (s : okM h) : shM 17 = .inr (0, 96) ∧ (0 : Int) ≤ 17 ∧ (17 : Int) < h.1 := ⟨rfl, by decide, by rw [s.1]; decide⟩
theorem abM_17 {h : zM} (s : okM h) (j : Int) : (-2147483648) ≤ h.2 17 j ∧ h.2 17 j ≤ 2147483647 := s.2.1 17 j
theorem awM_17 {h h' : zM} {v j : Int} (s : okM h) (e : h' = zwr h 17 j v) (hv : (-2147483648) ≤ v ∧ v ≤ 2147483647) (hn : nsp 17 j) : okM h' := okM_w s e hv (by decide) hn
theorem kaM_18 {h : zM} (s : okM h) : shM 18 = .inr (0, 96) ∧ (0 : Int) ≤ 18 ∧ (18 : Int) < h.1 := ⟨rfl, by decide, by rw [s.1]; decide⟩
theorem abM_18 {h : zM} (s : okM h) (j : Int) : (-2147483648) ≤ h.2 18 j ∧ h.2 18 j ≤ 2147483647 := s.2.1 18 j
theorem awM_18 {h h' : zM} {v j : Int} (s : okM h) (e : h' = zwr h 18 j v) (hv : (-2147483648) ≤ v ∧ v ≤ 2147483647) (hn : nsp 18 j) : okM h' := okM_w s e hv (by decide) hn
theorem kaM_19 {h : zM} (s : okM h) : shM 19 = .inr (0, 36) ∧ (0 : Int) ≤ 19 ∧ (19 : Int) < h.1 := ⟨rfl, by decide, by rw [s.1]; decide⟩
theorem abM_19 {h : zM} (s : okM h) (j : Int) : (-2147483648) ≤ h.2 19 j ∧ h.2 19 j ≤ 2147483647 := s.2.1 19 j
theorem awM_19 {h h' : zM} {v j : Int} (s : okM h) (e : h' = zwr h 19 j v) (hv : (-2147483648) ≤ v ∧ v ≤ 2147483647) (hn : nsp 19 j) : okM h' := okM_w s e hv (by decide) hn
theorem kaM_20 {h : zM} (s : okM h) : shM 20 = .inr (0, 10) ∧ (0 : Int) ≤ 20 ∧ (20 : Int) < h.1 := ⟨rfl, by decide, by rw [s.1]; decide⟩
theorem abM_20 {h : zM} (s : okM h) (j : Int) : (-2147483648) ≤ h.2 20 j ∧ h.2 20 j ≤ 2147483647 := s.2.1 20 j
theorem awM_20 {h h' : zM} {v j : Int} (s : okM h) (e : h' = zwr h 20 j v) (hv : (-2147483648) ≤ v ∧ v ≤ 2147483647) (hn : nsp 20 j) : okM h' := okM_w s e hv (by decide) hn
theorem kaM_21 {h : zM} (s : okM h) : shM 21 = .inr (0, 420) ∧ (0 : Int) ≤ 21 ∧ (21 : Int) < h.1 := ⟨rfl, by decide, by rw [s.1]; decide⟩
theorem abM_21 {h : zM} (s : okM h) (j : Int) : (-2147483648) ≤ h.2 21 j ∧ h.2 21 j ≤ 2147483647 := s.2.1 21 j
theorem awM_21 {h h' : zM} {v j : Int} (s : okM h) (e : h' = zwr h 21 j v) (hv : (-2147483648) ≤ v ∧ v ≤ 2147483647) (hn : nsp 21 j) : okM h' := okM_w s e hv (by decide) hn
theorem kaM_22 {h : zM} (s : okM h) : shM 22 = .inr (0, 18) ∧ (0 : Int) ≤ 22 ∧ (22 : Int) < h.1 := ⟨rfl, by decide, by rw [s.1]; decide⟩
theorem abM_22 {h : zM} (s : okM h) (j : Int) : (-2147483648) ≤ h.2 22 j ∧ h.2 22 j ≤ 2147483647 := s.2.1 22 j
theorem awM_22 {h h' : zM} {v j : Int} (s : okM h) (e : h' = zwr h 22 j v) (hv : (-2147483648) ≤ v ∧ v ≤ 2147483647) (hn : nsp 22 j) : okM h' := okM_w s e hv (by decide) hn
theorem kaM_23 {h : zM} (s : okM h) : shM 23 = .inr (0, 8) ∧ (0 : Int) ≤ 23 ∧ (23 : Int) < h.1 := ⟨rfl, by decide, by rw [s.1]; decide⟩
theorem kaM_24 {h : zM} (s : okM h) : shM 24 = .inr (0, 8) ∧ (0 : Int) ≤ 24 ∧ (24 : Int) < h.1 := ⟨rfl, by decide, by rw [s.1]; decide⟩
theorem abM_24 {h : zM} (s : okM h) (j : Int) : (-2147483648) ≤ h.2 24 j ∧ h.2 24 j ≤ 2147483647 := s.2.1 24 j
theorem awM_24 {h h' : zM} {v j : Int} (s : okM h) (e : h' = zwr h 24 j v) (hv : (-2147483648) ≤ v ∧ v ≤ 2147483647) (hn : nsp 24 j) : okM h' := okM_w s e hv (by decide) hn
theorem kaM_25 {h : zM} (s : okM h) : shM 25 = .inr (0, 6) ∧ (0 : Int) ≤ 25 ∧ (25 : Int) < h.1 := ⟨rfl, by decide, by rw [s.1]; decide⟩
theorem abM_25 {h : zM} (s : okM h) (j : Int) : (-2147483648) ≤ h.2 25 j ∧ h.2 25 j ≤ 2147483647 := s.2.1 25 j
theorem awM_25 {h h' : zM} {v j : Int} (s : okM h) (e : h' = zwr h 25 j v) (hv : (-2147483648) ≤ v ∧ v ≤ 2147483647) (hn : nsp 25 j) : okM h' := okM_w s e hv (by decide) hn
theorem kaM_26 {h : zM} (s : okM h) : shM 26 = .inr (0, 128) ∧ (0 : Int) ≤ 26 ∧ (26 : Int) < h.1 := ⟨rfl, by decide, by rw [s.1]; decide⟩
theorem abM_26 {h : zM} (s : okM h) (j : Int) : (-2147483648) ≤ h.2 26 j ∧ h.2 26 j ≤ 2147483647 := s.2.1 26 j
theorem awM_26 {h h' : zM} {v j : Int} (s : okM h) (e : h' = zwr h 26 j v) (hv : (-2147483648) ≤ v ∧ v ≤ 2147483647) (hn : nsp 26 j) : okM h' := okM_w s e hv (by decide) hn
theorem kaM_27 {h : zM} (s : okM h) : shM 27 = .inr (0, 116281) ∧ (0 : Int) ≤ 27 ∧ (27 : Int) < h.1 := ⟨rfl, by decide, by rw [s.1]; decide⟩
theorem abM_27 {h : zM} (s : okM h) (j : Int) : (-2147483648) ≤ h.2 27 j ∧ h.2 27 j ≤ 2147483647 := s.2.1 27 j
theorem awM_27 {h h' : zM} {v j : Int} (s : okM h) (e : h' = zwr h 27 j v) (hv : (-2147483648) ≤ v ∧ v ≤ 2147483647) (hn : nsp 27 j) : okM h' := okM_w s e hv (by decide) hn
theorem kaM_28 {h : zM} (s : okM h) : shM 28 = .inr (0, 7) ∧ (0 : Int) ≤ 28 ∧ (28 : Int) < h.1 := ⟨rfl, by decide, by rw [s.1]; decide⟩
theorem abM_28 {h : zM} (s : okM h) (j : Int) : (-2147483648) ≤ h.2 28 j ∧ h.2 28 j ≤ 2147483647 := s.2.1 28 j
theorem awM_28 {h h' : zM} {v j : Int} (s : okM h) (e : h' = zwr h 28 j v) (hv : (-2147483648) ≤ v ∧ v ≤ 2147483647) (hn : nsp 28 j) : okM h' := okM_w s e hv (by decide) hn
theorem kaM_29 {h : zM} (s : okM h) : shM 29 = .inr (0, 40) ∧ (0 : Int) ≤ 29 ∧ (29 : Int) < h.1 := ⟨rfl, by decide, by rw [s.1]; decide⟩
theorem abM_29 {h : zM} (s : okM h) (j : Int) : (-2147483648) ≤ h.2 29 j ∧ h.2 29 j ≤ 2147483647 := s.2.1 29 j
theorem awM_29 {h h' : zM} {v j : Int} (s : okM h) (e : h' = zwr h 29 j v) (hv : (-2147483648) ≤ v ∧ v ≤ 2147483647) (hn : nsp 29 j) : okM h' := okM_w s e hv (by decide) hn
theorem kaM_30 {h : zM} (s : okM h) : shM 30 = .inr (0, 8) ∧ (0 : Int) ≤ 30 ∧ (30 : Int) < h.1 := ⟨rfl, by decide, by rw [s.1]; decide⟩
theorem abM_30 {h : zM} (s : okM h) (j : Int) : (-2147483648) ≤ h.2 30 j ∧ h.2 30 j ≤ 2147483647 := s.2.1 30 j
theorem awM_30 {h h' : zM} {v j : Int} (s : okM h) (e : h' = zwr h 30 j v) (hv : (-2147483648) ≤ v ∧ v ≤ 2147483647) (hn : nsp 30 j) : okM h' := okM_w s e hv (by decide) hn
theorem kaM_31 {h : zM} (s : okM h) : shM 31 = .inr (0, 6) ∧ (0 : Int) ≤ 31 ∧ (31 : Int) < h.1 := ⟨rfl, by decide, by rw [s.1]; decide⟩
theorem abM_31 {h : zM} (s : okM h) (j : Int) : (-2147483648) ≤ h.2 31 j ∧ h.2 31 j ≤ 2147483647 := s.2.1 31 j
theorem awM_31 {h h' : zM} {v j : Int} (s : okM h) (e : h' = zwr h 31 j v) (hv : (-2147483648) ≤ v ∧ v ≤ 2147483647) (hn : nsp 31 j) : okM h' := okM_w s e hv (by decide) hn
theorem kaM_32 {h : zM} (s : okM h) : shM 32 = .inr (0, 6) ∧ (0 : Int) ≤ 32 ∧ (32 : Int) < h.1 := ⟨rfl, by decide, by rw [s.1]; decide⟩
theorem abM_32 {h : zM} (s : okM h) (j : Int) : (-2147483648) ≤ h.2 32 j ∧ h.2 32 j ≤ 2147483647 := s.2.1 32 j
theorem awM_32 {h h' : zM} {v j : Int} (s : okM h) (e : h' = zwr h 32 j v) (hv : (-2147483648) ≤ v ∧ v ≤ 2147483647) (hn : nsp 32 j) : okM h' := okM_w s e hv (by decide) hn
theorem kaM_33 {h : zM} (s : okM h) : shM 33 = .inr (0, 6) ∧ (0 : Int) ≤ 33 ∧ (33 : Int) < h.1 := ⟨rfl, by decide, by rw [s.1]; decide⟩
theorem abM_33 {h : zM} (s : okM h) (j : Int) : 0 ≤ h.2 33 j ∧ h.2 33 j ≤ 5 := s.2.1 33 j
theorem awM_33 {h h' : zM} {v j : Int} (s : okM h) (e : h' = zwr h 33 j v) (hv : 0 ≤ v ∧ v ≤ 5) (hn : nsp 33 j) : okM h' := okM_w s e hv (by decide) hn
theorem kaM_34 {h : zM} (s : okM h) : shM 34 = .inr (0, 60) ∧ (0 : Int) ≤ 34 ∧ (34 : Int) < h.1 := ⟨rfl, by decide, by rw [s.1]; decide⟩
theorem abM_34 {h : zM} (s : okM h) (j : Int) : (-2147483648) ≤ h.2 34 j ∧ h.2 34 j ≤ 2147483647 := s.2.1 34 j
theorem awM_34 {h h' : zM} {v j : Int} (s : okM h) (e : h' = zwr h 34 j v) (hv : (-2147483648) ≤ v ∧ v ≤ 2147483647) (hn : nsp 34 j) : okM h' := okM_w s e hv (by decide) hn
