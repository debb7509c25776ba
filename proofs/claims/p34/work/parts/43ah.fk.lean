/-! ===== the reference: what can be undone, the image ===== -/
def xQ (h : zM) (u : Int) (q : Int → fR) : Prop := (h.2 0 3 = u ∧ 0 ≤ u ∧ u ≤ 6) ∧ (∀ i k, 0 ≤ i → i < u → 0 ≤ k → k < 63 → h.2 2 (63 * i + k) = q i k) ∧ (∀ i, 0 ≤ i → i < u → fWx (q i))
def zHr (p : Int → Int) (E : fE) (x : fS) : Prop :=
  p 63 = E.n ∧ (∀ i, 0 ≤ i → i < 18 → p (71 + 3 * i) = E.wt i ∧ p (71 + 3 * i + 1) = E.lg i ∧ p (71 + 3 * i + 2) = E.kn i) ∧
  (p 862 = E.lm ∧ (∀ l, 0 ≤ l → l < E.lm → p (863 + 4 * l) = E.lw l ∧ p (863 + 4 * l + 1) = E.lf l ∧ p (863 + 4 * l + 2) = E.lh l ∧ p (863 + 4 * l + 3) = E.lt l) ∧ (∀ i, 0 ≤ i → i < E.ln → zEn (p (927 + 2 * i)) (p (927 + 2 * i + 1)) (E.cd i))) ∧
  (p 64 = E.bm ∧ ∀ l, 0 ≤ l → l < E.bm → p (166 + 3 * l) = E.bd l ∧ p (166 + 3 * l + 1) = E.bs l ∧ p (166 + 3 * l + 2) = E.bo l) ∧
  (p 65 = E.dm ∧ ∀ l, 0 ≤ l → l < E.dm → p (214 + 3 * l) = E.dd l ∧ p (214 + 3 * l + 1) = E.dw l ∧ p (214 + 3 * l + 2) = E.dn l) ∧ p 66 = E.km ∧
  (∀ k, 0 ≤ k → k < 63 → p k = x.1 k) ∧ (∀ k, 0 ≤ k → k < 600 → p (262 + k) = x.2 k)
theorem zHr_x {p p' : Int → Int} {E : fE} {x : fS} (w : fWE E) (e : ∀ j, 0 ≤ j → j < 1727 → p' j = p j) (t : zHr p E x) : zHr p' E x := by
  obtain ⟨a1, a2, ⟨a3, a4, a5⟩, ⟨a6, a7⟩, ⟨a8, a9⟩, a10, a11, a12⟩ := t
  obtain ⟨w1, w2, w3, ⟨w4, w5, w6⟩, ⟨w7, w8⟩, w9, w10⟩ := w
  refine ⟨?_, fun i p q => ?_, ⟨?_, fun l p q => ?_, fun i p q => ?_⟩, ⟨?_, fun l p q => ?_⟩, ⟨?_, fun l p q => ?_⟩, ?_, fun k p q => ?_, fun k p q => ?_⟩
  · rw [e _ (by omega) (by omega)]; exact a1
  · rw [e _ (by omega) (by omega), e (71 + 3 * i + 1) (by omega) (by omega), e (71 + 3 * i + 2) (by omega) (by omega)]; exact a2 i p q
  · rw [e _ (by omega) (by omega)]; exact a3
  · rw [e (863 + 4 * l) (by omega) (by omega), e (863 + 4 * l + 1) (by omega) (by omega), e (863 + 4 * l + 2) (by omega) (by omega), e (863 + 4 * l + 3) (by omega) (by omega)]; exact a4 l p q
  · rw [e (927 + 2 * i) (by omega) (by omega), e (927 + 2 * i + 1) (by omega) (by omega)]; exact a5 i p q
  · rw [e _ (by omega) (by omega)]; exact a6
  · rw [e (166 + 3 * l) (by omega) (by omega), e (166 + 3 * l + 1) (by omega) (by omega), e (166 + 3 * l + 2) (by omega) (by omega)]; exact a7 l p q
  · rw [e _ (by omega) (by omega)]; exact a8
  · rw [e (214 + 3 * l) (by omega) (by omega), e (214 + 3 * l + 1) (by omega) (by omega), e (214 + 3 * l + 2) (by omega) (by omega)]; exact a9 l p q
  · rw [e _ (by omega) (by omega)]; exact a10
  · rw [e k (by omega) (by omega)]; exact a11 k p q
  · rw [e (262 + k) (by omega) (by omega)]; exact a12 k p q
theorem zlv_c {h : zM} {j c k : Int} (e : zloc j = (c, k)) : zlv h j = h.2 c k := by unfold zlv; rw [e]
theorem zHr_l {h : zM} {E : fE} {x : fS} (w : fWE E) : zHr (zlv h) E x ↔ (zHE h E ∧ (∀ k, 0 ≤ k → k < 63 → h.2 1 k = x.1 k) ∧ (∀ k, 0 ≤ k → k < 600 → h.2 6 k = x.2 k)) := by
  obtain ⟨w1, w2, w3, ⟨w4, w5, w6⟩, ⟨w7, w8⟩, w9, w10⟩ := w
  have f1 : zlv h 63 = h.2 0 6 := zlv_c (zl_f6 rfl)
  have f2 : zlv h 64 = h.2 0 33 := zlv_c (zl_f33 rfl)
  have f3 : zlv h 65 = h.2 0 35 := zlv_c (zl_f35 rfl)
  have f4 : zlv h 66 = h.2 0 37 := zlv_c (zl_f37 rfl)
  have f5 : zlv h 862 = h.2 9 0 := zlv_c (zl_9 rfl rfl)
  have r1 : ∀ i, 0 ≤ i → i < 18 → zlv h (71 + 3 * i) = h.2 4 i ∧ zlv h (71 + 3 * i + 1) = h.2 5 i ∧ zlv h (71 + 3 * i + 2) = h.2 19 i := fun i a b => ⟨zlv_c (zl_4 ⟨a, b⟩ (by omega)), zlv_c (zl_5 ⟨a, b⟩ (by omega)), zlv_c (zl_19 ⟨a, b⟩ (by omega))⟩
  have r2 : ∀ l, 0 ≤ l → l < 16 → zlv h (863 + 4 * l) = h.2 10 l ∧ zlv h (863 + 4 * l + 1) = h.2 11 l ∧ zlv h (863 + 4 * l + 2) = h.2 12 l ∧ zlv h (863 + 4 * l + 3) = h.2 13 l := fun l a b => ⟨zlv_c (zl_10 ⟨a, b⟩ (by omega)), zlv_c (zl_11 ⟨a, b⟩ (by omega)), zlv_c (zl_12 ⟨a, b⟩ (by omega)), zlv_c (zl_13 ⟨a, b⟩ (by omega))⟩
  have r3 : ∀ i, 0 ≤ i → i < 400 → zlv h (927 + 2 * i) = h.2 14 i ∧ zlv h (927 + 2 * i + 1) = h.2 15 i := fun i a b => ⟨zlv_c (zl_14 ⟨a, b⟩ (by omega)), zlv_c (zl_15 ⟨a, b⟩ (by omega))⟩
  have r4 : ∀ k, 0 ≤ k → k < 48 → zlv h (166 + k) = h.2 17 k := fun k a b => zlv_c (zl_17 ⟨a, b⟩ (by omega))
  have r5 : ∀ k, 0 ≤ k → k < 48 → zlv h (214 + k) = h.2 18 k := fun k a b => zlv_c (zl_18 ⟨a, b⟩ (by omega))
  have r6 : ∀ k, 0 ≤ k → k < 63 → zlv h k = h.2 1 k := fun k a b => zlv_c (zl_1 ⟨a, b⟩ rfl)
  have r7 : ∀ k, 0 ≤ k → k < 600 → zlv h (262 + k) = h.2 6 k := fun k a b => zlv_c (zl_6 ⟨a, b⟩ (by omega))
  have s4 : ∀ l, 0 ≤ l → l < 16 → zlv h (166 + 3 * l) = h.2 17 (3 * l) ∧ zlv h (166 + 3 * l + 1) = h.2 17 (3 * l + 1) ∧ zlv h (166 + 3 * l + 2) = h.2 17 (3 * l + 2) := fun l a b => ⟨r4 _ (by omega) (by omega), by rw [show 166 + 3 * l + 1 = 166 + (3 * l + 1) by omega]; exact r4 _ (by omega) (by omega), by rw [show 166 + 3 * l + 2 = 166 + (3 * l + 2) by omega]; exact r4 _ (by omega) (by omega)⟩
  have s5 : ∀ l, 0 ≤ l → l < 16 → zlv h (214 + 3 * l) = h.2 18 (3 * l) ∧ zlv h (214 + 3 * l + 1) = h.2 18 (3 * l + 1) ∧ zlv h (214 + 3 * l + 2) = h.2 18 (3 * l + 2) := fun l a b => ⟨r5 _ (by omega) (by omega), by rw [show 214 + 3 * l + 1 = 214 + (3 * l + 1) by omega]; exact r5 _ (by omega) (by omega), by rw [show 214 + 3 * l + 2 = 214 + (3 * l + 2) by omega]; exact r5 _ (by omega) (by omega)⟩
  constructor
  · rintro ⟨a1, a2, ⟨a3, a4, a5⟩, ⟨a6, a7⟩, ⟨a8, a9⟩, a10, a11, a12⟩
    refine ⟨⟨f1.symm.trans a1, fun i p q => ?_, ⟨f5.symm.trans a3, fun l p q => ?_, fun i p q => ?_⟩, ⟨f2.symm.trans a6, fun l p q => ?_⟩, ⟨f3.symm.trans a8, fun l p q => ?_⟩, f4.symm.trans a10⟩, fun k p q => (r6 k p q).symm.trans (a11 k p q), fun k p q => (r7 k p q).symm.trans (a12 k p q)⟩
    · have z := a2 i p q
      rw [(r1 i p q).1, (r1 i p q).2.1, (r1 i p q).2.2] at z; exact z
    · have z := a4 l p q
      have y := r2 l p (by omega)
      rw [y.1, y.2.1, y.2.2.1, y.2.2.2] at z; exact z
    · have z := a5 i p q
      have y := r3 i p (by omega)
      rw [y.1, y.2] at z; exact z
    · have z := a7 l p q
      have y := s4 l p (by omega)
      rw [y.1, y.2.1, y.2.2] at z; exact z
    · have z := a9 l p q
      have y := s5 l p (by omega)
      rw [y.1, y.2.1, y.2.2] at z; exact z
  · rintro ⟨⟨a1, a2, ⟨a3, a4, a5⟩, ⟨a6, a7⟩, ⟨a8, a9⟩, a10⟩, a11, a12⟩
    refine ⟨f1.trans a1, fun i p q => ?_, ⟨f5.trans a3, fun l p q => ?_, fun i p q => ?_⟩, ⟨f2.trans a6, fun l p q => ?_⟩, ⟨f3.trans a8, fun l p q => ?_⟩, f4.trans a10, fun k p q => (r6 k p q).trans (a11 k p q), fun k p q => (r7 k p q).trans (a12 k p q)⟩
    · rw [(r1 i p q).1, (r1 i p q).2.1, (r1 i p q).2.2]; exact a2 i p q
    · have y := r2 l p (by omega)
      rw [y.1, y.2.1, y.2.2.1, y.2.2.2]; exact a4 l p q
    · have y := r3 i p (by omega)
      rw [y.1, y.2]; exact a5 i p q
    · have y := s4 l p (by omega)
      rw [y.1, y.2.1, y.2.2]; exact a7 l p q
    · have y := s5 l p (by omega)
      rw [y.1, y.2.1, y.2.2]; exact a9 l p q
def xI (h : zM) (E : fE) (x : fS) : Prop := fWE E ∧ fWx x.1 ∧ zHr (h.2 35) E x
def xL (h : zM) (z : fZ) : Prop := zY h z.e false z.x ∧ xQ h z.u z.q ∧ h.2 0 59 = z.g ∧ (z.g = 1 → xI h z.f z.y)
theorem xQ_f {h h' : zM} {u : Int} {q : Int → fR} (t : xQ h u q) (e3 : h'.2 0 3 = h.2 0 3) (e : ∀ b, h'.2 2 b = h.2 2 b) : xQ h' u q := ⟨by rw [e3]; exact t.1, fun i k a b c d => (e _).trans (t.2.1 i k a b c d), t.2.2⟩
theorem xQ_0 {h : zM} {q : Int → fR} (e3 : h.2 0 3 = 0) : xQ h 0 q := ⟨⟨e3, by decide, by decide⟩, fun i k a b => absurd b (by omega), fun i a b => absurd b (by omega)⟩
theorem xI_f {h h' : zM} {E : fE} {x : fS} (t : xI h E x) (e : ∀ b, h'.2 35 b = h.2 35 b) : xI h' E x := ⟨t.1, t.2.1, zHr_x t.1 (fun j _ _ => e j) t.2.2⟩
theorem xL_0 {h h' : zM} {z : fZ} {E : fE} {x : fS} (t : xL h z) (y : zY h' E false x) (e3 : h'.2 0 3 = 0) (e59 : h'.2 0 59 = h.2 0 59) (e35 : ∀ b, h'.2 35 b = h.2 35 b) : xL h' (fZ0 z E x) :=
  ⟨y, xQ_0 e3, e59.trans t.2.2.1, fun q => xI_f (t.2.2.2 q) e35⟩
theorem xL_k {h h1 h' : zM} {z : fZ} {x : fS} (t : xL h z) (p : xQ h1 (fKu z.u) (fKq z.u z.q z.x.1)) (y : zY h' z.e false x) (e3 : h'.2 0 3 = h1.2 0 3) (e2 : ∀ b, h'.2 2 b = h1.2 2 b) (e59 : h'.2 0 59 = h.2 0 59) (e35 : ∀ b, h'.2 35 b = h.2 35 b) : xL h' (fZk z x) :=
  ⟨y, xQ_f p e3 e2, e59.trans t.2.2.1, fun q => xI_f (t.2.2.2 q) e35⟩
/-- the image is taken, or brought back -/
def zGm (h h' : zM) (p g : Int) : Prop := ∀ j, 0 ≤ j → j < 1727 → zimx p g (zlv h j) (h.2 35 j) (zlv h' j) (h'.2 35 j)
theorem zloc_0 : ∀ i : Nat, i < 1727 → ¬ ((zloc (i : Int)).1 = 0 ∧ ((zloc (i : Int)).2 = 3 ∨ (zloc (i : Int)).2 = 0 ∨ (zloc (i : Int)).2 = 5 ∨ (zloc (i : Int)).2 = 59)) := by decide +kernel
theorem zloc_n {j : Int} (h : 0 ≤ j ∧ j < 1727) : ¬ ((zloc j).1 = 0 ∧ ((zloc j).2 = 3 ∨ (zloc j).2 = 0 ∨ (zloc j).2 = 5 ∨ (zloc j).2 = 59)) := by
  have z := zloc_0 j.toNat (by omega)
  rw [show ((j.toNat : Nat) : Int) = j by omega] at z; exact z
theorem xL_im {h h' : zM} {z : fZ} {p v : Int} (t : xL h z) (hg : z.g = 0 ∨ z.g = 1) (c : zimc p (h.2 0 59) v (h'.2 0 59)) (m : zGm h h' p (h.2 0 59)) (e5 : h'.2 0 5 = h.2 0 5) (e3 : (p = 0 → ¬ h.2 0 59 = 0 → h'.2 0 3 = 0) ∧ ((¬ p = 0 ∨ h.2 0 59 = 0) → h'.2 0 3 = h.2 0 3)) (e2 : ∀ b, h'.2 2 b = h.2 2 b) : v = (pImg p z).1 ∧ xL h' (pImg p z).2 := by
  obtain ⟨⟨t1, t2, t3, t4, t5, t6⟩, tq, tg, ti⟩ := t
  have live := (zHr_l (h := h) (x := z.x) t1).mpr ⟨t3, t4, t5⟩
  unfold zimc at c
  unfold pImg
  by_cases hp : p = 0
  · rw [if_neg (fun w => w hp)]
    by_cases hz : z.g = 1
    · rw [if_pos hz]
      obtain ⟨i1, i2, i3⟩ := ti hz
      have r : zHr (zlv h') z.f z.y := zHr_x i1 (fun j a b => by have q := m j a b; unfold zimx at q; omega) i3
      have q := (zHr_l (h := h') (x := z.y) i1).mp r
      refine ⟨by show v = 1; omega, ⟨i1, i2, q.1, q.2.1, q.2.2, by rw [e5]; exact t6⟩, xQ_0 (e3.1 hp (by omega)), by show h'.2 0 59 = z.g; omega, fun _ => ⟨i1, i2, zHr_x i1 (fun j a b => by have q := m j a b; unfold zimx at q; omega) i3⟩⟩
    · rw [if_neg hz]
      have r : zHr (zlv h') z.e z.x := zHr_x t1 (fun j a b => by have q := m j a b; unfold zimx at q; omega) live
      have q := (zHr_l (h := h') (x := z.x) t1).mp r
      exact ⟨by show v = 0; omega, ⟨t1, t2, q.1, q.2.1, q.2.2, by rw [e5]; exact t6⟩, xQ_f tq (e3.2 (by omega)) e2, by show h'.2 0 59 = z.g; omega, fun w => absurd w hz⟩
  · rw [if_pos hp]
    have r : zHr (zlv h') z.e z.x := zHr_x t1 (fun j a b => by have q := m j a b; unfold zimx at q; omega) live
    have q := (zHr_l (h := h') (x := z.x) t1).mp r
    exact ⟨by show v = 1; omega, ⟨t1, t2, q.1, q.2.1, q.2.2, by rw [e5]; exact t6⟩, xQ_f tq (e3.2 (by omega)) e2, by show h'.2 0 59 = 1; omega, fun _ => ⟨t1, t2, zHr_x t1 (fun j a b => by have q := m j a b; unfold zimx at q; omega) live⟩⟩
theorem xL_g {h : zM} {z : fZ} (t : xL h z) : h.2 0 6 = z.e.n ∧ (0 ≤ z.e.n ∧ z.e.n ≤ 18) ∧ h.2 0 3 = z.u ∧ (0 ≤ z.u ∧ z.u ≤ 6) ∧ h.2 9 0 = z.e.lm ∧ h.2 0 33 = z.e.bm ∧ h.2 0 35 = z.e.dm ∧ h.2 0 37 = z.e.km := ⟨t.1.2.2.1.1, t.1.1.1, t.2.1.1.1, t.2.1.1.2, t.1.2.2.1.2.2.1.1, t.1.2.2.1.2.2.2.1.1, t.1.2.2.1.2.2.2.2.1.1, t.1.2.2.1.2.2.2.2.2⟩
theorem xL_r {h : zM} {z : fZ} (t : xL h z) {k : Int} (a : 0 ≤ k) (b : k < 63) : h.2 1 k = z.x.1 k := t.1.2.2.2.1 k a b
theorem xL_i {h : zM} {z : fZ} (t : xL h z) {i : Int} (a : 0 ≤ i) (b : i < 18) : h.2 4 i = z.e.wt i ∧ h.2 5 i = z.e.lg i ∧ h.2 19 i = z.e.kn i := t.1.2.2.1.2.1 i a b
theorem xL_b {h : zM} {z : fZ} (t : xL h z) {k : Int} (a : 0 ≤ k) (b : k < 600) : h.2 6 k = z.x.2 k := t.1.2.2.2.2.1 k a b
/-- a call that leaves all that as it is -/
theorem xL_f {h h' : zM} {z : fZ} (t : xL h z) (y : ∀ a b, zDm a b → h'.2 a b = h.2 a b) (e3 : h'.2 0 3 = h.2 0 3) (e59 : h'.2 0 59 = h.2 0 59) (e2 : ∀ b, h'.2 2 b = h.2 2 b) (e35 : ∀ b, h'.2 35 b = h.2 35 b) : xL h' z :=
  ⟨zY_f t.1 y, xQ_f t.2.1 e3 e2, e59.trans t.2.2.1, fun q => xI_f (t.2.2.2 q) e35⟩
/-- one more -/
theorem zY_is {h m1 m2 m3 m4 m5 m6 : zM} {p1 p2 : Int} {E : fE} {th : Bool} {x : fS} (t : zY h E th x) (n18 : E.n < 18) (hw : 1 ≤ p1 ∧ p1 ≤ 200) (hl : 0 ≤ p2 ∧ p2 ≤ 9) (e1 : m1 = zwr h 4 E.n p1) (e2 : m2 = zwr m1 5 E.n p2) (e3 : m3 = zwr m2 1 (9 + E.n) 0) (e4 : m4 = zwr m3 1 (27 + E.n) 0) (e5 : m5 = zwr m4 1 (45 + E.n) 0) (e6 : m6 = zwr m5 0 6 (E.n + 1)) : zY m6 (fEi E p1 p2) th (fRi x.1 E.n, x.2) := by
  obtain ⟨t1, t2, ⟨a1, a2, a3, a4, a5, a6⟩, t4, t5, t6⟩ := t
  have n0 := t1.1
  have o : ∀ a b, ¬ a = 1 → ¬ a = 4 → ¬ a = 5 → ¬ (a = 0 ∧ b = 6) → m6.2 a b = h.2 a b := fun a b z1 z2 z3 z4 => (zwr_r e6 z4).trans ((zwr_r e5 (by first | decide | exact (absurd ·.1 (by decide)) | exact (absurd ·.2 (by decide)) | omega)).trans ((zwr_r e4 (by first | decide | exact (absurd ·.1 (by decide)) | exact (absurd ·.2 (by decide)) | omega)).trans ((zwr_r e3 (by first | decide | exact (absurd ·.1 (by decide)) | exact (absurd ·.2 (by decide)) | omega)).trans ((zwr_r e2 (by first | decide | exact (absurd ·.1 (by decide)) | exact (absurd ·.2 (by decide)) | omega)).trans (zwr_r e1 (by first | decide | exact (absurd ·.1 (by decide)) | exact (absurd ·.2 (by decide)) | omega))))))
  have r4 : ∀ i, m6.2 4 i = if i = E.n then p1 else h.2 4 i := fun i => ((zwr_r e6 (by first | decide | exact (absurd ·.1 (by decide)) | exact (absurd ·.2 (by decide)) | omega)).trans ((zwr_r e5 (by first | decide | exact (absurd ·.1 (by decide)) | exact (absurd ·.2 (by decide)) | omega)).trans ((zwr_r e4 (by first | decide | exact (absurd ·.1 (by decide)) | exact (absurd ·.2 (by decide)) | omega)).trans ((zwr_r e3 (by first | decide | exact (absurd ·.1 (by decide)) | exact (absurd ·.2 (by decide)) | omega)).trans (zwr_r e2 (by first | decide | exact (absurd ·.1 (by decide)) | exact (absurd ·.2 (by decide)) | omega)))))).trans (zwr_if e1 i)
  have r5 : ∀ i, m6.2 5 i = if i = E.n then p2 else h.2 5 i := fun i => by
    rw [zwr_r (a := 5) (b := i) e6 (by omega), zwr_r (a := 5) (b := i) e5 (by omega), zwr_r (a := 5) (b := i) e4 (by omega), zwr_r (a := 5) (b := i) e3 (by omega), zwr_if e2 i, zwr_r (a := 5) (b := i) e1 (by omega)]
  have r1 : ∀ i, 0 ≤ i → i < 63 → m6.2 1 i = fRi x.1 E.n i := fun i a b => by
    rw [zwr_r (a := 1) (b := i) e6 (by omega), zwr_if e5 i, zwr_if e4 i, zwr_if e3 i, zwr_r (a := 1) (b := i) e2 (by omega), zwr_r (a := 1) (b := i) e1 (by omega), t4 i a b]
    rfl
  refine ⟨fWE_i t1 n18 hw hl, fWx_i t2 (by omega), ⟨zwr_v e6, fun i a b => ?_, ⟨?_, fun l a b => ?_, fun i a b => ?_⟩, ⟨?_, fun l a b => ?_⟩, ⟨?_, fun l a b => ?_⟩, ?_⟩, r1, fun k a b => ?_, ?_⟩
  · obtain ⟨s1, s2, s3⟩ := a2 i a b
    show m6.2 4 i = fup E.wt E.n p1 i ∧ m6.2 5 i = fup E.lg E.n p2 i ∧ m6.2 19 i = E.kn i
    rw [r4, r5, o 19 i (by decide) (by decide) (by decide) (by omega), s1, s2]
    exact ⟨rfl, rfl, s3⟩
  · rw [o 9 0 (by decide) (by decide) (by decide) (by omega)]; exact a3.1
  · rw [o 10 l (by decide) (by decide) (by decide) (by omega), o 11 l (by decide) (by decide) (by decide) (by omega), o 12 l (by decide) (by decide) (by decide) (by omega), o 13 l (by decide) (by decide) (by decide) (by omega)]; exact a3.2.1 l a b
  · rw [o 14 i (by decide) (by decide) (by decide) (by omega), o 15 i (by decide) (by decide) (by decide) (by omega)]; exact a3.2.2 i a b
  · rw [o 0 33 (by decide) (by decide) (by decide) (by omega)]; exact a4.1
  · rw [o 17 _ (by decide) (by decide) (by decide) (by omega), o 17 _ (by decide) (by decide) (by decide) (by omega), o 17 _ (by decide) (by decide) (by decide) (by omega)]; exact a4.2 l a b
  · rw [o 0 35 (by decide) (by decide) (by decide) (by omega)]; exact a5.1
  · rw [o 18 _ (by decide) (by decide) (by decide) (by omega), o 18 _ (by decide) (by decide) (by decide) (by omega), o 18 _ (by decide) (by decide) (by decide) (by omega)]; exact a5.2 l a b
  · rw [o 0 37 (by decide) (by decide) (by decide) (by omega)]; exact a6
  · rw [o 6 k (by decide) (by decide) (by decide) (by omega)]; exact t5 k a b
  · rw [o 0 5 (by decide) (by decide) (by decide) (by omega)]; exact t6
theorem zY_wt {h h' : zM} {o v : Int} {E : fE} {th : Bool} {x : fS} (t : zY h E th x) (e : h' = zwr h 4 o v) (hv : 1 ≤ v ∧ v ≤ 200) : zY h' (fEs E 1 (fup E.wt o v)) th x := by
  obtain ⟨t1, t2, ⟨a1, a2, a3, a4, a5, a6⟩, t4, t5, t6⟩ := t
  have f : ∀ a b, ¬ a = 4 → h'.2 a b = h.2 a b := fun a b z => zwr_r e (fun q => z q.1)
  refine ⟨fWE_w t1 hv, t2, ⟨?_, fun i a b => ?_, ⟨?_, fun l a b => ?_, fun i a b => ?_⟩, ⟨?_, fun l a b => ?_⟩, ⟨?_, fun l a b => ?_⟩, ?_⟩, fun k a b => ?_, fun k a b => ?_, ?_⟩
  · rw [f 0 6 (by decide)]; exact a1
  · obtain ⟨s1, s2, s3⟩ := a2 i a b
    show h'.2 4 i = fup E.wt o v i ∧ h'.2 5 i = E.lg i ∧ h'.2 19 i = E.kn i
    rw [zwr_if e i, f 5 i (by decide), f 19 i (by decide), s1]; exact ⟨rfl, s2, s3⟩
  · rw [f 9 0 (by decide)]; exact a3.1
  · rw [f 10 l (by decide), f 11 l (by decide), f 12 l (by decide), f 13 l (by decide)]; exact a3.2.1 l a b
  · rw [f 14 i (by decide), f 15 i (by decide)]; exact a3.2.2 i a b
  · rw [f 0 33 (by decide)]; exact a4.1
  · rw [f 17 _ (by decide), f 17 _ (by decide), f 17 _ (by decide)]; exact a4.2 l a b
  · rw [f 0 35 (by decide)]; exact a5.1
  · rw [f 18 _ (by decide), f 18 _ (by decide), f 18 _ (by decide)]; exact a5.2 l a b
  · rw [f 0 37 (by decide)]; exact a6
  · rw [f 1 k (by decide)]; exact t4 k a b
  · rw [f 6 k (by decide)]; exact t5 k a b
  · rw [f 0 5 (by decide)]; exact t6
theorem zY_lg {h h' : zM} {o v : Int} {E : fE} {th : Bool} {x : fS} (t : zY h E th x) (e : h' = zwr h 5 o v) (hv : 0 ≤ v ∧ v ≤ 9) : zY h' (fEs E 2 (fup E.lg o v)) th x := by
  obtain ⟨t1, t2, ⟨a1, a2, a3, a4, a5, a6⟩, t4, t5, t6⟩ := t
  have f : ∀ a b, ¬ a = 5 → h'.2 a b = h.2 a b := fun a b z => zwr_r e (fun q => z q.1)
  refine ⟨fWE_l t1 hv, t2, ⟨?_, fun i a b => ?_, ⟨?_, fun l a b => ?_, fun i a b => ?_⟩, ⟨?_, fun l a b => ?_⟩, ⟨?_, fun l a b => ?_⟩, ?_⟩, fun k a b => ?_, fun k a b => ?_, ?_⟩
  · rw [f 0 6 (by decide)]; exact a1
  · obtain ⟨s1, s2, s3⟩ := a2 i a b
    show h'.2 4 i = E.wt i ∧ h'.2 5 i = fup E.lg o v i ∧ h'.2 19 i = E.kn i
    rw [zwr_if e i, f 4 i (by decide), f 19 i (by decide), s2]; exact ⟨s1, rfl, s3⟩
  · rw [f 9 0 (by decide)]; exact a3.1
  · rw [f 10 l (by decide), f 11 l (by decide), f 12 l (by decide), f 13 l (by decide)]; exact a3.2.1 l a b
  · rw [f 14 i (by decide), f 15 i (by decide)]; exact a3.2.2 i a b
  · rw [f 0 33 (by decide)]; exact a4.1
  · rw [f 17 _ (by decide), f 17 _ (by decide), f 17 _ (by decide)]; exact a4.2 l a b
  · rw [f 0 35 (by decide)]; exact a5.1
  · rw [f 18 _ (by decide), f 18 _ (by decide), f 18 _ (by decide)]; exact a5.2 l a b
  · rw [f 0 37 (by decide)]; exact a6
  · rw [f 1 k (by decide)]; exact t4 k a b
  · rw [f 6 k (by decide)]; exact t5 k a b
  · rw [f 0 5 (by decide)]; exact t6
/-! ===== many days ===== -/
theorem fDs_4 {B : Int} : ∀ (k : Nat) (z : fZ), fWE z.e → -B ≤ z.x.1 4 → z.x.1 4 ≤ B → B + 287712 * k ≤ 2147000000 → -(B + 287712 * k) ≤ (fDs k z).x.1 4 ∧ (fDs k z).x.1 4 ≤ B + 287712 * k
  | 0, z, w, a, b, c => by show -(B + 287712 * ((0 : Nat) : Int)) ≤ z.x.1 4 ∧ z.x.1 4 ≤ B + 287712 * ((0 : Nat) : Int); omega
  | k + 1, z, w, a, b, c => by
    rw [fDs_s]
    have ih := fDs_4 k z w a b (by omega)
    have d := fDy_4 (th := false) (x := (fDs k z).x) (B := B + 287712 * k) (E := (fDs k z).e) (by rw [fDs_e]; exact w) ih (by omega)
    have i : (0 : Int) ≤ (if (fDs k z).x.1 0 ≤ 999 then 287712 else 0) ∧ (if (fDs k z).x.1 0 ≤ 999 then 287712 else 0) ≤ (287712 : Int) := by split <;> omega
    show -(B + 287712 * ((k + 1 : Nat) : Int)) ≤ (fDy (fDs k z).e false (fDs k z).x).1 4 ∧ (fDy (fDs k z).e false (fDs k z).x).1 4 ≤ B + 287712 * ((k + 1 : Nat) : Int)
    omega
theorem fTd_4 {E : fE} {B : Int} : ∀ (k : Nat) (x : fS), fWE E → -B ≤ x.1 4 → x.1 4 ≤ B → B + 287712 * k ≤ 2147000000 → -(B + 287712 * k) ≤ (fTd k E x).1 4 ∧ (fTd k E x).1 4 ≤ B + 287712 * k
  | 0, x, w, a, b, c => by show -(B + 287712 * ((0 : Nat) : Int)) ≤ x.1 4 ∧ x.1 4 ≤ B + 287712 * ((0 : Nat) : Int); omega
  | k + 1, x, w, a, b, c => by
    rw [fTd_s]
    have ih := fTd_4 k x w a b (by omega)
    have d := fDy_4 (th := true) (x := fTd k E x) (B := B + 287712 * k) w ih (by omega)
    have i : (0 : Int) ≤ (if (fTd k E x).1 0 ≤ 999 then 287712 else 0) ∧ (if (fTd k E x).1 0 ≤ 999 then 287712 else 0) ≤ (287712 : Int) := by split <;> omega
    omega
/-- in thought the book is left alone -/
theorem fNt_2 (x : fS) (a b c : Int) : fNt true x a b c = x := if_pos (Or.inl rfl)
theorem fO2_b {E : fE} {i : Int} : ∀ (k : Nat) (o s : Int) (x : fS), (fO2 E true i k o s x).2.2 = x.2
  | 0, o, s, x => rfl
  | k + 1, o, s, x => by
    show (if 0 < s then (if fgb (E.kn i) o.toNat = true ∧ x.1 (9 + o) = 0 then fO2 E true i k (o + 1) (s - 1) (fGo E true o x) else fO2 E true i k (o + 1) s x) else (s, x)).2.2 = x.2
    split
    · split
      · rw [fO2_b k]; unfold fGo; rw [fNt_2]
      · exact fO2_b k _ _ _
    · rfl
theorem fHx_b (o : Int) (x : fS) : (fHx true o x).2 = x.2 := by unfold fHx; rw [if_pos (Or.inl rfl)]
theorem fOu_b {E : fE} : ∀ (k : Nat) (i s : Int) (x : fS), (fOu E true k i s x).2 = x.2
  | 0, i, s, x => rfl
  | k + 1, i, s, x => by
    show (if 0 < s then fOu E true k (i + 1) (fOb E true i s x).1 (fOb E true i s x).2 else x).2 = x.2
    split
    · rw [fOu_b k]
      unfold fOb
      split
      · split
        · rw [fO2_b]; unfold fGo; rw [fNt_2]; (first | (rw [fHx_b]; done) | (rw [fHx_b]; rfl) | (simp only [fHx_b]))
        · (first | (rw [fHx_b]; done) | (rw [fHx_b]; rfl) | (simp only [fHx_b]) | (unfold fHx; rw [if_pos (Or.inl rfl)]))
      · rfl
    · rfl
theorem fBa_b {E : fE} : ∀ (k : Nat) (i s : Int) (x : fS), (fBa E true k i s x).2 = x.2
  | 0, i, s, x => rfl
  | k + 1, i, s, x => by
    show (if 0 < s then fBa E true k (i + 1) (fBb E true i s x).1 (fBb E true i s x).2 else x).2 = x.2
    split
    · rw [fBa_b k]
      unfold fBb
      split
      · rfl
      · split
        · unfold fBk; rw [fNt_2]; (first | (rw [fHx_b]; done) | (rw [fHx_b]; rfl) | (simp only [fHx_b]))
        · (first | (rw [fHx_b]; done) | (rw [fHx_b]; rfl) | (simp only [fHx_b]) | (unfold fHx; rw [if_pos (Or.inl rfl)]))
    · rfl
theorem fBs_b {E : fE} : ∀ (k : Nat) (l : Int) (x : fS), (fBs E true k l x).2 = x.2
  | 0, l, x => rfl
  | k + 1, l, x => by
    show (fBs E true k (l + 1) (if E.bd l = x.1 0 then fSa E true l x else x)).2 = x.2
    rw [fBs_b k]
    split
    · unfold fSa
      split
      · exact fOu_b _ _ _ _
      · exact fBa_b _ _ _ _
    · rfl
theorem fCl_b (x : fS) : (fCl true x).2 = x.2 := by
  rw [fCl_e rfl rfl]
  simp only [fNt_2, ite_self]
theorem fDy_b (E : fE) (x : fS) : (fDy E true x).2 = x.2 := by
  show (fCl true (fBs E true E.bm.toNat 0 (fTw E E.dm.toNat 0 x.1, x.2))).2 = x.2
  rw [fCl_b, fBs_b]
theorem fTd_b (E : fE) : ∀ (k : Nat) (x : fS), (fTd k E x).2 = x.2
  | 0, x => rfl
  | k + 1, x => by rw [fTd_s, fDy_b, fTd_b E k x]
theorem xQ_kp {h H h' : zM} {u : Int} {q : Int → fR} {r : fR} (t : xQ h u q) (w9 : fWx r) (r9 : ∀ k, 0 ≤ k → k < 63 → h.2 1 k = r k) (c : H.2 0 3 = if h.2 0 3 = 6 then 5 else h.2 0 3) (A : ∀ k, 0 ≤ k → k < 63 → H.2 2 (63 * H.2 0 3 + k) = h.2 1 k) (B : ∀ b, 0 ≤ b → b < 63 * H.2 0 3 → H.2 2 b = if h.2 0 3 = 6 then h.2 2 (b + 63) else h.2 2 b) (e : h' = zwr H 0 3 (H.2 0 3 + 1)) : xQ h' (fKu u) (fKq u q r) := by
  obtain ⟨⟨u0, u1, u2⟩, t1, t9⟩ := t
  have e2 : ∀ b, h'.2 2 b = H.2 2 b := fun b => zwr_r e (by first | decide | exact (absurd ·.1 (by decide)) | exact (absurd ·.2 (by decide)) | omega)
  by_cases s : u = 6
  · subst s
    rw [if_pos u0] at c
    rw [fKq_6]
    refine ⟨⟨by rw [zwr_v e, c]; rfl, by decide, by decide⟩, fun i k a b p q0 => ?_, fun i a b => ?_⟩
    · have b6 : i < 6 := b
      rw [e2]
      show _ = (if i = 5 then r else q (i + 1)) k
      by_cases y : i = 5
      · rw [if_pos y, y, ← r9 k p q0, ← A k p q0, c]
      · rw [if_neg y, B _ (by omega) (by omega), if_pos u0, show 63 * i + k + 63 = 63 * (i + 1) + k by omega]
        exact t1 (i + 1) k (by omega) (by omega) p q0
    · have b6 : i < 6 := b
      show fWx (if i = 5 then r else q (i + 1))
      split
      · exact w9
      · exact t9 (i + 1) (by omega) (by omega)
  · rw [if_neg (by omega)] at c
    rw [fKq_n s, fKu_n s]
    refine ⟨⟨by rw [zwr_v e, c, u0], by omega, by omega⟩, fun i k a b p q0 => ?_, fun i a b => ?_⟩
    · rw [e2]
      show _ = (if i = u then r else q i) k
      by_cases y : i = u
      · rw [if_pos y, y, ← r9 k p q0, ← A k p q0, c, u0]
      · rw [if_neg y, B _ (by omega) (by omega), if_neg (by omega)]
        exact t1 i k a (by omega) p q0
    · show fWx (if i = u then r else q i)
      split
      · exact w9
      · exact t9 i a (by omega)
def zokE (fs cs : List Int) : Bool := !cs.contains 0 && [6, 33, 35, 37].all (fun b => !fs.contains b) && [4, 5, 9, 10, 11, 12, 13, 14, 15, 17, 18, 19].all (fun a => !cs.contains a)
theorem zDe_o {fs cs : List Int} {h h' : zM} (q : zfr fs cs h h') (k : zokE fs cs = true) : ∀ a b, zDe a b → h'.2 a b = h.2 a b := by
  unfold zokE at k
  simp only [Bool.and_eq_true, Bool.not_eq_true', List.all_cons, List.all_nil, Bool.and_true] at k
  obtain ⟨⟨k0, f6, f33, f35, f37⟩, c4, c5, c9, c10, c11, c12, c13, c14, c15, c17, c18, c19⟩ := k
  intro a b z
  unfold zDe at z
  have hh : (a = 0 ∧ (b = 6 ∨ b = 33 ∨ b = 35 ∨ b = 37)) ∨ a = 4 ∨ a = 5 ∨ a = 9 ∨ a = 10 ∨ a = 11 ∨ a = 12 ∨ a = 13 ∨ a = 14 ∨ a = 15 ∨ a = 17 ∨ a = 18 ∨ a = 19 := by omega
  rcases hh with ⟨rfl, rfl | rfl | rfl | rfl⟩ | rfl | rfl | rfl | rfl | rfl | rfl | rfl | rfl | rfl | rfl | rfl | rfl
  · exact zfr_f q k0 f6
  · exact zfr_f q k0 f33
  · exact zfr_f q k0 f35
  · exact zfr_f q k0 f37
  · exact zfr_a q c4 (by decide)
  · exact zfr_a q c5 (by decide)
  · exact zfr_a q c9 (by decide)
  · exact zfr_a q c10 (by decide)
  · exact zfr_a q c11 (by decide)
  · exact zfr_a q c12 (by decide)
  · exact zfr_a q c13 (by decide)
  · exact zfr_a q c14 (by decide)
  · exact zfr_a q c15 (by decide)
  · exact zfr_a q c17 (by decide)
  · exact zfr_a q c18 (by decide)
  · exact zfr_a q c19 (by decide)
/-- told things as they were; the row, the book, the flag as said -/
theorem zY_e {fs cs : List Int} {h h' : zM} {E : fE} {th th' : Bool} {x y : fS} (t : zY h E th x) (q : zfr fs cs h h') (k : zokE fs cs = true) (w : fWx y.1) (r : ∀ k, 0 ≤ k → k < 63 → h'.2 1 k = y.1 k) (b : ∀ k, 0 ≤ k → k < 600 → h'.2 6 k = y.2 k) (f : th' = true ↔ h'.2 0 5 = 1) : zY h' E th' y := ⟨t.1, w, zHE_f (zDe_o q k) t.2.2.1, r, b, f⟩
theorem zHs_0z {v n : Int} {r : fR} (t : zHs v n r) (hn : 0 ≤ n ∧ n ≤ 18) (b : 0 ≤ v ∧ v ≤ 262143) : v = 0 ↔ fct (fHr r) n.toNat = 0 := by
  constructor
  · intro e
    rw [e] at t
    rw [← fct_x (p := fgb 0) n.toNat (fun i a => by rw [t i (by omega), decide_eq_true (show (i : Int) < n by omega), Bool.true_and]; rfl)]
    have : ∀ n : Nat, fct (fgb 0) n = 0 := fun n => by
      induction n with
      | zero => rfl
      | succ n ih => show fct (fgb 0) n + (if fgb 0 n then 1 else 0) = 0; rw [ih, fgb_0]; simp
    exact this _
  · intro e
    refine fgb_x (by omega) (by decide) (fun i q => ?_)
    rw [t i q, fgb_0]
    by_cases y : (i : Int) < n
    · rw [decide_eq_true y, Bool.true_and]
      exact fct_all e i (by omega)
    · rw [decide_eq_false y]; rfl

