def tPo (T P : Int → Int) (j : Int) (h : zM) : Prop := (∀ i, 0 ≤ i → i < h.2 103 4 → h.2 105 i = T i) ∧ h.2 106 = P ∧ (h.2 103 5 = j ∧ h.2 103 6 = T j) ∧ (0 ≤ j ∧ j < h.2 103 4 ∧ h.2 103 4 ≤ 401) ∧ (∀ i, 0 ≤ i → i + 1 < h.2 103 4 → ¬ T i = 0) ∧ T (h.2 103 4 - 1) = 0 ∧ (h.2 103 7 = 0 ∧ h.2 103 8 = -1)
theorem tPo_f {T P : Int → Int} {j : Int} {h h' : zM} (t : tPo T P j h) (a : ∀ i, h'.2 105 i = h.2 105 i) (b : ∀ i, h'.2 106 i = h.2 106 i) (c : h'.2 103 4 = h.2 103 4) (d : h'.2 103 5 = h.2 103 5) (e : h'.2 103 6 = h.2 103 6) (f : h'.2 103 7 = h.2 103 7) (g : h'.2 103 8 = h.2 103 8) : tPo T P j h' := by
  obtain ⟨t1, t2, t3, t4, t5, t6, t7⟩ := t
  refine ⟨fun i p q => (a i).trans (t1 i p (by omega)), (funext b).trans t2, ⟨d.trans t3.1, e.trans t3.2⟩, by rw [c]; exact t4, by rw [c]; exact t5, by rw [c]; exact t6, f.trans t7.1, g.trans t7.2⟩
theorem tPo_p {T P : Int → Int} {j : Int} {h m1 m2 : zM} (t : tPo T P j h) (n : ¬ T j = 0) (e1 : m1 = zwr h 103 5 (h.2 103 5 + 1)) (e2 : m2 = zwr m1 103 6 (h.2 105 (h.2 103 5 + 1))) : tPo T P (j + 1) m2 := by
  obtain ⟨t1, t2, ⟨t3, t3'⟩, t4, t5, t6, t7⟩ := t
  have o : ∀ a b, ¬ (a = 103 ∧ (b = 5 ∨ b = 6)) → m2.2 a b = h.2 a b := fun a b z => (zwr_r e2 (by first | decide | exact (absurd ·.1 (by decide)) | exact (absurd ·.2 (by decide)) | omega)).trans (zwr_r e1 (by first | decide | exact (absurd ·.1 (by decide)) | exact (absurd ·.2 (by decide)) | omega))
  have c4 : m2.2 103 4 = h.2 103 4 := o 103 4 (by omega)
  have l : j + 1 < h.2 103 4 := by
    by_cases z : j + 1 < h.2 103 4
    · exact z
    · have : h.2 103 4 - 1 = j := by omega
      rw [this] at t6
      exact absurd t6 n
  refine ⟨fun i p q => (o 105 i (by omega)).trans (t1 i p (by omega)), (funext fun i => o 106 i (by omega)).trans t2, ⟨?_, ?_⟩, by rw [c4]; omega, by rw [c4]; exact t5, by rw [c4]; exact t6, (o 103 7 (by omega)).trans t7.1, (o 103 8 (by omega)).trans t7.2⟩
  · rw [zwr_r e2 (by first | decide | exact (absurd ·.1 (by decide)) | exact (absurd ·.2 (by decide)) | omega), zwr_v e1, t3]
  · rw [zwr_v e2, t3]; exact t1 (j + 1) (by omega) l
theorem tPo_e {T P : Int → Int} {j : Int} {h : zM} (t : tPo T P j h) (n : ¬ h.2 103 5 + 1 < h.2 103 4) : T j = 0 := by
  obtain ⟨t1, t2, ⟨t3, t3'⟩, t4, t5, t6, t7⟩ := t
  rw [show h.2 103 4 - 1 = j by omega] at t6
  exact t6
/-! ===== texts: where the class's reader stands ===== -/
/-- what cut leaves -/
def tCk (i : Nat) (B : Int → Int) (n : Int) (T P : Int → Int) (cnt : Int) : Prop := (1 ≤ cnt ∧ cnt ≤ 401) ∧ (∀ j : Nat, (j : Int) < cnt → ∃ q, tQ B n j q ∧ P j = q ∧ tC i B n q (T j) ∧ ((j : Int) + 1 < cnt → q < n) ∧ ((j : Int) + 1 = cnt → q = n))
/-- while it cuts -/
def tCi (i : Nat) (B : Int → Int) (n : Int) (T P : Int → Int) (cnt x : Int) : Prop := (0 ≤ cnt ∧ cnt ≤ x) ∧ (∀ j : Nat, (j : Int) < cnt → ∃ q, tQ B n j q ∧ P j = q ∧ tC i B n q (T j) ∧ q < n) ∧ ∀ q, tRun tBl B n x q → tQ B n cnt.toNat q
theorem tCi_0 {i : Nat} {B : Int → Int} {n : Int} {T P : Int → Int} : tCi i B n T P 0 0 := ⟨by decide, fun j hj => absurd hj (by omega), fun q r => r⟩
theorem tCi_b {i : Nat} {B : Int → Int} {n : Int} {T P : Int → Int} {cnt x : Int} (h : tCi i B n T P cnt x) (hb : tBl (B x)) : tCi i B n T P cnt (x + 1) := ⟨by have := h.1; omega, h.2.1, fun q r => h.2.2 q (tRun_s hb r)⟩
theorem tCi_t {i : Nat} {B : Int → Int} {n : Int} {T P T' P' : Int → Int} {cnt x e c : Int} (h : tCi i B n T P cnt x) (hx : 0 ≤ x ∧ x < n) (nb : ¬ tBl (B x)) (he : tEnd B n x e) (hc : tC i B n x c) (t : ∀ j, T' j = if j = cnt then c else T j) (p : ∀ j, P' j = if j = cnt then x else P j) : tCi i B n T' P' (cnt + 1) e := by
  obtain ⟨h1, h2, h3⟩ := h
  have eb := tEnd_b hx.2 he
  have q0 : tQ B n cnt.toNat x := h3 x (tRun_0 (by omega) (fun _ => nb))
  refine ⟨by omega, fun j hj => ?_, fun q r => ?_⟩
  · by_cases z : (j : Int) = cnt
    · have zj : j = cnt.toNat := by omega
      refine ⟨x, by rw [zj]; exact q0, by rw [p, if_pos z], by rw [t, if_pos z]; exact hc, hx.2⟩
    · obtain ⟨q, q1, q2, q3, q4⟩ := h2 j (by omega)
      exact ⟨q, q1, by rw [p, if_neg z]; exact q2, by rw [t, if_neg z]; exact q3, q4⟩
  · rw [show (cnt + 1).toNat = cnt.toNat + 1 by omega]
    exact ⟨x, e, q0, hx.2, he, r⟩
theorem tCi_e {i : Nat} {B : Int → Int} {n : Int} {T P T' P' : Int → Int} {cnt x : Int} (h : tCi i B n T P cnt x) (hx : x = n) (hn : n ≤ 400) (n0 : 0 ≤ n) (t : ∀ j, T' j = if j = cnt then 0 else T j) (p : ∀ j, P' j = if j = cnt then n else P j) : tCk i B n T' P' (cnt + 1) := by
  subst hx
  obtain ⟨h1, h2, h3⟩ := h
  have q0 : tQ B x cnt.toNat x := h3 x (tRun_0 (Int.le_refl x) (fun z => absurd z (by omega)))
  refine ⟨by omega, fun j hj => ?_⟩
  by_cases z : (j : Int) = cnt
  · have zj : j = cnt.toNat := by omega
    refine ⟨x, by rw [zj]; exact q0, by rw [p, if_pos z], by rw [t, if_pos z]; exact Or.inl ⟨rfl, rfl⟩, fun w => absurd w (by omega), fun _ => rfl⟩
  · obtain ⟨q, q1, q2, q3, q4⟩ := h2 j (by omega)
    exact ⟨q, q1, by rw [p, if_neg z]; exact q2, by rw [t, if_neg z]; exact q3, fun _ => q4, fun w => absurd w (by omega)⟩
theorem tC_z {i : Nat} {B : Int → Int} {n q c : Int} (h : tC i B n q c) : (c = 0 ↔ q = n) := by
  rcases h with ⟨a, b⟩ | ⟨a, e, he, b⟩
  · exact ⟨fun _ => a, fun _ => b⟩
  · refine ⟨fun z => ?_, fun z => absurd z (by omega)⟩
    exfalso
    rcases b with ⟨_, b⟩ | ⟨b0, b1, b2⟩ | ⟨_, _, b⟩ | ⟨_, _, b1, b2⟩ | ⟨_, _, _, b⟩
    · rcases b with ⟨k, k0, k1, _⟩ | ⟨b, _⟩ <;> omega
    · have tb := tvl_b (B := B) (q := q) (e - q).toNat (fun j h1 h2 => by
        rcases he with ⟨h, _⟩ | ⟨_, h⟩ | ⟨_, h, _⟩
        · exact absurd b0 (by omega)
        · by_cases z : j = q
          · rw [z]; exact b0
          · exact h.2.2.1 j (by omega) (by omega)
        · exact absurd b0 h)
      omega
    · omega
    · omega
    · omega
/-- every place that is one of the text's is one of the row's -/
theorem tCk_q {i : Nat} {B : Int → Int} {n : Int} {T P : Int → Int} {cnt : Int} (k : tCk i B n T P cnt) : ∀ (j : Nat) (q : Int), tQ B n j q → (j : Int) < cnt ∧ P j = q ∧ tC i B n q (T j)
  | 0, q, a => by
    obtain ⟨r, r1, r2, r3, _⟩ := k.2 0 (by have := k.1; omega)
    have e := tQ_u 0 q r a r1
    subst e
    exact ⟨by have := k.1; omega, r2, r3⟩
  | j + 1, q, a => by
    have a' := a
    obtain ⟨q', e, a1, a2, _, _⟩ := a'
    have h := tCk_q k j q' a1
    have l : ((j + 1 : Nat) : Int) < cnt := by
      by_cases z : (j : Int) + 1 = cnt
      · obtain ⟨r, r1, _, _, _, r5⟩ := k.2 j h.1
        have e := tQ_u j q' r a1 r1
        have := r5 z
        omega
      · omega
    obtain ⟨r, r1, r2, r3, _⟩ := k.2 (j + 1) l
    have e := tQ_u (j + 1) q r a r1
    subst e
    exact ⟨l, r2, r3⟩
/-- a row with one more -/
theorem tRow {h h1 : zM} {c k v : Int} {r : Int} (e : h1 = zwr h c k v) (hr : r = c) : ∀ j, h1.2 r j = if j = k then v else h.2 r j := fun j => by
  subst hr
  by_cases z : j = k
  · rw [if_pos z, z]; exact zwr_v e
  · rw [if_neg z]; exact zwr_r e (by first | decide | exact (absurd ·.1 (by decide)) | exact (absurd ·.2 (by decide)) | omega)
/-- words: how far the search is -/
def tWi (i : Nat) (B : Int → Int) (q e st k x : Int) : Prop := (0 ≤ k ∧ k ≤ tNw i) ∧ st = tSa i k ∧ st ≤ x ∧ (k < tNw i → x ≤ tSb i k) ∧ (k = tNw i → x ≤ zln i) ∧ ∀ a, 0 ≤ a → a < k → ¬ tSm i B q e a
theorem tWi_0 {i : Nat} (hi : i < 5) {B : Int → Int} {q e : Int} : tWi i B q e 0 0 0 := by
  have h := tS_e i hi
  refine ⟨by omega, h.1.symm, Int.le_refl 0, fun z => ?_, fun _ => by omega, fun a a0 a1 => absurd a1 (by omega)⟩
  have := tS_n i hi 0 (by omega)
  have e0 : ((0 : Nat) : Int) = 0 := rfl
  rw [e0] at this
  omega
theorem tWi_c {i : Nat} (hi : i < 5) {B : Int → Int} {q e st k x : Int} (t : tWi i B q e st k x) (hx : 0 ≤ x ∧ x < zln i) (hc : ¬ zbv i x.toNat = 32) : tWi i B q e st k (x + 1) := by
  obtain ⟨t1, t2, t3, t4, t5, t6⟩ := t
  refine ⟨t1, t2, by omega, fun z => ?_, fun z => by omega, t6⟩
  have s := tS_n i hi k.toNat (by omega)
  rw [Int.toNat_of_nonneg t1.1] at s
  have := t4 z
  by_cases w : x = tSb i k
  · rw [← w] at s; exact absurd s.2.2.2 hc
  · omega
theorem tWi_w {i : Nat} (hi : i < 5) {B : Int → Int} {q e st k x : Int} (t : tWi i B q e st k x) (hx : 0 ≤ x ∧ x < zln i) (hc : zbv i x.toNat = 32) : k < tNw i ∧ st = tSa i k ∧ x = tSb i k := by
  obtain ⟨t1, t2, t3, t4, t5, t6⟩ := t
  have l : k < tNw i := by
    by_cases z : k < tNw i
    · exact z
    · exfalso
      have h := tS_e i hi
      have zk : k = tNw i := by omega
      by_cases w : i = 1
      · exact h.2.2.1 x.toNat (by omega) w hc
      · have := h.2.1 w
        rw [zk, this] at t2
        omega
  refine ⟨l, t2, ?_⟩
  have m := t4 l
  by_cases z : x = tSb i k
  · exact z
  · have s := tS_m i hi k.toNat (by omega) x.toNat (by omega)
    rw [Int.toNat_of_nonneg t1.1, Int.toNat_of_nonneg hx.1] at s
    exact absurd hc (s (by omega) (by omega))
theorem tWi_n {i : Nat} (hi : i < 5) {B : Int → Int} {q e st k x : Int} (t : tWi i B q e st k x) (hx : 0 ≤ x ∧ x < zln i) (hc : zbv i x.toNat = 32) (n : ¬ tSm i B q e k) : tWi i B q e (x + 1) (k + 1) (x + 1) := by
  have w := tWi_w hi t hx hc
  obtain ⟨t1, t2, t3, t4, t5, t6⟩ := t
  have sb : tSa i (k + 1) = x + 1 := by have := w.2.2; unfold tSb at this; omega
  refine ⟨by omega, sb.symm, Int.le_refl _, fun z => ?_, fun z => by omega, fun a a0 a1 => ?_⟩
  · have s := tS_n i hi (k + 1).toNat (by omega)
    rw [Int.toNat_of_nonneg (by omega)] at s
    omega
  · by_cases y : a = k
    · rw [y]; exact n
    · exact t6 a a0 (by omega)
theorem tWi_e {i : Nat} (hi : i < 5) {B : Int → Int} {q e st k x : Int} (t : tWi i B q e st k x) (hx : zln i ≤ x) : tWp i B q e 1 := by
  obtain ⟨t1, t2, t3, t4, t5, t6⟩ := t
  have l : k = tNw i := by
    by_cases z : k < tNw i
    · have s := tS_n i hi k.toNat (by omega)
      rw [Int.toNat_of_nonneg t1.1] at s
      have := t4 z
      omega
    · omega
  exact Or.inr ⟨rfl, fun a a0 a1 => t6 a a0 (by omega)⟩
/-- isSame's answer -/
def tIs (i : Nat) (B : Int → Int) (st sp q v : Int) : Prop := (v = 1 ∧ ∀ t, st ≤ t → t < sp → zbv i t.toNat = B (q + t - st)) ∨ (v = 0 ∧ ∃ t, st ≤ t ∧ t < sp ∧ ¬ (q + t - st < 400 ∧ zbv i t.toNat = B (q + t - st)))
theorem tIs_m {i : Nat} {B : Int → Int} {q e k x : Int} (l : x = tSb i k) (d : x - tSa i k = e - q) (he : e ≤ 400) : (tIs i B (tSa i k) x q 1 → tSm i B q e k) ∧ (tIs i B (tSa i k) x q 0 → ¬ tSm i B q e k) := by
  subst l
  refine ⟨fun h => ⟨d, fun t t0 t1 => ?_⟩, fun h s => ?_⟩
  · rcases h with ⟨_, h⟩ | ⟨h, _⟩
    · have := h (tSa i k + t) (by omega) (by omega)
      rw [show q + (tSa i k + t) - tSa i k = q + t by omega] at this
      exact this
    · exact absurd h (by decide)
  · rcases h with ⟨h, _⟩ | ⟨_, t, t0, t1, t2⟩
    · exact absurd h (by decide)
    · have := s.2 (t - tSa i k) (by omega) (by omega)
      rw [show tSa i k + (t - tSa i k) = t by omega, show q + (t - tSa i k) = q + t - tSa i k by omega] at this
      exact t2 ⟨by omega, this⟩
/-- signs -/
theorem tSg_n : ∀ c : Nat, c < 256 → ((∃ j, j < 10 ∧ zbv 1 j = (c : Int)) ↔ tSg (c : Int)) := by decide +kernel
theorem tSg_i {c v : Int} (hc : 0 ≤ c ∧ c ≤ 255) (h : (v = -1 ∧ ∀ j : Nat, j < zln 1 → ¬ zbv 1 j = c) ∨ (0 ≤ v ∧ v < zln 1 ∧ zbv 1 v.toNat = c)) : (v < 0 → ¬ tSg c) ∧ (0 ≤ v → tSg c) := by
  have s := tSg_n c.toNat (by omega)
  rw [Int.toNat_of_nonneg hc.1] at s
  have l : zln 1 = 10 := rfl
  refine ⟨fun z w => ?_, fun z => ?_⟩
  · rcases h with ⟨_, h⟩ | ⟨h, _⟩
    · obtain ⟨j, j1, j2⟩ := s.mpr w
      exact h j (by omega) j2
    · omega
  · rcases h with ⟨h, _⟩ | ⟨h0, h1, h2⟩
    · omega
    · exact s.mp ⟨v.toNat, by omega, h2⟩
theorem tOp_dv {a b c : Int} (ha : ¬ a = 0) (hb : ¬ b = 0) : tOp a c = tOp b c := by
  unfold tOp
  by_cases h1 : 1000 ≤ c
  · rw [if_pos h1, if_pos h1]
    by_cases h2 : c = 1000
    · rw [if_pos ⟨ha, h2⟩, if_pos ⟨hb, h2⟩]
    · rw [if_neg (fun z => h2 z.2), if_neg (fun z => h2 z.2)]
  · rw [if_neg h1, if_neg h1, if_neg (fun z => ha z.1), if_neg (fun z => hb z.1)]
/-- what a text comes to -/
def tTi (k : Int) : Nat := if k = 0 then 0 else if k = 1 then 2 else if k = 2 then 3 else 4
def tTm (k : Int) : Int := if k = 0 then 2 else if k = 1 then 20 else if k = 2 then 30 else 40
def tTp (k p : Int) : Int := if k = 2 ∨ k = 3 then p else 0
/-- tokens are below 11000 -/
theorem tC_11 {i : Nat} {B : Int → Int} {n q c : Int} (hi : i < 5) (h : tC i B n q c) : c ≤ 10999 := by
  rcases h with ⟨a, b⟩ | ⟨a, e, he, b⟩
  · omega
  · rcases b with ⟨_, b⟩ | ⟨b0, b1, b2⟩ | ⟨_, _, b⟩ | ⟨_, _, b1, b2⟩ | ⟨_, _, _, b⟩
    · have n17 := (tS_e i hi).2.2.2
      rcases b with ⟨k, k0, k1, _⟩ | ⟨b, _⟩ <;> omega
    · have tb := tvl_b (B := B) (q := q) (e - q).toNat (fun j h1 h2 => by
        rcases he with ⟨h, _⟩ | ⟨_, h⟩ | ⟨_, h, _⟩
        · exact absurd b0 (by omega)
        · by_cases z : j = q
          · rw [z]; exact b0
          · exact h.2.2.1 j (by omega) (by omega)
        · exact absurd b0 h)
      have p4 : (10 : Nat) ^ (e - q).toNat ≤ 10 ^ 4 := Nat.pow_le_pow_right (by decide) (by omega)
      have p5 : (10 : Nat) ^ 4 = 10000 := by decide
      omega
    · omega
    · have b1' : tSg (B q) := b1
      omega
    · omega
/-- the tokens, and none beyond -/
def tZt (h : zM) : Int → Int := fun j => if 0 ≤ j ∧ j < h.2 103 4 then h.2 105 j else 0
theorem tZt_i {h : zM} {j : Int} (a : 0 ≤ j ∧ j < h.2 103 4) : tZt h j = h.2 105 j := if_pos a
theorem tZt_k {i : Nat} {B : Int → Int} {n : Int} {h : zM} (k : tCk i B n (h.2 105) (h.2 106) (h.2 103 4)) : tCk i B n (tZt h) (h.2 106) (h.2 103 4) := by
  obtain ⟨k1, k2⟩ := k
  refine ⟨k1, fun j hj => ?_⟩
  obtain ⟨q, q1, q2, q3, q4, q5⟩ := k2 j hj
  exact ⟨q, q1, q2, by rw [tZt_i (by omega)]; exact q3, q4, q5⟩
theorem tZt_b {i : Nat} (hi : i < 5) {B : Int → Int} {n : Int} {h : zM} (k : tCk i B n (h.2 105) (h.2 106) (h.2 103 4)) : ∀ j, tZt h j ≤ 10999 := by
  intro j
  by_cases a : 0 ≤ j ∧ j < h.2 103 4
  · rw [tZt_i a]
    obtain ⟨q, q1, q2, q3, q4, q5⟩ := k.2 j.toNat (by omega)
    rw [show ((j.toNat : Nat) : Int) = j by omega] at q3
    exact tC_11 hi q3
  · show (if 0 ≤ j ∧ j < h.2 103 4 then h.2 105 j else 0) ≤ 10999
    rw [if_neg a]; decide
theorem tZt_po {i : Nat} {B : Int → Int} {n : Int} {h : zM} (k : tCk i B n (h.2 105) (h.2 106) (h.2 103 4)) (a : h.2 103 5 = 0) (b : h.2 103 6 = h.2 105 0) (f : h.2 103 7 = 0) (g : h.2 103 8 = -1) : tPo (tZt h) (h.2 106) 0 h := by
  have k' := tZt_k k
  obtain ⟨k1, k2⟩ := k'
  refine ⟨fun i p q => (tZt_i ⟨p, q⟩).symm, rfl, ⟨a, b.trans (tZt_i (by omega)).symm⟩, by omega, fun i i0 i1 => ?_, ?_, f, g⟩
  · obtain ⟨i, rfl⟩ : ∃ x : Nat, i = x := ⟨i.toNat, by omega⟩
    obtain ⟨q, _, _, q3, q4, _⟩ := k2 i (by omega)
    intro z
    have := (tC_z q3).mp z
    have := q4 i1
    omega
  · obtain ⟨q, _, _, q3, _, q5⟩ := k2 (h.2 103 4 - 1).toNat (by omega)
    have e : (((h.2 103 4 - 1).toNat : Nat) : Int) = h.2 103 4 - 1 := by omega
    rw [e] at q3 q5
    exact (tC_z q3).mpr (q5 (by omega))
/-! ===== texts: the bytes that are fed ===== -/
theorem tSh_k (v s : Int) (k : Nat) (hk : k = 0 ∨ k = 8 ∨ k = 16 ∨ k = 24) (hs : s = (k : Int)) : zand (zshr v s) 255 = zand (zushr v s) 255 := by
  rw [zand_m (d := 256) 8 (by decide) (c := 255) (by decide) (by decide) (zshr v s), zand_m (d := 256) 8 (by decide) (c := 255) (by decide) (by decide) (zushr v s)]
  have h1 : zshr v s = (Int32.ofInt v).toInt >>> k := by
    show (Int32.ofInt v >>> (Int32.ofInt s &&& 31)).toInt = _
    refine pk_shr _ _ k ?_
    subst hs
    rcases hk with rfl | rfl | rfl | rfl <;> decide
  have h2 := pk_ushr (Int32.ofInt v) (Int32.ofInt s) k (by
    subst hs
    rcases hk with rfl | rfl | rfl | rfl <;> decide)
  have h3 : zushr v s = ((Int32.ofInt v).toUInt32 >>> ((Int32.ofInt s).toUInt32 &&& Int32.toUInt32 31)).toInt32.toBitVec.toInt := rfl
  have h4 : (Int32.ofInt v).toInt = (Int32.ofInt v).toBitVec.toInt := rfl
  have lt : (Int32.ofInt v).toBitVec.toNat < 2 ^ 32 := (Int32.ofInt v).toBitVec.isLt
  rw [h1, h3, h4, BitVec.toInt_eq_toNat_cond, BitVec.toInt_eq_toNat_cond, h2, Int.shiftRight_eq_div_pow]
  generalize (Int32.ofInt v).toBitVec.toNat = U at lt ⊢
  have p32 : (2 : Nat) ^ 32 = 4294967296 := by decide
  have p0 : (2 : Nat) ^ 0 = 1 := by decide
  have p8 : (2 : Nat) ^ 8 = 256 := by decide
  have p16 : (2 : Nat) ^ 16 = 65536 := by decide
  have p24 : (2 : Nat) ^ 24 = 16777216 := by decide
  rcases hk with rfl | rfl | rfl | rfl
  · rw [p0]; split <;> split <;> omega
  · rw [p8]; split <;> split <;> omega
  · rw [p16]; split <;> split <;> omega
  · rw [p24]; split <;> split <;> omega
def tFd (a b c d e k : Int) : Int := zand (zushr (if k < 4 then a else if k < 8 then b else if k < 12 then c else if k < 16 then d else e) (24 - 8 * (k % 4))) 255
theorem tFd_s {f f' f0 : Int → Int} {g : Int → Int} {n0 n v : Int} (l : n0 ≤ n) (q : ∀ i, f i = if n0 ≤ i ∧ i < n then g i else f0 i) (e : ∀ i, f' i = if i = n then v else f i) (hv : v = g n) : ∀ i, f' i = if n0 ≤ i ∧ i < n + 1 then g i else f0 i := fun i => by
  rw [e i]
  by_cases z : i = n
  · rw [if_pos z, if_pos (by omega), z]; exact hv
  · rw [if_neg z, q i]
    by_cases y : n0 ≤ i ∧ i < n
    · rw [if_pos y, if_pos (by omega)]
    · rw [if_neg y, if_neg (by omega)]
theorem tFd_5 {a b c d e n : Int} {f0 f1 f2 f3 f4 f5 : Int → Int} (e1 : ∀ i, f1 i = if n ≤ i ∧ i < n + 4 then zand (zushr a (24 - 8 * (i - n))) 255 else f0 i) (e2 : ∀ i, f2 i = if n + 4 ≤ i ∧ i < n + 4 + 4 then zand (zushr b (24 - 8 * (i - (n + 4)))) 255 else f1 i) (e3 : ∀ i, f3 i = if n + 8 ≤ i ∧ i < n + 8 + 4 then zand (zushr c (24 - 8 * (i - (n + 8)))) 255 else f2 i) (e4 : ∀ i, f4 i = if n + 12 ≤ i ∧ i < n + 12 + 4 then zand (zushr d (24 - 8 * (i - (n + 12)))) 255 else f3 i) (e5 : ∀ i, f5 i = if n + 16 ≤ i ∧ i < n + 16 + 4 then zand (zushr e (24 - 8 * (i - (n + 16)))) 255 else f4 i) : ∀ i, f5 i = if n ≤ i ∧ i < n + 20 then tFd a b c d e (i - n) else f0 i := fun i => by
  rw [e5 i, e4 i, e3 i, e2 i, e1 i]
  unfold tFd
  by_cases z : n ≤ i ∧ i < n + 20
  · rw [if_pos z]
    by_cases z1 : i - n < 4
    · rw [if_neg (by omega), if_neg (by omega), if_neg (by omega), if_neg (by omega), if_pos (by omega), if_pos z1, show (i - n) % 4 = i - n by omega]
    · rw [if_neg z1]
      by_cases z2 : i - n < 8
      · rw [if_neg (by omega), if_neg (by omega), if_neg (by omega), if_pos (by omega), if_pos z2, show (i - n) % 4 = i - (n + 4) by omega]
      · rw [if_neg z2]
        by_cases z3 : i - n < 12
        · rw [if_neg (by omega), if_neg (by omega), if_pos (by omega), if_pos z3, show (i - n) % 4 = i - (n + 8) by omega]
        · rw [if_neg z3]
          by_cases z4 : i - n < 16
          · rw [if_neg (by omega), if_pos (by omega), if_pos z4, show (i - n) % 4 = i - (n + 12) by omega]
          · rw [if_neg z4, if_pos (by omega), show (i - n) % 4 = i - (n + 16) by omega]
  · rw [if_neg z, if_neg (by omega), if_neg (by omega), if_neg (by omega), if_neg (by omega), if_neg (by omega)]
def tFe (n : Int) (f f' : Int → Int) (a b c d e : Int) : Prop := (n ≤ 380 → ∀ i, f' i = if n ≤ i ∧ i < n + 20 then tFd a b c d e (i - n) else f i) ∧ (380 < n → ∀ i, f' i = f i)
theorem tFe_r {n n' v a b c d e : Int} {f f' g g' : Int → Int} (x : tFe n f f' a b c d e) (y : tFe n g g' a b c d e) (z : zfd n v n') (n0 : 0 ≤ n) (r : ∀ i, 0 ≤ i → i < n → g i = f i) : ∀ i, 0 ≤ i → i < n' → g' i = f' i := by
  intro i i0 i1
  by_cases h : n ≤ 380
  · have zz := z.1 h
    rw [x.1 h i, y.1 h i]
    by_cases w : n ≤ i ∧ i < n + 20
    · rw [if_pos w, if_pos w]
    · rw [if_neg w, if_neg w]; exact r i i0 (by omega)
  · have zz := z.2 (by omega)
    rw [x.2 (by omega) i, y.2 (by omega) i]
    exact r i i0 (by omega)
/-! ===== the law's code on the class's side ===== -/
def tCd (h : zM) (l : Int) : List Int := tSk (h.2 (l + 5)) (h.2 l 7).toNat
theorem tCd_f {h h' : zM} {l : Int} (e7 : h'.2 l 7 = h.2 l 7) (e5 : ∀ i, h'.2 (l + 5) i = h.2 (l + 5) i) : tCd h' l = tCd h l := by
  unfold tCd
  rw [e7, show h'.2 (l + 5) = h.2 (l + 5) from funext e5]
theorem tCd_p {h h' : zM} {l v : Int} (b : 0 ≤ h.2 l 7) (e7 : h'.2 l 7 = h.2 l 7 + 1) (e5 : ∀ i, h'.2 (l + 5) i = if i = h.2 l 7 then v else h.2 (l + 5) i) : tCd h' l = v :: tCd h l := by
  unfold tCd
  exact tSk_p b e7 (by rw [e5, if_pos rfl]) (fun j z => by rw [e5, if_neg z])
theorem tCd_l {h : zM} {l : Int} (b : 0 ≤ h.2 l 7) : ((tCd h l).length : Int) = h.2 l 7 := by
  unfold tCd
  rw [tSk_l]; omega
theorem tRe_k {T : Int → Int} {p m j w : Int} {s c1 c2 d : List Int} {x : tS} (a : tRe T p x (m, j, w, s, c1, d)) (e : c1 = c2) : tRe T p x (m, j, w, s, c2, d) := e ▸ a
theorem tRe_q {T : Int → Int} {p m j w : Int} {s c d1 d2 : List Int} {x : tS} (a : tRe T p x (m, j, w, s, c, d1)) (e : d1 = d2) : tRe T p x (m, j, w, s, c, d2) := e ▸ a
theorem tWt_0 (c : List Int) : tWt 0 c = c := if_pos rfl
theorem tWt_z {w : Int} (h : w = 0) (c : List Int) : tWt w c = c := if_pos h
theorem tWt_n {w : Int} (h : ¬ w = 0) (c : List Int) : tWt w c = (20000 + w) :: c := if_neg h
theorem tCd_0 {h : zM} {l : Int} (e : h.2 l 7 = 0) : tCd h l = [] := by unfold tCd; rw [e]; rfl
/-- lines as they were told, the newest first -/
def tD4 (h : zM) (l : Int) : Nat → List Int
  | 0 => []
  | n + 1 => h.2 (l + 4) n :: h.2 (l + 3) n :: h.2 (l + 2) n :: h.2 (l + 1) n :: tD4 h l n
theorem tD4_s {h : zM} {l n : Int} (h0 : 0 ≤ n) : tD4 h l (n + 1).toNat = h.2 (l + 4) n :: h.2 (l + 3) n :: h.2 (l + 2) n :: h.2 (l + 1) n :: tD4 h l n.toNat := by
  rw [show (n + 1).toNat = n.toNat + 1 by omega]
  show h.2 (l + 4) ((n.toNat : Nat) : Int) :: h.2 (l + 3) ((n.toNat : Nat) : Int) :: h.2 (l + 2) ((n.toNat : Nat) : Int) :: h.2 (l + 1) ((n.toNat : Nat) : Int) :: tD4 h l n.toNat = _
  rw [show ((n.toNat : Nat) : Int) = n by omega]
theorem tD4_x {h h' : zM} {l : Int} : ∀ n : Nat, (∀ k i, 1 ≤ k → k ≤ 4 → 0 ≤ i → i < n → h'.2 (l + k) i = h.2 (l + k) i) → tD4 h' l n = tD4 h l n
  | 0, _ => rfl
  | n + 1, e => by
    show h'.2 (l + 4) (n : Int) :: h'.2 (l + 3) (n : Int) :: h'.2 (l + 2) (n : Int) :: h'.2 (l + 1) (n : Int) :: tD4 h' l n = _
    rw [e 4 n (by decide) (by decide) (by omega) (by omega), e 3 n (by decide) (by decide) (by omega) (by omega), e 2 n (by decide) (by decide) (by omega) (by omega), e 1 n (by decide) (by decide) (by omega) (by omega), tD4_x n (fun k i a b c d => e k i a b c (by omega))]
    rfl
def tP3 (h : zM) (l a b d : Int) : Nat → List Int
  | 0 => []
  | n + 1 => h.2 (l + a) n :: h.2 (l + b) n :: h.2 (l + d) n :: tP3 h l a b d n
theorem tP3_s {h : zM} {l a b d n : Int} (h0 : 0 ≤ n) : tP3 h l a b d (n + 1).toNat = h.2 (l + a) n :: h.2 (l + b) n :: h.2 (l + d) n :: tP3 h l a b d n.toNat := by
  rw [show (n + 1).toNat = n.toNat + 1 by omega]
  show h.2 (l + a) ((n.toNat : Nat) : Int) :: h.2 (l + b) ((n.toNat : Nat) : Int) :: h.2 (l + d) ((n.toNat : Nat) : Int) :: tP3 h l a b d n.toNat = _
  rw [show ((n.toNat : Nat) : Int) = n by omega]
theorem tP3_x {h h' : zM} {l a b d : Int} (ha : 1 ≤ a ∧ a ≤ 3) (hb : 1 ≤ b ∧ b ≤ 3) (hd : 1 ≤ d ∧ d ≤ 3) : ∀ n : Nat, (∀ k i, 1 ≤ k → k ≤ 3 → 0 ≤ i → i < n → h'.2 (l + k) i = h.2 (l + k) i) → tP3 h' l a b d n = tP3 h l a b d n
  | 0, _ => rfl
  | n + 1, e => by
    show h'.2 (l + a) (n : Int) :: h'.2 (l + b) (n : Int) :: h'.2 (l + d) (n : Int) :: tP3 h' l a b d n = _
    rw [e a n ha.1 ha.2 (by omega) (by omega), e b n hb.1 hb.2 (by omega) (by omega), e d n hd.1 hd.2 (by omega) (by omega), tP3_x ha hb hd n (fun k i x y c z => e k i x y c (by omega))]
    rfl
/-- kin by pairs, the newest first: b, a -/
def tKs : List Int → Int → Int
  | b :: a :: d, i => if i = b then zor (if i = a then zor (tKs d i) (zshl 1 b) else tKs d i) (zshl 1 a) else (if i = a then zor (tKs d i) (zshl 1 b) else tKs d i)
  | _, _ => 0
theorem tFil {h h' : zM} {c x y v b : Int} (e : h' = zfill h c x y v) (n : x ≤ b ∧ b < y) : h'.2 c b = v := by rw [e]; exact if_pos ⟨rfl, n⟩

