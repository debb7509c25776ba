/-! ===== the reference's rows ===== -/
def zEn (o a e : Int) : Prop := (o = 0 ∧ e = a ∧ 0 ≤ a ∧ a < 10000) ∨ (o = 1 ∧ e = 10007 + a ∧ 0 ≤ a ∧ a ≤ 9) ∨ (o = 2 ∧ e = 20043) ∨ (o = 3 ∧ e = 20045) ∨ (o = 4 ∧ e = 20042) ∨ (o = 5 ∧ e = 20047) ∨ (o = 6 ∧ e = 20060) ∨ (o = 7 ∧ e = 20061) ∨ (o = 8 ∧ e = 20062) ∨ (o = 9 ∧ e = 20006) ∨ (o = 10 ∧ e = 20005) ∨ (o = 11 ∧ e = 20004)
def zHE (h : zM) (E : fE) : Prop :=
  h.2 0 6 = E.n ∧ (∀ i, 0 ≤ i → i < 18 → h.2 4 i = E.wt i ∧ h.2 5 i = E.lg i ∧ h.2 19 i = E.kn i) ∧
  (h.2 9 0 = E.lm ∧ (∀ l, 0 ≤ l → l < E.lm → h.2 10 l = E.lw l ∧ h.2 11 l = E.lf l ∧ h.2 12 l = E.lh l ∧ h.2 13 l = E.lt l) ∧ (∀ i, 0 ≤ i → i < E.ln → zEn (h.2 14 i) (h.2 15 i) (E.cd i))) ∧
  (h.2 0 33 = E.bm ∧ ∀ l, 0 ≤ l → l < E.bm → h.2 17 (3 * l) = E.bd l ∧ h.2 17 (3 * l + 1) = E.bs l ∧ h.2 17 (3 * l + 2) = E.bo l) ∧
  (h.2 0 35 = E.dm ∧ ∀ l, 0 ≤ l → l < E.dm → h.2 18 (3 * l) = E.dd l ∧ h.2 18 (3 * l + 1) = E.dw l ∧ h.2 18 (3 * l + 2) = E.dn l) ∧ h.2 0 37 = E.km
def zY (h : zM) (E : fE) (th : Bool) (x : fS) : Prop := fWE E ∧ fWx x.1 ∧ zHE h E ∧ (∀ k, 0 ≤ k → k < 63 → h.2 1 k = x.1 k) ∧ (∀ k, 0 ≤ k → k < 600 → h.2 6 k = x.2 k) ∧ (th = true ↔ h.2 0 5 = 1)
def zDe (a b : Int) : Prop := (a = 0 ∧ (b = 6 ∨ b = 33 ∨ b = 35 ∨ b = 37)) ∨ a = 4 ∨ a = 5 ∨ (9 ≤ a ∧ a ≤ 15) ∨ (17 ≤ a ∧ a ≤ 19)
def zDm (a b : Int) : Prop := zDe a b ∨ (a = 0 ∧ b = 5) ∨ a = 1 ∨ a = 6
theorem zHE_f {h h' : zM} {E : fE} (e : ∀ a b, zDe a b → h'.2 a b = h.2 a b) (t : zHE h E) : zHE h' E := by
  obtain ⟨a1, a2, ⟨a3, a4, a5⟩, ⟨a6, a7⟩, ⟨a8, a9⟩, a10⟩ := t
  refine ⟨?_, fun i p q => ?_, ⟨?_, fun l p q => ?_, fun i p q => ?_⟩, ⟨?_, fun l p q => ?_⟩, ⟨?_, fun l p q => ?_⟩, ?_⟩
  · rw [e 0 6 (by unfold zDe; omega)]; exact a1
  · rw [e 4 i (by unfold zDe; omega), e 5 i (by unfold zDe; omega), e 19 i (by unfold zDe; omega)]; exact a2 i p q
  · rw [e 9 0 (by unfold zDe; omega)]; exact a3
  · rw [e 10 l (by unfold zDe; omega), e 11 l (by unfold zDe; omega), e 12 l (by unfold zDe; omega), e 13 l (by unfold zDe; omega)]; exact a4 l p q
  · rw [e 14 i (by unfold zDe; omega), e 15 i (by unfold zDe; omega)]; exact a5 i p q
  · rw [e 0 33 (by unfold zDe; omega)]; exact a6
  · rw [e 17 _ (by unfold zDe; omega), e 17 _ (by unfold zDe; omega), e 17 _ (by unfold zDe; omega)]; exact a7 l p q
  · rw [e 0 35 (by unfold zDe; omega)]; exact a8
  · rw [e 18 _ (by unfold zDe; omega), e 18 _ (by unfold zDe; omega), e 18 _ (by unfold zDe; omega)]; exact a9 l p q
  · rw [e 0 37 (by unfold zDe; omega)]; exact a10
theorem zY_f {h h' : zM} {E : fE} {th : Bool} {x : fS} (t : zY h E th x) (e : ∀ a b, zDm a b → h'.2 a b = h.2 a b) : zY h' E th x := by
  obtain ⟨t1, t2, t3, t4, t5, t6⟩ := t
  exact ⟨t1, t2, zHE_f (fun a b z => e a b (Or.inl z)) t3, fun k a b => (e 1 k (by unfold zDm; omega)).trans (t4 k a b), fun k a b => (e 6 k (by unfold zDm; omega)).trans (t5 k a b), by rw [e 0 5 (by unfold zDm; omega)]; exact t6⟩
def zokY (fs cs : List Int) : Bool := !cs.contains 0 && [5, 6, 33, 35, 37].all (fun b => !fs.contains b) && [1, 4, 5, 6, 9, 10, 11, 12, 13, 14, 15, 17, 18, 19].all (fun a => !cs.contains a)
theorem zDm_o {fs cs : List Int} {h h' : zM} (q : zfr fs cs h h') (k : zokY fs cs = true) : ∀ a b, zDm a b → h'.2 a b = h.2 a b := by
  unfold zokY at k
  simp only [Bool.and_eq_true, Bool.not_eq_true', List.all_cons, List.all_nil, Bool.and_true] at k
  obtain ⟨⟨k0, f5, f6, f33, f35, f37⟩, c1, c4, c5, c6, c9, c10, c11, c12, c13, c14, c15, c17, c18, c19⟩ := k
  intro a b z
  unfold zDm zDe at z
  have hh : (a = 0 ∧ (b = 6 ∨ b = 33 ∨ b = 35 ∨ b = 37 ∨ b = 5)) ∨ a = 1 ∨ a = 4 ∨ a = 5 ∨ a = 6 ∨ a = 9 ∨ a = 10 ∨ a = 11 ∨ a = 12 ∨ a = 13 ∨ a = 14 ∨ a = 15 ∨ a = 17 ∨ a = 18 ∨ a = 19 := by omega
  rcases hh with ⟨rfl, rfl | rfl | rfl | rfl | rfl⟩ | rfl | rfl | rfl | rfl | rfl | rfl | rfl | rfl | rfl | rfl | rfl | rfl | rfl | rfl
  · exact zfr_f q k0 f6
  · exact zfr_f q k0 f33
  · exact zfr_f q k0 f35
  · exact zfr_f q k0 f37
  · exact zfr_f q k0 f5
  · exact zfr_a q c1 (by decide)
  · exact zfr_a q c4 (by decide)
  · exact zfr_a q c5 (by decide)
  · exact zfr_a q c6 (by decide)
  · exact zfr_a q c9 (by decide)
  · exact zfr_a q c10 (by decide)
  · exact zfr_a q c11 (by decide)
  · exact zfr_a q c12 (by decide)
  · exact zfr_a q c13 (by decide)
  · exact zfr_a q c14 (by decide)
  · exact zfr_a q c15 (by decide)
  · exact zfr_a q c17 (by decide)
  · exact zfr_a q c18 (by decide)
  · exact zfr_a q c19 (by decide)
theorem zY_fr {fs cs : List Int} {h h' : zM} {E : fE} {th : Bool} {x : fS} (t : zY h E th x) (q : zfr fs cs h h') (k : zokY fs cs = true) : zY h' E th x := zY_f t (zDm_o q k)
theorem zY_o {h h' : zM} {c k v : Int} {E : fE} {th : Bool} {x : fS} (t : zY h E th x) (e : h' = zwr h c k v) (hc : ¬ zDm c k) : zY h' E th x := zY_f t (fun a b z => zwr_r e (fun q => hc (by rw [← q.1, ← q.2]; exact z)))
/-- a slot of the row -/
theorem zY_w {h h' : zM} {k v u : Int} {E : fE} {th : Bool} {x : fS} (t : zY h E th x) (e : h' = zwr h 1 k v) (hk : 0 ≤ k ∧ k < 63) (hv : v = u) (h2 : k = 2 → 0 ≤ u ∧ u ≤ 150) (h3 : k = 3 → 0 ≤ u ∧ u ≤ 719) (h7 : k = 7 → u = 0 ∨ u = 1) (h27 : 27 ≤ k → k < 45 → u = 0 ∨ u = 1) : zY h' E th (fup x.1 k u, x.2) := by
  obtain ⟨t1, t2, t3, t4, t5, t6⟩ := t
  have o : ∀ a b, ¬ a = 1 → h'.2 a b = h.2 a b := fun a b z => zwr_r e (fun q => z q.1)
  refine ⟨t1, fWx_u t2 h2 h3 h7 h27, zHE_f (fun a b z => o a b (by unfold zDe at z; omega)) t3, fun i a b => ?_, fun i a b => by rw [o 6 i (by decide)]; exact t5 i a b, by rw [o 0 5 (by decide)]; exact t6⟩
  show h'.2 1 i = fup x.1 k u i
  rw [zwr_if e i, hv]
  unfold fup
  by_cases q : i = k
  · rw [if_pos q, if_pos q]
  · rw [if_neg q, if_neg q]; exact t4 i a b
theorem zY_g {h : zM} {E : fE} {th : Bool} {x : fS} (t : zY h E th x) : (h.2 0 6 = E.n ∧ h.2 9 0 = E.lm ∧ h.2 0 33 = E.bm ∧ h.2 0 35 = E.dm) ∧ (0 ≤ E.n ∧ E.n ≤ 18) := ⟨⟨t.2.2.1.1, t.2.2.1.2.2.1.1, t.2.2.1.2.2.2.1.1, t.2.2.1.2.2.2.2.1.1⟩, t.1.1⟩
theorem zY_r {h : zM} {E : fE} {th : Bool} {x : fS} (t : zY h E th x) {k : Int} (a : 0 ≤ k) (b : k < 63) : h.2 1 k = x.1 k := t.2.2.2.1 k a b
theorem zY_i {h : zM} {E : fE} {th : Bool} {x : fS} (t : zY h E th x) {i : Int} (a : 0 ≤ i) (b : i < 18) : h.2 4 i = E.wt i ∧ h.2 5 i = E.lg i ∧ h.2 19 i = E.kn i := t.2.2.1.2.1 i a b
theorem zY_l {h : zM} {E : fE} {th : Bool} {x : fS} (t : zY h E th x) {l : Int} (a : 0 ≤ l) (b : l < E.lm) : (h.2 10 l = E.lw l ∧ h.2 11 l = E.lf l ∧ h.2 12 l = E.lh l ∧ h.2 13 l = E.lt l) ∧ fWl E l := ⟨t.2.2.1.2.2.1.2.1 l a b, t.1.2.2.2.1.2.2 l a b⟩
theorem zY_c {h : zM} {E : fE} {th : Bool} {x : fS} (t : zY h E th x) {i : Int} (a : 0 ≤ i) (b : i < E.ln) : zEn (h.2 14 i) (h.2 15 i) (E.cd i) := t.2.2.1.2.2.1.2.2 i a b
theorem zY_b {h : zM} {E : fE} {th : Bool} {x : fS} (t : zY h E th x) {k : Int} (a : 0 ≤ k) (b : k < 3 * E.bm) (m : k % 3 = 0) : h.2 17 k = E.bd (k / 3) ∧ h.2 17 (k + 1) = E.bs (k / 3) ∧ h.2 17 (k + 2) = E.bo (k / 3) := by
  have z := t.2.2.1.2.2.2.1.2 (k / 3) (by omega) (by omega)
  rw [show 3 * (k / 3) = k by omega] at z; exact z
theorem zY_d {h : zM} {E : fE} {th : Bool} {x : fS} (t : zY h E th x) {k : Int} (a : 0 ≤ k) (b : k < 3 * E.dm) (m : k % 3 = 0) : (h.2 18 k = E.dd (k / 3) ∧ h.2 18 (k + 1) = E.dw (k / 3) ∧ h.2 18 (k + 2) = E.dn (k / 3)) ∧ fWd E (k / 3) := by
  have z := t.2.2.1.2.2.2.2.1.2 (k / 3) (by omega) (by omega)
  rw [show 3 * (k / 3) = k by omega] at z; exact ⟨z, t.1.2.2.2.2.2.2 (k / 3) (by omega) (by omega)⟩
theorem zY_wi {h : zM} {E : fE} {th : Bool} {x : fS} (t : zY h E th x) {i : Int} (a : 0 ≤ i) (b : i < 18) : (0 ≤ E.wt i ∧ E.wt i ≤ 200) ∧ (0 ≤ E.lg i ∧ E.lg i ≤ 9) := t.1.2.1 i a b
theorem zY_kn {h : zM} {i o : Int} {E : fE} {th : Bool} {x : fS} (t : zY h E th x) (hi : 0 ≤ i ∧ i < 18) (ho : 0 ≤ o ∧ o < 18) : zand (zshr (h.2 19 i) o) 1 = 1 ↔ fgb (E.kn i) o.toNat = true := by
  have k := (t.1.2.2.1 i hi.1 hi.2).1
  rw [(zY_i t hi.1 hi.2).2.2, fgb_t1 (by omega) (by omega)]
theorem zY_t {h : zM} {E : fE} {th : Bool} {x : fS} (t : zY h E th x) : (h.2 0 5 = 1 → th = true) ∧ (¬ h.2 0 5 = 1 → th = false) := ⟨fun z => t.2.2.2.2.2.2 z, fun z => by cases th with | true => exact absurd (t.2.2.2.2.2.1 rfl) z | false => rfl⟩
/-- what was asked -/
def zAs (h : zM) (E : fE) (r : fR) (i : Int) : Prop := ∀ k, 0 ≤ k → k < 10 → h.2 20 k = fAsk E r i k
theorem zAs_f {h h' : zM} {E : fE} {r : fR} {i : Int} (t : zAs h E r i) (e : ∀ k, h'.2 20 k = h.2 20 k) : zAs h' E r i := fun k a b => (e k).trans (t k a b)
/-- what a run of codes is asked with -/
def xRm (h : zM) (p2 p3 : Int) (E : fE) (th : Bool) (x : fS) (i : Int) : Prop := zY h E th x ∧ zAs h E x.1 i ∧ (0 ≤ p2 ∧ p2 ≤ p3 ∧ p3 ≤ E.ln) ∧ ∃ y, fTy (tSk E.cd p3.toNat) (p3 - p2).toNat = some [y]
def fJm (a b : Int) : Prop := (a = 2 ∧ b = 43) ∨ (a = 3 ∧ b = 45) ∨ (a = 4 ∧ b = 42) ∨ (a = 5 ∧ b = 47) ∨ (a = 6 ∧ b = 60) ∨ (a = 7 ∧ b = 61) ∨ (a = 8 ∧ b = 62) ∨ (a = 10 ∧ b = 5) ∨ (a = 11 ∧ b = 4)
theorem fJn_10 {x y : Int} (hx : x = 0 ∨ x = 1) (hy : y = 0 ∨ y = 1) : zwp (x * y) = fJn 5 x y := by
  rcases hx with rfl | rfl <;> rcases hy with rfl | rfl <;> decide
theorem fJn_11 {x y : Int} (hx : x = 0 ∨ x = 1) (hy : y = 0 ∨ y = 1) : (0 < zwp (x + y) → fJn 4 x y = 1) ∧ (¬ 0 < zwp (x + y) → fJn 4 x y = 0) := by
  rcases hx with rfl | rfl <;> rcases hy with rfl | rfl <;> decide
theorem fct_n (p : Nat → Bool) {k : Int} (h : 0 ≤ k) (b : p k.toNat = false) : fct p (k + 1).toNat = fct p k.toNat := by
  rw [show (k + 1).toNat = k.toNat + 1 by omega]
  show fct p k.toNat + (if p k.toNat then 1 else 0) = _
  rw [b]; simp
theorem fct_y (p : Nat → Bool) {k : Int} (h : 0 ≤ k) (b : p k.toNat = true) : fct p (k + 1).toNat = fct p k.toNat + 1 := by
  rw [show (k + 1).toNat = k.toNat + 1 by omega]
  show fct p k.toNat + (if p k.toNat then 1 else 0) = _
  rw [b]; simp
theorem fHr_n {r : fR} {o : Int} (h : 0 ≤ o) : fHr r o.toNat = decide (r (9 + o) = 0) := by
  unfold fHr; rw [show ((o.toNat : Nat) : Int) = o by omega]
/-- the set of those who are here, up to a number -/
def zHs (v m : Int) (r : fR) : Prop := ∀ i : Nat, i < 32 → fgb v i = (decide ((i : Int) < m) && decide (r (9 + (i : Int)) = 0))
theorem zHs_0 (r : fR) : zHs 0 0 r := fun i _ => by rw [fgb_0, decide_eq_false (by omega)]; rfl
theorem zHs_n {v m : Int} {r : fR} (t : zHs v m r) (h : ¬ r (9 + m) = 0) : zHs v (m + 1) r := fun i q => by
  rw [t i q]
  by_cases y : (i : Int) = m
  · rw [y, decide_eq_false (show ¬ m < m by omega), decide_eq_false h]; simp
  · by_cases z : (i : Int) < m
    · rw [decide_eq_true z, decide_eq_true (show (i : Int) < m + 1 by omega)]
    · rw [decide_eq_false z, decide_eq_false (show ¬ (i : Int) < m + 1 by omega)]
theorem zHs_y {v m : Int} {r : fR} (t : zHs v m r) (hm : 0 ≤ m ∧ m ≤ 30) (h : r (9 + m) = 0) : zHs (zor v (zshl 1 m)) (m + 1) r := fun i q => by
  rw [fgb_set _ hm i, t i q]
  by_cases y : (i : Int) = m
  · rw [y, decide_eq_true (show i = m.toNat by omega), decide_eq_true (show m < m + 1 by omega), decide_eq_true h]; simp
  · rw [decide_eq_false (show ¬ i = m.toNat by omega)]
    by_cases z : (i : Int) < m
    · rw [decide_eq_true z, decide_eq_true (show (i : Int) < m + 1 by omega)]; simp
    · rw [decide_eq_false z, decide_eq_false (show ¬ (i : Int) < m + 1 by omega)]; simp
theorem zHs_c {v n : Int} {r : fR} (t : zHs v n r) (hn : 0 ≤ n ∧ n ≤ 18) : fct (fgb v) 31 = fct (fHr r) n.toNat := by
  have e : (31 : Nat) = n.toNat + (31 - n.toNat) := by omega
  rw [e, fct_z (31 - n.toNat) (fun i a c => by rw [t i (by omega), decide_eq_false (show ¬ (i : Int) < n by omega)]; rfl)]
  exact fct_x _ (fun i a => by rw [t i (by omega), decide_eq_true (show (i : Int) < n by omega), Bool.true_and]; rfl)
/-- a line of the book -/
def fBm (h h' : zM) (k p1 p2 p3 : Int) : Prop := (∀ j, h'.2 1 j = if j = 2 then k + 1 else h.2 1 j) ∧ (∀ j, h'.2 6 j = if j = 4 * k then h.2 1 0 else if j = 4 * k + 1 then p1 else if j = 4 * k + 2 then p2 else if j = 4 * k + 3 then p3 else h.2 6 j)
theorem zY_nt {h h' : zM} {p1 p2 p3 : Int} {E : fE} {th : Bool} {x : fS} (t : zY h E th x) (ht : th = false) (hk : ¬ x.1 2 = 150) (fr : ∀ a b, ¬ a = 1 → ¬ a = 6 → h'.2 a b = h.2 a b) (po : fBm h h' (x.1 2) p1 p2 p3) : zY h' E th (fNt th x p1 p2 p3) := by
  obtain ⟨t1, t2, t3, t4, t5, t6⟩ := t
  have w2 := t2.2.1
  have e : fNt th x p1 p2 p3 = (fup x.1 2 (x.1 2 + 1), fBl x.2 (x.1 2) (x.1 0) p1 p2 p3) := if_neg (by rw [ht]; rintro (z | z); exact absurd z (by decide); exact hk z)
  rw [e]
  refine ⟨t1, fWx_u t2 (by omega) (by omega) (by omega) (by omega), zHE_f (fun a b z => fr a b (by unfold zDe at z; omega) (by unfold zDe at z; omega)) t3, fun i a b => ?_, fun i a b => ?_, by rw [fr 0 5 (by decide) (by decide)]; exact t6⟩
  · show h'.2 1 i = fup x.1 2 (x.1 2 + 1) i
    rw [po.1 i]
    unfold fup
    by_cases q : i = 2
    · rw [if_pos q, if_pos q]
    · rw [if_neg q, if_neg q]; exact t4 i a b
  · show h'.2 6 i = fBl x.2 (x.1 2) (x.1 0) p1 p2 p3 i
    rw [po.2 i, t4 0 (by decide) (by decide), t5 i a b]
    rfl
theorem zY_n1 {h : zM} {p1 p2 p3 : Int} {E : fE} {th : Bool} {x : fS} (t : zY h E th x) (hk : th = true ∨ x.1 2 = 150) : zY h E th (fNt th x p1 p2 p3) := by
  have e : fNt th x p1 p2 p3 = x := if_pos hk
  rw [e]; exact t
/-! ===== small things for the reference's side ===== -/
theorem fJn_k (x y : Int) : fJn 43 x y = zwp (x + y) ∧ fJn 45 x y = zwp (x - y) ∧ fJn 42 x y = zwp (x * y) ∧ (¬ y = 0 → fJn 47 x y = zwp (x.tdiv y)) ∧ (x < y → fJn 60 x y = 1) ∧ (¬ x < y → fJn 60 x y = 0) ∧ (x = y → fJn 61 x y = 1) ∧ (¬ x = y → fJn 61 x y = 0) ∧ (y < x → fJn 62 x y = 1) ∧ (¬ y < x → fJn 62 x y = 0) := by
  unfold fJn
  refine ⟨if_pos rfl, ?_, ?_, fun h => ?_, fun h => ?_, fun h => ?_, fun h => ?_, fun h => ?_, fun h => ?_, fun h => ?_⟩
  · rw [if_neg (by decide), if_pos rfl]
  · rw [if_neg (by decide), if_neg (by decide), if_pos rfl]
  · rw [if_neg (by decide), if_neg (by decide), if_neg (by decide), if_pos rfl, if_neg h]
  · rw [if_neg (by decide), if_neg (by decide), if_neg (by decide), if_neg (by decide), if_pos rfl, if_pos h]
  · rw [if_neg (by decide), if_neg (by decide), if_neg (by decide), if_neg (by decide), if_pos rfl, if_neg h]
  · rw [if_neg (by decide), if_neg (by decide), if_neg (by decide), if_neg (by decide), if_neg (by decide), if_pos rfl, if_pos h]
  · rw [if_neg (by decide), if_neg (by decide), if_neg (by decide), if_neg (by decide), if_neg (by decide), if_pos rfl, if_neg h]
  · rw [if_neg (by decide), if_neg (by decide), if_neg (by decide), if_neg (by decide), if_neg (by decide), if_neg (by decide), if_pos rfl, if_pos h]
  · rw [if_neg (by decide), if_neg (by decide), if_neg (by decide), if_neg (by decide), if_neg (by decide), if_neg (by decide), if_pos rfl, if_neg h]
theorem fJg_b {g x y : Int} (h : fJg g x y) (k : g = 4 ∨ g = 5) : (x = 0 ∨ x = 1) ∧ (y = 0 ∨ y = 1) := by
  unfold fJg at h
  omega
theorem zEn_0 {o a e : Int} (h : zEn o a e) (z : o = 0) : e = a ∧ 0 ≤ a ∧ a < 10000 := by
  rcases h with h | h | h | h | h | h | h | h | h | h | h | h <;> omega
theorem zEn_1 {o a e : Int} (h : zEn o a e) (z : o = 1) : e = 10007 + a ∧ 0 ≤ a ∧ a ≤ 9 := by
  rcases h with h | h | h | h | h | h | h | h | h | h | h | h <;> omega
theorem zEn_9 {o a e : Int} (h : zEn o a e) (z : o = 9) : e = 20006 := by
  rcases h with h | h | h | h | h | h | h | h | h | h | h | h <;> omega
theorem zEn_j {o a e : Int} (h : zEn o a e) (n0 : ¬ o = 0) (n1 : ¬ o = 1) (n9 : ¬ o = 9) : fJm o (e - 20000) ∧ 20000 ≤ e ∧ ¬ e = 20006 := by
  unfold fJm
  rcases h with ⟨rfl, h⟩ | ⟨rfl, h⟩ | ⟨rfl, rfl⟩ | ⟨rfl, rfl⟩ | ⟨rfl, rfl⟩ | ⟨rfl, rfl⟩ | ⟨rfl, rfl⟩ | ⟨rfl, rfl⟩ | ⟨rfl, rfl⟩ | ⟨rfl, rfl⟩ | ⟨rfl, rfl⟩ | ⟨rfl, rfl⟩
  · exact absurd rfl n0
  · exact absurd rfl n1
  · decide
  · decide
  · decide
  · decide
  · decide
  · decide
  · decide
  · exact absurd rfl n9
  · decide
  · decide
theorem fTc_p {e top : Int} {f : Int → Int} (h : fTc e top f) (z : e < 20000) : top < 60 := by
  rcases h with h | h | h | h <;> omega
theorem fTc_n {e top : Int} {f : Int → Int} (h : fTc e top f) (z : e = 20006) : 1 ≤ top ∧ (f (top - 1) = 0 ∨ f (top - 1) = 1) := by
  rcases h with h | h | h | h
  · omega
  · exact h.2
  · omega
  · omega
theorem fTc_j {e top : Int} {f : Int → Int} (h : fTc e top f) (z : 20000 ≤ e) (n : ¬ e = 20006) : 2 ≤ top ∧ fJg (e - 20000) (f (top - 2)) (f (top - 1)) := by
  unfold fJg
  rcases h with h | h | ⟨h, t⟩ | ⟨h, t, a, b⟩
  · omega
  · omega
  · exact ⟨t, Or.inl (by omega)⟩
  · exact ⟨t, Or.inr ⟨by omega, b, a⟩⟩
theorem fAp_y {E : fE} {r : fR} {i o : Int} (h0 : 0 ≤ o) (k : fgb (E.kn i) o.toNat = true) (d : ¬ (r (9 + o) = 0 ↔ r (9 + i) = 0)) : fAp E r i o.toNat = true := by
  unfold fAp
  rw [k, fHr_n h0, Bool.true_and]
  by_cases a : r (9 + o) = 0 <;> by_cases b : r (9 + i) = 0
  · exact absurd (iff_of_true a b) d
  · rw [decide_eq_true a, decide_eq_false b]; rfl
  · rw [decide_eq_false a, decide_eq_true b]; rfl
  · exact absurd (iff_of_false a b) d
theorem fAp_k {E : fE} {r : fR} {i o : Int} (k : ¬ fgb (E.kn i) o.toNat = true) : fAp E r i o.toNat = false := by
  unfold fAp
  rw [Bool.eq_false_iff.mpr k]; rfl
theorem fAp_n {E : fE} {r : fR} {i o : Int} (h0 : 0 ≤ o) (d : r (9 + o) = 0 ↔ r (9 + i) = 0) : fAp E r i o.toNat = false := by
  unfold fAp
  rw [fHr_n h0]
  by_cases a : r (9 + o) = 0
  · rw [decide_eq_true a, decide_eq_true (d.mp a)]; simp
  · rw [decide_eq_false a, decide_eq_false (fun z => a (d.mpr z))]; simp
theorem zAs_i {h : zM} {E : fE} {r : fR} {i : Int} (a0 : h.2 20 0 = E.wt i) (a1 : h.2 20 1 = E.lg i) (a2 : h.2 20 2 = r (45 + i)) (a3 : h.2 20 3 = fct (fHr r) E.n.toNat) (a4 : h.2 20 4 = E.n) (a5 : h.2 20 5 = fHeld (r 4) (-9999) 9999) (a6 : h.2 20 6 = r 3) (a7 : h.2 20 7 = 1 - r 7) (a8 : h.2 20 8 = fct (fAp E r i) E.n.toNat) (a9 : h.2 20 9 = r 0) : zAs h E r i := by
  intro k p q
  have f := fAsk_f E r i k
  have z : k = 0 ∨ k = 1 ∨ k = 2 ∨ k = 3 ∨ k = 4 ∨ k = 5 ∨ k = 6 ∨ k = 7 ∨ k = 8 ∨ k = 9 := by omega
  rcases z with rfl | rfl | rfl | rfl | rfl | rfl | rfl | rfl | rfl | rfl <;> omega
theorem fif4 {j a u p q s b : Int} : (if j = a + 3 then s else if j = a + 2 then q else if j = a + 1 then p else if j = a then u else b) = (if j = a then u else if j = a + 1 then p else if j = a + 2 then q else if j = a + 3 then s else b) := by
  by_cases h3 : j = a + 3
  · rw [if_pos h3, if_neg (by omega), if_neg (by omega), if_neg (by omega), if_pos h3]
  rw [if_neg h3]
  by_cases h2 : j = a + 2
  · rw [if_pos h2, if_neg (by omega), if_neg (by omega), if_pos h2]
  rw [if_neg h2]
  by_cases h1 : j = a + 1
  · rw [if_pos h1, if_neg (by omega), if_pos h1]
  rw [if_neg h1]
  by_cases h0 : j = a
  · rw [if_pos h0, if_pos h0]
  rw [if_neg h0, if_neg h0, if_neg h1, if_neg h2, if_neg h3]
theorem fup_k (r : fR) (k a b : Int) : fup (fup r k a) k b = fup r k b := by
  funext i
  unfold fup
  by_cases q : i = k
  · rw [if_pos q, if_pos q]
  · rw [if_neg q, if_neg q, if_neg q]
theorem fup_c {k l : Int} (r : fR) (a b : Int) (h : ¬ k = l) : fup (fup r k a) l b = fup (fup r l b) k a := by
  funext i
  unfold fup
  by_cases q : i = k
  · rw [if_neg (show ¬ i = l by omega), if_pos q, if_pos q]
  · by_cases p : i = l
    · rw [if_pos p, if_neg q, if_pos p]
    · rw [if_neg p, if_neg q, if_neg q, if_neg p]
theorem fup_e (r : fR) (k : Int) : fup r k (r k) = r := by
  funext i
  unfold fup
  by_cases q : i = k
  · rw [if_pos q, q]
  · rw [if_neg q]
/-- the hands moved, either way -/
def fMv (r : fR) (d : Int) : fR := fup (fup r 6 (zwp (r 6 + (r 3 + d) / 720))) 3 ((r 3 + d) % 720)
theorem fMv_0 {r : fR} (h3 : 0 ≤ r 3 ∧ r 3 ≤ 719) (h6 : -2147483648 ≤ r 6 ∧ r 6 ≤ 2147483647) : fMv r 0 = r := by
  unfold fMv
  rw [show (r 3 + 0) / 720 = 0 by omega, show (r 3 + 0) % 720 = r 3 by omega, show r 6 + 0 = r 6 by omega, zwp_id (show zin (r 6) by unfold zin; omega), fup_e, fup_e]
theorem fMv_3 (r : fR) (d : Int) : fMv r d 3 = (r 3 + d) % 720 := fup_s _ _ _
theorem fMv_6 (r : fR) (d : Int) : fMv r d 6 = zwp (r 6 + (r 3 + d) / 720) := by
  unfold fMv
  rw [fup_n (by decide), fup_s]
theorem fMv_o (r : fR) (d : Int) {k : Int} (h3 : ¬ k = 3) (h6 : ¬ k = 6) : fMv r d k = r k := by
  unfold fMv
  rw [fup_n h3, fup_n h6]
theorem fMv_t {r : fR} {d e t : Int} (q : (r 3 + e) / 720 = (r 3 + d) / 720) (ht : t = (r 3 + e) % 720) : fup (fMv r d) 3 t = fMv r e := by
  unfold fMv
  rw [fup_k, q, ht]
theorem fMv_u {r : fR} {d e t u : Int} (hu : u = zwp (r 6 + (r 3 + e) / 720)) (ht : t = (r 3 + e) % 720) : fup (fup (fMv r d) 6 u) 3 t = fMv r e := by
  unfold fMv
  rw [fup_c _ _ _ (show ¬ (3 : Int) = 6 by decide), fup_k, fup_k, hu, ht]
theorem fMi_n {w n : Int} {r : fR} (hw : r 4 = w) (hb : -2147483647 ≤ w) (hn : (0 ≤ w ∧ (n = w ∨ n = 1440) ∧ n ≤ w ∧ n ≤ 1440) ∨ (w < 0 ∧ (n = -w ∨ n = 1440) ∧ n ≤ -w ∧ n ≤ 1440)) : (0 < w → fMi r = n) ∧ (¬ 0 < w → fMi r = -n) := by
  unfold fMi
  rw [hw]
  have := fHeld_f w (-1440) 1440
  omega
theorem fCl_e {th : Bool} {x : fS} {m k : Int} (hm : fMi x.1 = m) (hk : zss (x.1 3) m.toNat = k) : fCl th x = (if m < 0 then fNt th (if m = 0 then fNt th (if 0 < k then fNt th (fC1 x.1, x.2) 2 (-1) k else (fC1 x.1, x.2)) 3 (-1) ((if 0 < k then fNt th (fC1 x.1, x.2) 2 (-1) k else (fC1 x.1, x.2)).1 3) else (if 0 < k then fNt th (fC1 x.1, x.2) 2 (-1) k else (fC1 x.1, x.2))) 4 (-1) (-m) else (if m = 0 then fNt th (if 0 < k then fNt th (fC1 x.1, x.2) 2 (-1) k else (fC1 x.1, x.2)) 3 (-1) ((if 0 < k then fNt th (fC1 x.1, x.2) 2 (-1) k else (fC1 x.1, x.2)).1 3) else (if 0 < k then fNt th (fC1 x.1, x.2) 2 (-1) k else (fC1 x.1, x.2)))) := by
  subst hk
  subst hm
  rfl
theorem fC1_e {r : fR} {m : Int} (hm : fMi r = m) : fC1 r = fup (fup (fMv r m) 4 (zwp (r 4 - m))) 5 (zwp (r 5 + zss (r 3) m.toNat)) := by subst hm; rfl
/-! ===== how far a day can wind it ===== -/
theorem zwp_m (a b : Int) : zwp (zwp a - b) = zwp (a - b) := by rw [Int.sub_eq_add_neg, zwp_a, ← Int.sub_eq_add_neg]
theorem fTdv {a : Int} (h : 0 ≤ a) : a.tdiv 60 = a / 60 := Int.tdiv_eq_ediv_of_nonneg h
theorem fNt_r (th : Bool) (x : fS) (a b c : Int) {k : Int} (h : ¬ k = 2) : (fNt th x a b c).1 k = x.1 k := by
  unfold fNt
  split
  · rfl
  · exact fup_n h
theorem zwp_s {a : Int} (h : -2147483648 ≤ a ∧ a ≤ 2147483647) : zwp a = a := zwp_id (by unfold zin; omega)
theorem fGo_4 {E : fE} {th : Bool} {i : Int} {x : fS} (h : -2147480000 ≤ x.1 4 ∧ x.1 4 ≤ 2147480000) : x.1 4 ≤ (fGo E th i x).1 4 ∧ (fGo E th i x).1 4 ≤ x.1 4 + 999 := by
  have b := fTl_b E (fG1 x.1 i) 1 i
  have e : fMo 1 = 999 := rfl
  have z : (fGo E th i x).1 4 = zwp (x.1 4 + fTl E (fG1 x.1 i) 1 i) := (fNt_r _ _ _ _ _ (by decide)).trans (show fup (fG1 x.1 i) 4 (zwp (x.1 4 + fTl E (fG1 x.1 i) 1 i)) 4 = _ from fup_s _ _ _)
  rw [z, zwp_s (by omega)]
  omega
theorem fBk_4 {E : fE} {th : Bool} {i : Int} {x : fS} (h : -2147480000 ≤ x.1 4 ∧ x.1 4 ≤ 2147480000) : x.1 4 - 999 ≤ (fBk E th i x).1 4 ∧ (fBk E th i x).1 4 ≤ x.1 4 := by
  have b := fTl_b E (fup x.1 (9 + i) 0) 1 i
  have e : fMo 1 = 999 := rfl
  have z : (fBk E th i x).1 4 = zwp (x.1 4 - fTl E (fup x.1 (9 + i) 0) 1 i) := (fNt_r _ _ _ _ _ (by decide)).trans (show fup (fup x.1 (9 + i) 0) 4 (zwp (x.1 4 - fTl E (fup x.1 (9 + i) 0) 1 i)) 4 = _ from fup_s _ _ _)
  rw [z, zwp_s (by omega)]
  omega
theorem fHx_r (th : Bool) (o : Int) (x : fS) {k : Int} (h : ¬ k = 1) : (fHx th o x).1 k = x.1 k := by
  unfold fHx
  split
  · rfl
  · exact fup_n h
/-- slots that boats leave alone -/
theorem fGo_r (E : fE) (th : Bool) {i : Int} (x : fS) {k : Int} (h : k = 0 ∨ k = 3 ∨ k = 5 ∨ k = 6 ∨ k = 7 ∨ k = 8) (hi : 0 ≤ i) : (fGo E th i x).1 k = x.1 k := by
  refine (fNt_r _ _ _ _ _ (by omega)).trans ((fup_n (by omega)).trans ?_)
  unfold fG1
  rw [fup_n (by omega), fup_n (by omega)]
theorem fBk_r (E : fE) (th : Bool) {i : Int} (x : fS) {k : Int} (h : k = 0 ∨ k = 3 ∨ k = 5 ∨ k = 6 ∨ k = 7 ∨ k = 8) (hi : 0 ≤ i) : (fBk E th i x).1 k = x.1 k := by
  refine (fNt_r _ _ _ _ _ (by omega)).trans ((fup_n (by omega)).trans ?_)
  rw [fup_n (by omega)]
def fQ (s : Int) (x y : fS) : Prop := (x.1 4 - 999 * s ≤ y.1 4 ∧ y.1 4 ≤ x.1 4 + 999 * s) ∧ ∀ k, (k = 0 ∨ k = 3 ∨ k = 5 ∨ k = 6 ∨ k = 7 ∨ k = 8) → y.1 k = x.1 k
theorem fQ_r {s : Int} (h : 0 ≤ s) (x : fS) : fQ s x x := ⟨by omega, fun _ _ => rfl⟩
theorem fQ_t {s t : Int} {x y z : fS} (a : fQ s x y) (b : fQ t y z) : fQ (s + t) x z := ⟨by have := a.1; have := b.1; omega, fun k h => (b.2 k h).trans (a.2 k h)⟩
theorem fQ_m {s t : Int} {x y : fS} (a : fQ s x y) (h : s ≤ t) : fQ t x y := ⟨by have := a.1; omega, a.2⟩
theorem fQ_h (th : Bool) (o : Int) (x : fS) : fQ 0 x (fHx th o x) := ⟨by rw [fHx_r _ _ _ (by decide)]; omega, fun k h => fHx_r _ _ _ (by omega)⟩
theorem fQ_go {E : fE} {th : Bool} {i : Int} {x : fS} (h : -2147480000 ≤ x.1 4 ∧ x.1 4 ≤ 2147480000) (hi : 0 ≤ i) : fQ 1 x (fGo E th i x) := ⟨by have := fGo_4 (E := E) (th := th) (i := i) h; omega, fun k q => fGo_r E th x q hi⟩
theorem fQ_bk {E : fE} {th : Bool} {i : Int} {x : fS} (h : -2147480000 ≤ x.1 4 ∧ x.1 4 ≤ 2147480000) (hi : 0 ≤ i) : fQ 1 x (fBk E th i x) := ⟨by have := fBk_4 (E := E) (th := th) (i := i) h; omega, fun k q => fBk_r E th x q hi⟩
theorem fQ_O2 {E : fE} {th : Bool} {i : Int} : ∀ (k : Nat) (o s : Int) (x : fS), 0 ≤ o → 0 ≤ s → -2147480000 ≤ x.1 4 - 999 * s → x.1 4 + 999 * s ≤ 2147480000 → (0 ≤ (fO2 E th i k o s x).1 ∧ (fO2 E th i k o s x).1 ≤ s) ∧ fQ (s - (fO2 E th i k o s x).1) x (fO2 E th i k o s x).2
  | 0, o, s, x, h0, hs, a, b => ⟨⟨hs, Int.le_refl _⟩, by show fQ (s - s) x x; exact fQ_r (by omega) x⟩
  | k + 1, o, s, x, h0, hs, a, b => by
    show (0 ≤ (if 0 < s then (if fgb (E.kn i) o.toNat = true ∧ x.1 (9 + o) = 0 then fO2 E th i k (o + 1) (s - 1) (fGo E th o x) else fO2 E th i k (o + 1) s x) else (s, x)).1 ∧ (if 0 < s then (if fgb (E.kn i) o.toNat = true ∧ x.1 (9 + o) = 0 then fO2 E th i k (o + 1) (s - 1) (fGo E th o x) else fO2 E th i k (o + 1) s x) else (s, x)).1 ≤ s) ∧ fQ (s - (if 0 < s then (if fgb (E.kn i) o.toNat = true ∧ x.1 (9 + o) = 0 then fO2 E th i k (o + 1) (s - 1) (fGo E th o x) else fO2 E th i k (o + 1) s x) else (s, x)).1) x (if 0 < s then (if fgb (E.kn i) o.toNat = true ∧ x.1 (9 + o) = 0 then fO2 E th i k (o + 1) (s - 1) (fGo E th o x) else fO2 E th i k (o + 1) s x) else (s, x)).2
    by_cases p : 0 < s
    · rw [if_pos p]
      by_cases c : fgb (E.kn i) o.toNat = true ∧ x.1 (9 + o) = 0
      · rw [if_pos c]
        have g := fQ_go (E := E) (th := th) (i := o) (x := x) (by omega) h0
        have g1 := g.1
        have ih := fQ_O2 (E := E) (th := th) (i := i) k (o + 1) (s - 1) (fGo E th o x) (by omega) (by omega) (by omega) (by omega)
        exact ⟨by omega, fQ_m (fQ_t g ih.2) (by omega)⟩
      · rw [if_neg c]
        exact fQ_O2 k (o + 1) s x (by omega) hs a b
    · rw [if_neg p]
      exact ⟨⟨hs, Int.le_refl _⟩, fQ_r (by show 0 ≤ s - s; omega) x⟩
theorem fQ_Ob {E : fE} {th : Bool} {i s : Int} {x : fS} (h0 : 0 ≤ i) (hs : 1 ≤ s) (a : -2147480000 ≤ x.1 4 - 999 * s) (b : x.1 4 + 999 * s ≤ 2147480000) : (0 ≤ (fOb E th i s x).1 ∧ (fOb E th i s x).1 ≤ s) ∧ fQ (s - (fOb E th i s x).1) x (fOb E th i s x).2 := by
  unfold fOb
  have q := fQ_h th (fTl E x.1 0 i) x
  have q4 := q.1
  split
  · split
    · have g := fQ_go (E := E) (th := th) (i := i) (x := fHx th (fTl E x.1 0 i) x) (by omega) h0
      have g4 := g.1
      have z := fQ_O2 (E := E) (th := th) (i := i) E.n.toNat 0 (s - 1) (fGo E th i (fHx th (fTl E x.1 0 i) x)) (by omega) (by omega) (by omega) (by omega)
      exact ⟨by omega, fQ_m (fQ_t (fQ_t q g) z.2) (by omega)⟩
    · exact ⟨⟨by show 0 ≤ s; omega, Int.le_refl _⟩, fQ_m q (by show 0 ≤ s - s; omega)⟩
  · exact ⟨⟨by show 0 ≤ s; omega, Int.le_refl _⟩, fQ_r (by show 0 ≤ s - s; omega) x⟩
theorem fQ_Ou {E : fE} {th : Bool} : ∀ (k : Nat) (i s : Int) (x : fS), 0 ≤ i → 0 ≤ s → -2147480000 ≤ x.1 4 - 999 * s → x.1 4 + 999 * s ≤ 2147480000 → fQ s x (fOu E th k i s x)
  | 0, i, s, x, h0, hs, a, b => fQ_r hs x
  | k + 1, i, s, x, h0, hs, a, b => by
    show fQ s x (if 0 < s then fOu E th k (i + 1) (fOb E th i s x).1 (fOb E th i s x).2 else x)
    by_cases p : 0 < s
    · rw [if_pos p]
      have z := fQ_Ob (E := E) (th := th) (i := i) (s := s) (x := x) h0 (by omega) a b
      have z4 := z.2.1
      have ih := fQ_Ou (E := E) (th := th) k (i + 1) (fOb E th i s x).1 (fOb E th i s x).2 (by omega) (by omega) (by omega) (by omega)
      exact fQ_m (fQ_t z.2 ih) (by omega)
    · rw [if_neg p]; exact fQ_r hs x
theorem fQ_Bb {E : fE} {th : Bool} {i s : Int} {x : fS} (h0 : 0 ≤ i) (hs : 1 ≤ s) (a : -2147480000 ≤ x.1 4 - 999 * s) (b : x.1 4 + 999 * s ≤ 2147480000) : (0 ≤ (fBb E th i s x).1 ∧ (fBb E th i s x).1 ≤ s) ∧ fQ (s - (fBb E th i s x).1) x (fBb E th i s x).2 := by
  unfold fBb
  have q := fQ_h th (fTl E x.1 2 i) x
  have q4 := q.1
  split
  · exact ⟨⟨by show 0 ≤ s; omega, Int.le_refl _⟩, fQ_r (by show 0 ≤ s - s; omega) x⟩
  · split
    · have g := fQ_bk (E := E) (th := th) (i := i) (x := fHx th (fTl E x.1 2 i) x) (by omega) h0
      exact ⟨⟨by show 0 ≤ s - 1; omega, by show s - 1 ≤ s; omega⟩, fQ_m (fQ_t q g) (by show 0 + 1 ≤ s - (s - 1); omega)⟩
    · exact ⟨⟨by show 0 ≤ s; omega, Int.le_refl _⟩, fQ_m q (by show 0 ≤ s - s; omega)⟩
theorem fQ_Ba {E : fE} {th : Bool} : ∀ (k : Nat) (i s : Int) (x : fS), 0 ≤ i → 0 ≤ s → -2147480000 ≤ x.1 4 - 999 * s → x.1 4 + 999 * s ≤ 2147480000 → fQ s x (fBa E th k i s x)
  | 0, i, s, x, h0, hs, a, b => fQ_r hs x
  | k + 1, i, s, x, h0, hs, a, b => by
    show fQ s x (if 0 < s then fBa E th k (i + 1) (fBb E th i s x).1 (fBb E th i s x).2 else x)
    by_cases p : 0 < s
    · rw [if_pos p]
      have z := fQ_Bb (E := E) (th := th) (i := i) (s := s) (x := x) h0 (by omega) a b
      have z4 := z.2.1
      have ih := fQ_Ba (E := E) (th := th) k (i + 1) (fBb E th i s x).1 (fBb E th i s x).2 (by omega) (by omega) (by omega) (by omega)
      exact fQ_m (fQ_t z.2 ih) (by omega)
    · rw [if_neg p]; exact fQ_r hs x
/-- all boats of a day; none from day 1000 on -/
theorem fQ_Bs {E : fE} {th : Bool} (hb : ∀ l, 0 ≤ l → l < E.bm → (0 ≤ E.bs l ∧ E.bs l ≤ 18) ∧ E.bd l ≤ 999) : ∀ (k : Nat) (l : Int) (x : fS), 0 ≤ l → l + k ≤ E.bm → -2147480000 ≤ x.1 4 - 17982 * k → x.1 4 + 17982 * k ≤ 2147480000 → fQ (if x.1 0 ≤ 999 then 18 * k else 0) x (fBs E th k l x)
  | 0, l, x, h0, hl, a, b => fQ_r (by split <;> omega) x
  | k + 1, l, x, h0, hl, a, b => by
    show fQ (if x.1 0 ≤ 999 then 18 * ((k + 1 : Nat) : Int) else 0) x (fBs E th k (l + 1) (if E.bd l = x.1 0 then fSa E th l x else x))
    have w := hb l h0 (by omega)
    by_cases c : E.bd l = x.1 0
    · rw [if_pos c]
      have g : fQ 18 x (fSa E th l x) := by
        unfold fSa
        split
        · exact fQ_m (fQ_Ou E.n.toNat 0 (E.bs l) x (by omega) (by omega) (by omega) (by omega)) (by omega)
        · exact fQ_m (fQ_Ba E.n.toNat 0 (E.bs l) x (by omega) (by omega) (by omega) (by omega)) (by omega)
      have g4 := g.1
      have g0 := g.2 0 (Or.inl rfl)
      have ih := fQ_Bs (th := th) hb k (l + 1) (fSa E th l x) (by omega) (by omega) (by omega) (by omega)
      rw [g0, if_pos (show x.1 0 ≤ 999 by omega)] at ih
      rw [if_pos (show x.1 0 ≤ 999 by omega)]
      exact fQ_m (fQ_t g ih) (by omega)
    · rw [if_neg c]
      have ih := fQ_Bs (th := th) hb k (l + 1) x (by omega) (by omega) (by omega) (by omega)
      refine fQ_m ih ?_
      split <;> omega
theorem fDd_4 (E : fE) (l : Int) (r : fR) (hw : fWd E l) {k : Int} (h : k = 0 ∨ k = 4 ∨ k = 5) : fDd E l r k = r k := by
  have d := hw.2.1
  unfold fDd fPu
  split
  · exact fup_n (by omega)
  split
  · exact fup_n (by omega)
  split
  · exact fup_n (by omega)
  split
  · exact fup_n (by omega)
  split
  · exact fup_n (by omega)
  · rw [fup_n (by omega), fup_n (by omega)]
theorem fTw_4 {E : fE} (hw : ∀ l, 0 ≤ l → l < E.dm → fWd E l) {j : Int} (h : j = 0 ∨ j = 4 ∨ j = 5) : ∀ (k : Nat) (l : Int) (r : fR), 0 ≤ l → l + k ≤ E.dm → fTw E k l r j = r j
  | 0, l, r, h0, hl => rfl
  | k + 1, l, r, h0, hl => by
    show fTw E k (l + 1) (if E.dd l = r 0 then fDd E l r else r) j = r j
    rw [fTw_4 hw h k (l + 1) _ (by omega) (by omega)]
    split
    · exact fDd_4 E l r (hw l h0 (by omega)) h
    · rfl
theorem fNt_i (th : Bool) (y : fS) (a b c : Int) {k : Int} (h : ¬ k = 2) (p : Prop) [Decidable p] : (if p then fNt th y a b c else y).1 k = y.1 k := by
  split
  · exact fNt_r _ _ _ _ _ h
  · rfl
theorem fCl_r (th : Bool) (x : fS) {k : Int} (h : ¬ k = 2) : (fCl th x).1 k = fC1 x.1 k := by
  rw [fCl_e rfl rfl, fNt_i th _ _ _ _ h, fNt_i th _ _ _ _ h, fNt_i th _ _ _ _ h]
theorem fC1_5 (r : fR) : fC1 r 5 = zwp (r 5 + zss (r 3) (fMi r).toNat) := fup_s _ _ _
theorem fC1_4 (r : fR) : fC1 r 4 = zwp (r 4 - fMi r) := by
  unfold fC1
  rw [fup_n (by decide), fup_s]
/-- the state ahead of the clock -/
def fDz (E : fE) (th : Bool) (x : fS) : fS := fBs E th E.bm.toNat 0 (fTw E E.dm.toNat 0 x.1, x.2)
theorem fDz_q {E : fE} {th : Bool} {x : fS} (hE : fWE E) (h : -2147000000 ≤ x.1 4 ∧ x.1 4 ≤ 2147000000) : (x.1 4 - (if x.1 0 ≤ 999 then 287712 else 0) ≤ (fDz E th x).1 4 ∧ (fDz E th x).1 4 ≤ x.1 4 + (if x.1 0 ≤ 999 then 287712 else 0)) ∧ (fDz E th x).1 0 = x.1 0 ∧ (fDz E th x).1 5 = x.1 5 := by
  have dm := hE.2.2.2.2.2.1
  have b := hE.2.2.2.2.1
  have e0 : fTw E E.dm.toNat 0 x.1 0 = x.1 0 := fTw_4 hE.2.2.2.2.2.2 (Or.inl rfl) E.dm.toNat 0 x.1 (by omega) (by omega)
  have e4 : fTw E E.dm.toNat 0 x.1 4 = x.1 4 := fTw_4 hE.2.2.2.2.2.2 (Or.inr (Or.inl rfl)) E.dm.toNat 0 x.1 (by omega) (by omega)
  have e5 : fTw E E.dm.toNat 0 x.1 5 = x.1 5 := fTw_4 hE.2.2.2.2.2.2 (Or.inr (Or.inr rfl)) E.dm.toNat 0 x.1 (by omega) (by omega)
  have bn := b.1
  have z : fQ (if fTw E E.dm.toNat 0 x.1 0 ≤ 999 then 18 * (E.bm.toNat : Int) else 0) (fTw E E.dm.toNat 0 x.1, x.2) (fDz E th x) := fQ_Bs (th := th) b.2 E.bm.toNat 0 (fTw E E.dm.toNat 0 x.1, x.2) (by omega) (by omega) (by show -2147480000 ≤ fTw E E.dm.toNat 0 x.1 4 - 17982 * (E.bm.toNat : Int); omega) (by show fTw E E.dm.toNat 0 x.1 4 + 17982 * (E.bm.toNat : Int) ≤ 2147480000; omega)
  obtain ⟨z1, z2⟩ := z
  have q0 : (fDz E th x).1 0 = fTw E E.dm.toNat 0 x.1 0 := z2 0 (Or.inl rfl)
  have q5 : (fDz E th x).1 5 = fTw E E.dm.toNat 0 x.1 5 := z2 5 (by omega)
  have q4 : fTw E E.dm.toNat 0 x.1 4 - 999 * (if fTw E E.dm.toNat 0 x.1 0 ≤ 999 then 18 * (E.bm.toNat : Int) else 0) ≤ (fDz E th x).1 4 ∧ (fDz E th x).1 4 ≤ fTw E E.dm.toNat 0 x.1 4 + 999 * (if fTw E E.dm.toNat 0 x.1 0 ≤ 999 then 18 * (E.bm.toNat : Int) else 0) := z1
  rw [e0, e4] at q4
  refine ⟨?_, q0.trans e0, q5.trans e5⟩
  by_cases c : x.1 0 ≤ 999
  · rw [if_pos c] at q4 ⊢; omega
  · rw [if_neg c] at q4 ⊢; omega
theorem fDy_4 {E : fE} {th : Bool} {x : fS} {B : Int} (hE : fWE E) (h : -B ≤ x.1 4 ∧ x.1 4 ≤ B) (hB : B ≤ 2147000000) : -(B + (if x.1 0 ≤ 999 then 287712 else 0)) ≤ (fDy E th x).1 4 ∧ (fDy E th x).1 4 ≤ B + (if x.1 0 ≤ 999 then 287712 else 0) := by
  have q := (fDz_q (th := th) hE (show -2147000000 ≤ x.1 4 ∧ x.1 4 ≤ 2147000000 by omega)).1
  have e : (fDy E th x).1 4 = (fCl th (fDz E th x)).1 4 := (show fup (fCl th (fDz E th x)).1 0 (zwp ((fCl th (fDz E th x)).1 0 + 1)) 4 = _ from fup_n (by decide))
  rw [e, fCl_r th _ (by decide), fC1_4]
  have f := fHeld_f ((fDz E th x).1 4) (-1440) 1440
  have m : fMi (fDz E th x).1 = fHeld ((fDz E th x).1 4) (-1440) 1440 := rfl
  have i : (0 : Int) ≤ (if x.1 0 ≤ 999 then 287712 else 0) ∧ (if x.1 0 ≤ 999 then 287712 else 0) ≤ (287712 : Int) := by split <;> omega
  rw [m, zwp_s (by omega)]
  omega
theorem fDy_0 {E : fE} {th : Bool} {x : fS} (hE : fWE E) (h : -2147000000 ≤ x.1 4 ∧ x.1 4 ≤ 2147000000) (d : -1000000 ≤ x.1 0 ∧ x.1 0 ≤ 1000000) : (fDy E th x).1 0 = x.1 0 + 1 := by
  have e : (fDy E th x).1 0 = zwp ((fCl th (fDz E th x)).1 0 + 1) := (show fup (fCl th (fDz E th x)).1 0 (zwp ((fCl th (fDz E th x)).1 0 + 1)) 0 = _ from fup_s _ _ _)
  rw [e, fCl_r th _ (by decide), fC1_0, (fDz_q hE h).2.1, zwp_s (by omega)]
theorem fDy_5 {E : fE} {th : Bool} {x : fS} (hE : fWE E) (h : -2147000000 ≤ x.1 4 ∧ x.1 4 ≤ 2147000000) : (fDy E th x).1 5 = zwp (x.1 5 + zss ((fDz E th x).1 3) (fMi (fDz E th x).1).toNat) := by
  have e : (fDy E th x).1 5 = (fCl th (fDz E th x)).1 5 := (show fup (fCl th (fDz E th x)).1 0 (zwp ((fCl th (fDz E th x)).1 0 + 1)) 5 = _ from fup_n (by decide))
  rw [e, fCl_r th _ (by decide), fC1_5, (fDz_q hE h).2.2]
