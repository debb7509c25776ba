/-! ===== copies, what can be undone, the image ===== -/
def zCw (k j : Int) : Prop := (k = 1 ∧ 3 ≤ j ∧ j ≤ 13) ∨ (2 ≤ k ∧ k ≤ 4 ∧ 0 ≤ j ∧ j < 18) ∨ (k = 5 ∧ j = 6) ∨ (6 ≤ k ∧ k ≤ 9 ∧ 0 ≤ j ∧ j < 16) ∨ (k = 10 ∧ 0 ≤ j ∧ j < 400) ∨ (k = 12 ∧ j = 3) ∨ (13 ≤ k ∧ k ≤ 15 ∧ 0 ≤ j ∧ j < 16) ∨ (k = 16 ∧ j = 3) ∨ (17 ≤ k ∧ k ≤ 19 ∧ 0 ≤ j ∧ j < 16) ∨ (k = 20 ∧ j = 1) ∨ (k = 21 ∧ 0 ≤ j ∧ j < 18) ∨ (k = 22 ∧ j = 4) ∨ (23 ≤ k ∧ k ≤ 26 ∧ 0 ≤ j ∧ j < 150)
theorem zRi_cp {h h' : zM} {p c : Int} {E : fE} {r : fR} (t : zRi h p E r) (f : ∀ j, 3 ≤ j → j ≤ 13 → h'.2 c j = h.2 p j) (g : ∀ k j, 1 ≤ k → k ≤ 3 → 0 ≤ j → j < 18 → h'.2 (c + k) j = h.2 (p + k) j) : zRi h' c E r := by
  obtain ⟨t1, t2, t3, t4, t5⟩ := t
  refine ⟨by rw [f 3 (by decide) (by decide)]; exact t1, fun i q => by rw [f 4 (by decide) (by decide)]; exact t2 i q, fun i q => by rw [f 5 (by decide) (by decide)]; exact t3 i q, ?_, fun i a b => ?_⟩
  · rw [f 6 (by decide) (by decide), f 7 (by decide) (by decide), f 8 (by decide) (by decide), f 9 (by decide) (by decide), f 10 (by decide) (by decide), f 11 (by decide) (by decide), f 12 (by decide) (by decide), f 13 (by decide) (by decide)]
    exact t4
  · rw [g 1 i (by decide) (by decide) a b, g 2 i (by decide) (by decide) a b, g 3 i (by decide) (by decide) a b]
    exact t5 i a b
theorem xC_cp {h h' : zM} {p c : Int} {E : fE} {th : Bool} {x : fS} (t : xC h p E th x) (e : ∀ k j, zCw k j → h'.2 (c + k) j = h.2 (p + k) j) : xC h' c E th x := by
  obtain ⟨t1, t2, t3, ⟨⟨a1, a2, a3⟩, ⟨b1, b2⟩, ⟨c1, c2⟩, ⟨d1, d2⟩⟩, t5⟩ := t
  have n := t1.2.2.2
  refine ⟨t1, t2, zRi_cp t3 (fun j a b => e 1 j (by unfold zCw; omega)) (fun k j a b a2 b2 => ?_), ⟨⟨?_, fun l p q => ?_, fun i p q => ?_⟩, ⟨?_, fun l p q => ?_⟩, ⟨?_, fun l p q => ?_⟩, ⟨?_, fun i p q => ?_⟩⟩, fun z => ?_⟩
  · have z := e (1 + k) j (by unfold zCw; omega)
    rw [show c + (1 + k) = c + 1 + k by omega, show p + (1 + k) = p + 1 + k by omega] at z; exact z
  · rw [e 5 6 (by unfold zCw; omega)]; exact a1
  · have := n.1.1
    rw [e 6 l (by unfold zCw; omega), e 7 l (by unfold zCw; omega), e 8 l (by unfold zCw; omega), e 9 l (by unfold zCw; omega)]; exact a2 l p q
  · have := n.1.2.1
    rw [e 10 i (by unfold zCw; omega)]; exact a3 i p q
  · rw [e 12 3 (by unfold zCw; omega)]; exact b1
  · have := n.2.1.1
    rw [e 13 l (by unfold zCw; omega), e 14 l (by unfold zCw; omega), e 15 l (by unfold zCw; omega)]; exact b2 l p q
  · rw [e 16 3 (by unfold zCw; omega)]; exact c1
  · have := n.2.2.1
    rw [e 17 l (by unfold zCw; omega), e 18 l (by unfold zCw; omega), e 19 l (by unfold zCw; omega)]; exact c2 l p q
  · rw [e 20 1 (by unfold zCw; omega)]; exact d1
  · rw [e 21 i (by unfold zCw; omega)]; exact d2 i p q
  · obtain ⟨k1, k2⟩ := t5 z
    refine ⟨by rw [e 22 4 (by unfold zCw; omega)]; exact k1, fun i p q => ?_⟩
    rw [e 23 i (by unfold zCw; omega), e 24 i (by unfold zCw; omega), e 25 i (by unfold zCw; omega), e 26 i (by unfold zCw; omega)]
    exact k2 i p q
/-- what can be undone: how many, and the rows -/
def xP (h : zM) (E : fE) (u : Int) (q : Int → fR) : Prop := (h.2 0 8 = u ∧ 0 ≤ u ∧ u ≤ 6) ∧ (∀ i j, 0 ≤ i → i < j → j < 6 → ¬ h.2 114 i = h.2 114 j) ∧ (∀ i, 0 ≤ i → i < u → fWx (q i) ∧ zRi h (h.2 114 i) E (q i) ∧ h.2 115 i = q i 2)
def fKu (u : Int) : Int := if u = 6 then 6 else u + 1
def fKq (u : Int) (q : Int → fR) (r : fR) : Int → fR := fun i => if u = 6 then (if i = 5 then r else q (i + 1)) else (if i = u then r else q i)
theorem xP_f {h h' : zM} {E : fE} {u : Int} {q : Int → fR} (s : okC h) (t : xP h E u q) (e8 : h'.2 0 8 = h.2 0 8) (e : ∀ a b, 114 ≤ a → a ≤ 139 → h'.2 a b = h.2 a b) : xP h' E u q := by
  obtain ⟨t1, t2, t3⟩ := t
  refine ⟨by rw [e8]; exact t1, fun i j a b c => by rw [e 114 i (by decide) (by decide), e 114 j (by decide) (by decide)]; exact t2 i j a b c, fun i a b => ?_⟩
  have p := zPast_b (s.2.2.1 i a (by omega))
  obtain ⟨y1, y2, y3⟩ := t3 i a b
  rw [e 114 i (by decide) (by decide), e 115 i (by decide) (by decide)]
  exact ⟨y1, zRi_f (fun a b z1 z2 => e a b (by omega) (by omega)) y2, y3⟩
theorem zRi_E {h : zM} {p : Int} {E E' : fE} {r : fR} (t : zRi h p E r) (hn : E'.n = E.n) (hw : ∀ i, 0 ≤ i → i < 18 → E'.wt i = E.wt i ∧ E'.lg i = E.lg i) : zRi h p E' r := by
  obtain ⟨t1, t2, t3, t4, t5⟩ := t
  refine ⟨by rw [hn]; exact t1, fun i q => by rw [hn]; exact t2 i q, fun i q => by rw [hn]; exact t3 i q, t4, fun i a b => ?_⟩
  rw [(hw i a b).1, (hw i a b).2]; exact t5 i a b
theorem xP_E {h : zM} {E E' : fE} {u : Int} {q : Int → fR} (t : xP h E u q) (hn : E'.n = E.n) (hw : ∀ i, 0 ≤ i → i < 18 → E'.wt i = E.wt i ∧ E'.lg i = E.lg i) : xP h E' u q :=
  ⟨t.1, t.2.1, fun i a b => ⟨(t.2.2 i a b).1, zRi_E (t.2.2 i a b).2.1 hn hw, (t.2.2 i a b).2.2⟩⟩
theorem xP_0 {h h' : zM} {E E' : fE} {u : Int} {q : Int → fR} (t : xP h E u q) (e8 : h'.2 0 8 = 0) (e : ∀ b, h'.2 114 b = h.2 114 b) : xP h' E' 0 q :=
  ⟨⟨e8, by decide, by decide⟩, fun i j a b c => by rw [e i, e j]; exact t.2.1 i j a b c, fun i a b => absurd b (by omega)⟩
theorem xP_push {h h1 h2 h3 : zM} {E : fE} {u x : Int} {q : Int → fR} {r : fR} (s : okC h) (t : xP h E u q) (u6 : u < 6) (wr : fWx r) (f : zfC (w_X1_copyFrom (h.2 114 u)) h h1) (cp : zRi h1 (h.2 114 u) E r) (e2 : h2 = zwr h1 115 u x) (hx : x = r 2) (e3 : h3 = zwr h2 0 8 (u + 1)) : xP h3 E (u + 1) (fun i => if i = u then r else q i) := by
  obtain ⟨⟨t0, t1, t2⟩, td, t3⟩ := t
  have P := s.2.2.1 u t1 u6
  have pb := zPast_b P
  have g : ∀ a b, ¬ a = 0 → ¬ a = 115 → h3.2 a b = h1.2 a b := fun a b z1 z2 => (zwr_r e3 (by first | decide | exact (absurd ·.1 (by decide)) | exact (absurd ·.2 (by decide)) | omega)).trans (zwr_r e2 (by first | decide | exact (absurd ·.1 (by decide)) | exact (absurd ·.2 (by decide)) | omega))
  have g1 : ∀ a b, a < 116 → h1.2 a b = h.2 a b := fun a b z => zfC_a f (fun w => by unfold w_X1_copyFrom at w; first | (revert w; decide) | omega)
  have g4 : ∀ i, h3.2 114 i = h.2 114 i := fun i => (g 114 i (by decide) (by decide)).trans (g1 114 i (by decide))
  have g5 : ∀ i, h3.2 115 i = if i = u then x else h.2 115 i := fun i => by
    rw [zwr_r (a := 115) (b := i) e3 (by omega), zwr_if e2 i, g1 115 i (by decide)]
  refine ⟨⟨zwr_v e3, by omega, by omega⟩, fun i j a b c => by rw [g4, g4]; exact td i j a b c, fun i a b => ?_⟩
  rw [g4, g5]
  show fWx (if i = u then r else q i) ∧ zRi h3 (h.2 114 i) E (if i = u then r else q i) ∧ (if i = u then x else h.2 115 i) = (if i = u then r else q i) 2
  by_cases y : i = u
  · rw [if_pos y, if_pos y, y]
    exact ⟨wr, zRi_f (fun a b z1 z2 => g a b (by omega) (by omega)) cp, hx⟩
  · rw [if_neg y, if_neg y]
    obtain ⟨y1, y2, y3⟩ := t3 i a (by omega)
    have Q := s.2.2.1 i a (by omega)
    have qb := zPast_b Q
    have sp := zIs_sep (zPast_Is Q) (zPast_Is P)
    have ne := td i u a (by omega) u6
    exact ⟨y1, zRi_f (fun a b z1 z2 => (g a b (by omega) (by omega)).trans (zfC_a f (fun w => by unfold w_X1_copyFrom at w; first | (revert w; decide) | omega))) y2, y3⟩
/-- the oldest goes -/
theorem xP_sh {h H h1 h2 : zM} {E : fE} {v : Int} {q : Int → fR} (s : okC h) (t : xP h E 6 q) (c4 : ∀ j, 0 ≤ j → j < 5 → H.2 114 j = h.2 114 (j + 1)) (c5 : ∀ j, 0 ≤ j → j < 5 → H.2 115 j = h.2 115 (j + 1)) (o : ∀ a b, 116 ≤ a → a ≤ 139 → H.2 a b = h.2 a b) (hv : v = h.2 114 0) (e1 : h1 = zwr H 114 5 v) (e2 : h2 = zwr h1 0 8 5) : xP h2 E 5 (fun i => q (i + 1)) := by
  obtain ⟨⟨t0, t1, t2⟩, td, t3⟩ := t
  have g : ∀ a b, ¬ a = 0 → ¬ a = 114 → h2.2 a b = H.2 a b := fun a b z1 z2 => (zwr_r e2 (by first | decide | exact (absurd ·.1 (by decide)) | exact (absurd ·.2 (by decide)) | omega)).trans (zwr_r e1 (by first | decide | exact (absurd ·.1 (by decide)) | exact (absurd ·.2 (by decide)) | omega))
  have g4 : ∀ j, h2.2 114 j = if j = 5 then v else H.2 114 j := fun j => by rw [zwr_r (a := 114) (b := j) e2 (by omega), zwr_if e1 j]
  refine ⟨⟨zwr_v e2, by decide, by decide⟩, fun i j a b c => ?_, fun i a b => ?_⟩
  · rw [g4, g4, if_neg (by omega), c4 i a (by omega)]
    by_cases y : j = 5
    · rw [if_pos y, hv]
      exact fun z => td 0 (i + 1) (by decide) (by omega) (by omega) z.symm
    · rw [if_neg y, c4 j (by omega) (by omega)]
      exact td (i + 1) (j + 1) (by omega) (by omega) (by omega)
  · obtain ⟨y1, y2, y3⟩ := t3 (i + 1) (by omega) (by omega)
    have pb := zPast_b (s.2.2.1 (i + 1) (by omega) (by omega))
    rw [g4, if_neg (by omega), c4 i a (by omega), g 115 i (by decide) (by decide), c5 i a (by omega)]
    exact ⟨y1, zRi_f (fun a b z1 z2 => (g a b (by omega) (by omega)).trans (o a b (by omega) (by omega))) y2, y3⟩
theorem fKq_6 {q : Int → fR} {r : fR} : fKq 6 q r = fun i => if i = 5 then r else q (i + 1) := by
  funext i
  unfold fKq
  rw [if_pos rfl]
theorem fKq_n {u : Int} {q : Int → fR} {r : fR} (h : ¬ u = 6) : fKq u q r = fun i => if i = u then r else q i := by
  funext i
  unfold fKq
  rw [if_neg h]
theorem fKu_n {u : Int} (h : ¬ u = 6) : fKu u = u + 1 := if_neg h
/-- the last is taken back -/
theorem xP_un {h h1 h2 h3 : zM} {E : fE} {u l : Int} {q : Int → fR} (s : okC h) (t : xP h E u q) (u1 : 1 ≤ u) (e1 : h1 = zwr h 0 8 (u - 1)) (f : zfC (w_X1_copyFrom 2) h1 h2) (e3 : h3 = zwr h2 23 4 l) : xP h3 E (u - 1) q := by
  obtain ⟨⟨t0, t1, t2⟩, td, t3⟩ := t
  have g : ∀ a b, 100 ≤ a → h3.2 a b = h.2 a b := fun a b z => (zwr_r e3 (by first | decide | exact (absurd ·.1 (by decide)) | exact (absurd ·.2 (by decide)) | omega)).trans ((zfC_a f (fun w => by unfold w_X1_copyFrom at w; first | (revert w; decide) | omega)).trans (zwr_r e1 (by first | decide | exact (absurd ·.1 (by decide)) | exact (absurd ·.2 (by decide)) | omega)))
  refine ⟨⟨?_, by omega, by omega⟩, fun i j a b c => by rw [g 114 i (by decide), g 114 j (by decide)]; exact td i j a b c, fun i a b => ?_⟩
  · rw [zwr_r e3 (by decide), zfC_a f (fun w => by unfold w_X1_copyFrom at w; first | (revert w; decide) | omega)]; exact zwr_v e1
  · obtain ⟨y1, y2, y3⟩ := t3 i a (by omega)
    have pb := zPast_b (s.2.2.1 i a (by omega))
    rw [g 114 i (by decide), g 115 i (by decide)]
    exact ⟨y1, zRi_f (fun a b z1 z2 => g a b (by omega)) y2, y3⟩
theorem xC_un {h h1 h2 h3 : zM} {E : fE} {u l : Int} {q : Int → fR} {x : fS} (s : okC h) (t : xP h E u q) (c : xC h 1 E false x) (u1 : 1 ≤ u) (e1 : h1 = zwr h 0 8 (u - 1)) (f : zfC (w_X1_copyFrom 2) h1 h2) (cp : ∀ E r, zRi h1 (h1.2 114 (u - 1)) E r → zRi h2 2 E r) (hl : l = h1.2 115 (u - 1)) (e3 : h3 = zwr h2 23 4 l) : xC h3 1 E false (q (u - 1), x.2) := by
  obtain ⟨y1, y2, y3⟩ := t.2.2 (u - 1) (by omega) (by omega)
  have tu := t.1.2.2
  have pb := zPast_b (s.2.2.1 (u - 1) (by omega) (by omega))
  have a1 : ∀ a b, ¬ a = 0 → h1.2 a b = h.2 a b := fun a b z => zwr_r e1 (by first | decide | exact (absurd ·.1 (by decide)) | exact (absurd ·.2 (by decide)) | omega)
  have z2 := cp E (q (u - 1)) (by rw [a1 114 _ (by decide)]; exact zRi_f (fun a b z1 z2 => a1 a b (by omega)) y2)
  have g3 : ∀ a b, ¬ a = 23 → h3.2 a b = h2.2 a b := fun a b z => zwr_r e3 (by first | decide | exact (absurd ·.1 (by decide)) | exact (absurd ·.2 (by decide)) | omega)
  have g2 : ∀ a b, 6 ≤ a → h2.2 a b = h.2 a b := fun a b z => (zfC_a f (fun w => by unfold w_X1_copyFrom at w; first | (revert w; decide) | omega)).trans (a1 a b (by omega))
  obtain ⟨c1, c2, c3, c4, c5⟩ := c
  obtain ⟨k1, k2⟩ := c5 rfl
  refine ⟨c1, y1, zRi_f (fun a b p q => g3 a b (by omega)) z2, zRE_f (fun a b p q s => (g3 a b (by omega)).trans (g2 a b (by omega))) c4, fun _ => ⟨?_, fun i p r => ?_⟩⟩
  · show h3.2 (1 + 22) 4 = q (u - 1) 2
    rw [show (1 : Int) + 22 = 23 by decide, zwr_v e3, hl, a1 115 _ (by decide)]; exact y3
  · have w := k2 i p r
    have gg : ∀ k j, 23 ≤ k → h3.2 (1 + k) j = h.2 (1 + k) j := fun k j z => (g3 _ _ (by omega)).trans (g2 _ _ (by omega))
    rw [gg 23 i (by decide), gg 24 i (by decide), gg 25 i (by decide), gg 26 i (by decide)]
    exact w
/-- all: told things, now, what can be undone, the image -/
abbrev fZ : Type := fE × fS × Int × (Int → fR) × Int × fE × fS
abbrev fZ.e (z : fZ) : fE := z.1
abbrev fZ.x (z : fZ) : fS := z.2.1
abbrev fZ.u (z : fZ) : Int := z.2.2.1
abbrev fZ.q (z : fZ) : Int → fR := z.2.2.2.1
abbrev fZ.g (z : fZ) : Int := z.2.2.2.2.1
abbrev fZ.f (z : fZ) : fE := z.2.2.2.2.2.1
abbrev fZ.y (z : fZ) : fS := z.2.2.2.2.2.2
def xK (h : zM) (z : fZ) : Prop := xC h 1 z.e false z.x ∧ xP h z.e z.u z.q ∧ h.2 0 9 = z.g ∧ (z.g = 1 → xC h 35 z.f false z.y)
/-- a call that leaves all that as it is -/
theorem xK_f {h h' : zM} {z : fZ} (s : okC h) (t : xK h z) (e8 : h'.2 0 8 = h.2 0 8) (e9 : h'.2 0 9 = h.2 0 9) (e1 : ∀ a b, zD 1 a b → h'.2 a b = h.2 a b) (e35 : ∀ a b, zD 35 a b → h'.2 a b = h.2 a b) (e : ∀ a b, 114 ≤ a → a ≤ 139 → h'.2 a b = h.2 a b) : xK h' z :=
  ⟨xC_f t.1 e1, xP_f s t.2.1 e8 e, e9.trans t.2.2.1, fun q => xC_f (t.2.2.2 q) e35⟩
theorem xLw_sep {c d : Int} (hc : zLw c) (hd : zLw d) : c = d ∨ 34 ≤ c - d ∨ 34 ≤ d - c := by unfold zLw at hc hd; omega
theorem xPl_sep {c d : Int} (hc : zPl c) (hd : zPl d) : c = d ∨ 4 ≤ c - d ∨ 4 ≤ d - c := by unfold zPl at hc hd; omega
theorem xKi_sep {c d : Int} (hc : zKi c) (hd : zKi d) : c = d ∨ 34 ≤ c - d ∨ 34 ≤ d - c := by unfold zKi at hc hd; omega
theorem xBo_sep {c d : Int} (hc : zBo c) (hd : zBo d) : c = d ∨ 34 ≤ c - d ∨ 34 ≤ d - c := by unfold zBo at hc hd; omega
def fZ0 (z : fZ) (E : fE) (x : fS) : fZ := (E, x, 0, z.q, z.g, z.f, z.y)
/-- one row kept, then the new state -/
def fZk (z : fZ) (x : fS) : fZ := (z.e, x, fKu z.u, fKq z.u z.q z.x.1, z.g, z.f, z.y)
def pState (p : Int) (z : fZ) : Int × fZ := (z.x.1 1, fZ0 z z.e (fup z.x.1 1 p, z.x.2))
def fEi (E : fE) (w l : Int) : fE := fEs (fEs (fEs E 0 (fun _ => E.n + 1)) 1 (fup E.wt E.n w)) 2 (fup E.lg E.n l)
def fRi (r : fR) (n : Int) : fR := fup (fup (fup r (9 + n) 0) (27 + n) 0) (45 + n) 0
abbrev gIsl (w l : Int) (z : fZ) : Prop := (1 ≤ w ∧ w ≤ 200) ∧ (0 ≤ l ∧ l ≤ 9) ∧ z.e.n < 18
def pIsl (w l : Int) (z : fZ) : Int × fZ := if gIsl w l z then (z.e.n, fZ0 z (fEi z.e w l) (fRi z.x.1 z.e.n, z.x.2)) else (-1, z)
abbrev gSet (p q v : Int) (z : fZ) : Prop := (p = 0 ∧ (0 ≤ q ∧ q < z.e.n) ∧ (1 ≤ v ∧ v ≤ 200)) ∨ (p = 1 ∧ (0 ≤ q ∧ q < z.e.n) ∧ (0 ≤ v ∧ v ≤ 9)) ∨ (p = 2 ∧ (0 ≤ v ∧ v ≤ 719)) ∨ (p = 3 ∧ (-9999 ≤ v ∧ v ≤ 9999)) ∨ (p = 4 ∧ (0 ≤ v ∧ v ≤ 9999))
def fSt1 (p q v : Int) (z : fZ) : fZ := if p = 0 then fZ0 z (fEs z.e 1 (fup z.e.wt q v)) z.x else if p = 1 then fZ0 z (fEs z.e 2 (fup z.e.lg q v)) z.x else if p = 2 then fZ0 z z.e (fup z.x.1 3 v, z.x.2) else if p = 3 then fZ0 z z.e (fup z.x.1 4 v, z.x.2) else fZ0 z z.e (fup z.x.1 8 v, z.x.2)
def pSet (p q v : Int) (z : fZ) : Int × fZ := if gSet p q v z then (1, fSt1 p q v z) else (0, z)
abbrev gAct (p q : Int) (z : fZ) : Prop := (0 ≤ q ∧ q < z.e.n) ∧ ((p = 0 ∧ z.x.1 (9 + q) = 0) ∨ (p = 1 ∧ ¬ z.x.1 (9 + q) = 0) ∨ (p = 2 ∧ ¬ z.x.1 (27 + q) = 1) ∨ (p = 3 ∧ z.x.1 (27 + q) = 1))
def fAc (p q : Int) (z : fZ) : fS := if p = 0 then fGo z.e false q z.x else if p = 1 then fBk z.e false q z.x else if p = 2 then (fup z.x.1 (27 + q) 1, z.x.2) else (fup z.x.1 (27 + q) 0, z.x.2)
def pAct (p q : Int) (z : fZ) : Int × fZ := if gAct p q z then (1, fZk z (fAc p q z)) else (0, z)
/-- days, one behind another -/
def fDs : Nat → fZ → fZ
  | 0, z => z
  | k + 1, z => fDs k (fZk z (fDy z.e false z.x))
abbrev gDays (n : Int) (z : fZ) : Prop := (1 ≤ n ∧ n ≤ 60) ∧ z.x.1 0 + n ≤ 9999
def pDays (n : Int) (z : fZ) : Int × fZ := if gDays n z then (zwp ((fDs n.toNat z).x.1 5 - z.x.1 5), fDs n.toNat z) else (-1, z)
def pUndo (z : fZ) : Int × fZ := if 0 < z.u then (1, (z.e, (z.q (z.u - 1), z.x.2), z.u - 1, z.q, z.g, z.f, z.y)) else (0, z)
def pImg (p : Int) (z : fZ) : Int × fZ := if ¬ p = 0 then (1, (z.e, z.x, z.u, z.q, 1, z.e, z.x)) else if z.g = 1 then (1, (z.f, z.y, 0, z.q, z.g, z.f, z.y)) else (0, z)
def vOf (i k : Int) (z : fZ) : Int := if 0 ≤ i ∧ i < z.e.n then (if k = 0 then z.e.wt i else if k = 1 then z.e.lg i else if k = 2 then (if z.x.1 (9 + i) = 0 then 1 else 0) else if k = 3 then z.x.1 (27 + i) else if k = 4 then z.x.1 (45 + i) else if k = 5 then fTl z.e z.x.1 0 i else if k = 6 then fTl z.e z.x.1 1 i else if k = 7 then fTl z.e z.x.1 2 i else if k = 8 then z.e.kn i else -1) else -1
def vBook (i k : Int) (z : fZ) : Int := if (0 ≤ i ∧ i ≤ z.x.1 2 - 1) ∧ (0 ≤ k ∧ k ≤ 3) then z.x.2 (4 * i + k) else -2
/-- days in thought -/
def fTd : Nat → fE → fS → fS
  | 0, _, x => x
  | k + 1, E, x => fTd k E (fDy E true x)
def vGoes (n k : Int) (z : fZ) : Int := if (1 ≤ n ∧ n ≤ 60) ∧ (0 ≤ k ∧ k ≤ 3) then (if k = 0 then (fTd n.toNat z.e z.x).1 3 else if k = 1 then fct (fHr (fTd n.toNat z.e z.x).1) z.e.n.toNat else if k = 2 then (fTd n.toNat z.e z.x).1 5 else (fTd n.toNat z.e z.x).1 8) else -1
def fLo (E : fE) : Nat → Int → fS → Int
  | 0, _, _ => -1
  | k + 1, n, x => if fct (fHr x.1) E.n.toNat = 0 then n else fLo E k (n + 1) (fDy E true x)
def vLon (z : fZ) : Int := fLo z.e 61 0 z.x
theorem fDs_s (k : Nat) : ∀ z : fZ, fDs (k + 1) z = fZk (fDs k z) (fDy (fDs k z).e false (fDs k z).x) := by
  induction k with
  | zero => intro z; rfl
  | succ k ih => intro z; show fDs (k + 1) (fZk z (fDy z.e false z.x)) = _; rw [ih]; rfl
theorem fDs_n {k : Int} (h : 0 ≤ k) (z : fZ) : fDs (k + 1).toNat z = fZk (fDs k.toNat z) (fDy (fDs k.toNat z).e false (fDs k.toNat z).x) := by
  rw [show (k + 1).toNat = k.toNat + 1 by omega]; exact fDs_s _ _
theorem fDs_e (k : Nat) : ∀ z : fZ, (fDs k z).e = z.e := by
  induction k with
  | zero => intro z; rfl
  | succ k ih => intro z; show (fDs k (fZk z _)).e = _; rw [ih]; rfl
theorem fTd_s (k : Nat) : ∀ (E : fE) (x : fS), fTd (k + 1) E x = fDy E true (fTd k E x) := by
  induction k with
  | zero => intro E x; rfl
  | succ k ih => intro E x; show fTd (k + 1) E (fDy E true x) = _; rw [ih]; rfl
theorem fTd_n {k : Int} (h : 0 ≤ k) (E : fE) (x : fS) : fTd (k + 1).toNat E x = fDy E true (fTd k.toNat E x) := by
  rw [show (k + 1).toNat = k.toNat + 1 by omega]; exact fTd_s _ _ _
theorem fLo_y {E : fE} {n : Int} {x : fS} (h : 0 ≤ n ∧ n ≤ 60) (c : fct (fHr x.1) E.n.toNat = 0) : fLo E (61 - n).toNat n x = n := by
  rw [show (61 - n).toNat = (60 - n).toNat + 1 by omega]
  show (if fct (fHr x.1) E.n.toNat = 0 then n else _) = n
  rw [if_pos c]
theorem fLo_n {E : fE} {n : Int} {x : fS} (h : 0 ≤ n ∧ n ≤ 60) (c : ¬ fct (fHr x.1) E.n.toNat = 0) : fLo E (61 - n).toNat n x = fLo E (61 - (n + 1)).toNat (n + 1) (fDy E true x) := by
  rw [show (61 - n).toNat = (61 - (n + 1)).toNat + 1 by omega]
  show (if fct (fHr x.1) E.n.toNat = 0 then n else _) = _
  rw [if_neg c]
theorem fLo_e {E : fE} {n : Int} {x : fS} (h : 61 ≤ n) : fLo E (61 - n).toNat n x = -1 := by rw [show (61 - n).toNat = 0 by omega]; rfl
theorem fct_all {p : Nat → Bool} : ∀ {n : Nat}, fct p n = 0 → ∀ i, i < n → p i = false
  | 0, _, i, q => absurd q (Nat.not_lt_zero _)
  | n + 1, h, i, q => by
    have e : fct p n + (if p n then 1 else 0) = 0 := h
    have b := fct_b p n
    by_cases y : i = n
    · rw [y]
      cases k : p n with
      | false => rfl
      | true => rw [k, if_pos rfl] at e; omega
    · refine fct_all (p := p) (n := n) ?_ i (by omega)
      have : (0 : Int) ≤ (if p n then 1 else 0) := by split <;> decide
      omega
/-- no one is here: no bit -/
theorem xC_h0 {h : zM} {w : Int} {E : fE} {th : Bool} {x : fS} (t : xC h w E th x) (b : -2147483648 ≤ h.2 (w + 1) 4 ∧ h.2 (w + 1) 4 ≤ 2147483647) : h.2 (w + 1) 4 = 0 ↔ fct (fHr x.1) E.n.toNat = 0 := by
  have n18 := t.1.1
  have z := t.2.2.1.2.1
  constructor
  · intro e
    rw [e] at z
    rw [← fct_x (p := fgb 0) E.n.toNat (fun i a => by rw [z i (by omega), decide_eq_true (show (i : Int) < E.n by omega), Bool.true_and]; rfl)]
    have : ∀ n : Nat, fct (fgb 0) n = 0 := fun n => by
      induction n with
      | zero => rfl
      | succ n ih => show fct (fgb 0) n + (if fgb 0 n then 1 else 0) = 0; rw [ih, fgb_0]; simp
    exact this _
  · intro e
    refine fgb_x b (by decide) (fun i q => ?_)
    rw [z i q, fgb_0]
    by_cases y : (i : Int) < E.n
    · rw [decide_eq_true y, Bool.true_and]
      exact fct_all e i (by omega)
    · rw [decide_eq_false y]; rfl
/-! ===== told things anew: one more, a weight, a longing ===== -/
theorem fEi_wt (E : fE) (w l i : Int) : (fEi E w l).wt i = fup E.wt E.n w i := rfl
theorem fEi_lg (E : fE) (w l i : Int) : (fEi E w l).lg i = fup E.lg E.n l i := rfl
theorem fup_b {r : fR} {k v i lo hi : Int} (h : lo ≤ r i ∧ r i ≤ hi) (hv : lo ≤ v ∧ v ≤ hi) : lo ≤ fup r k v i ∧ fup r k v i ≤ hi := by
  unfold fup
  split
  · exact hv
  · exact h
theorem fWE_i {E : fE} {w l : Int} (h : fWE E) (n : E.n < 18) (hw : 1 ≤ w ∧ w ≤ 200) (hl : 0 ≤ l ∧ l ≤ 9) : fWE (fEi E w l) := by
  obtain ⟨a1, a2, a3, a4, a5, a6, a7⟩ := h
  refine ⟨?_, fun i p q => ?_, fun i p q => ⟨(a3 i p q).1, fun k z => ?_⟩, a4, a5, a6, fun i p q => ?_⟩
  · show 0 ≤ E.n + 1 ∧ E.n + 1 ≤ 18; omega
  · rw [fEi_wt, fEi_lg]
    exact ⟨fup_b (a2 i p q).1 (by omega), fup_b (a2 i p q).2 hl⟩
  · have z1 : E.n + 1 ≤ (k : Int) := z
    exact (a3 i p q).2 k (by omega)
  · obtain ⟨b1, b2, b3, b4⟩ := a7 i p q
    exact ⟨b1, b2, fun z => by have := b3 z; show E.dn i < E.n + 1; omega, b4⟩
theorem fWE_w {E : fE} {q v : Int} (h : fWE E) (hv : 1 ≤ v ∧ v ≤ 200) : fWE (fEs E 1 (fup E.wt q v)) := by
  obtain ⟨a1, a2, a3, a4, a5, a6, a7⟩ := h
  exact ⟨a1, fun i p q => ⟨fup_b (a2 i p q).1 (by omega), (a2 i p q).2⟩, a3, a4, a5, a6, a7⟩
theorem fWE_l {E : fE} {q v : Int} (h : fWE E) (hv : 0 ≤ v ∧ v ≤ 9) : fWE (fEs E 2 (fup E.lg q v)) := by
  obtain ⟨a1, a2, a3, a4, a5, a6, a7⟩ := h
  exact ⟨a1, fun i p q => ⟨(a2 i p q).1, fup_b (a2 i p q).2 hv⟩, a3, a4, a5, a6, a7⟩
theorem fRi_f (r : fR) (n i : Int) : (i = 9 + n → fRi r n i = 0) ∧ (i = 27 + n → fRi r n i = 0) ∧ (i = 45 + n → fRi r n i = 0) ∧ (¬ i = 9 + n → ¬ i = 27 + n → ¬ i = 45 + n → fRi r n i = r i) := by
  unfold fRi
  refine ⟨fun e => ?_, fun e => ?_, fun e => ?_, fun e1 e2 e3 => ?_⟩
  · rw [fup_n (by omega), fup_n (by omega), e, fup_s]
  · rw [fup_n (by omega), e, fup_s]
  · rw [e, fup_s]
  · rw [fup_n e3, fup_n e2, fup_n e1]
theorem fWx_i {r : fR} {n : Int} (h : fWx r) (hn : 0 ≤ n ∧ n < 18) : fWx (fRi r n) := by
  unfold fRi
  exact fWx_u (fWx_u (fWx_u h (by omega) (by omega) (by omega) (by omega)) (by omega) (by omega) (by omega) (by omega)) (by omega) (by omega) (by omega) (by omega)
theorem xC_is {h m1 m2 m3 m4 m5 : zM} {w p1 p2 v4 : Int} {E : fE} {th : Bool} {x : fS} (t : xC h w E th x) (n18 : E.n < 18) (hw : 1 ≤ p1 ∧ p1 ≤ 200) (hl : 0 ≤ p2 ∧ p2 ≤ 9) (e1 : m1 = zwr h (w + 2) E.n p1) (e2 : m2 = zwr m1 (w + 3) E.n p2) (e3 : m3 = zwr m2 (w + 4) E.n 0) (e4 : m4 = zwr m3 (w + 1) 4 v4) (hv : v4 = zor (h.2 (w + 1) 4) (zshl 1 E.n)) (e5 : m5 = zwr m4 (w + 1) 3 (E.n + 1)) : xC m5 w (fEi E p1 p2) th (fRi x.1 E.n, x.2) := by
  obtain ⟨t1, t2, ⟨i1, i2, i3, i4, i5⟩, t4, t5⟩ := t
  have n0 := t1.1
  have o : ∀ a b, ¬ (a = w + 1) → ¬ (a = w + 2) → ¬ (a = w + 3) → ¬ (a = w + 4) → m5.2 a b = h.2 a b := fun a b z1 z2 z3 z4 => (zwr_r e5 (by first | decide | exact (absurd ·.1 (by decide)) | exact (absurd ·.2 (by decide)) | omega)).trans ((zwr_r e4 (by first | decide | exact (absurd ·.1 (by decide)) | exact (absurd ·.2 (by decide)) | omega)).trans ((zwr_r e3 (by first | decide | exact (absurd ·.1 (by decide)) | exact (absurd ·.2 (by decide)) | omega)).trans ((zwr_r e2 (by first | decide | exact (absurd ·.1 (by decide)) | exact (absurd ·.2 (by decide)) | omega)).trans (zwr_r e1 (by first | decide | exact (absurd ·.1 (by decide)) | exact (absurd ·.2 (by decide)) | omega)))))
  have f : ∀ b, ¬ b = 3 → ¬ b = 4 → m5.2 (w + 1) b = h.2 (w + 1) b := fun b z1 z2 => (zwr_r e5 (by first | decide | exact (absurd ·.1 (by decide)) | exact (absurd ·.2 (by decide)) | omega)).trans ((zwr_r e4 (by first | decide | exact (absurd ·.1 (by decide)) | exact (absurd ·.2 (by decide)) | omega)).trans ((zwr_r e3 (by first | decide | exact (absurd ·.1 (by decide)) | exact (absurd ·.2 (by decide)) | omega)).trans ((zwr_r e2 (by first | decide | exact (absurd ·.1 (by decide)) | exact (absurd ·.2 (by decide)) | omega)).trans (zwr_r e1 (by first | decide | exact (absurd ·.1 (by decide)) | exact (absurd ·.2 (by decide)) | omega)))))
  have f4 : m5.2 (w + 1) 4 = v4 := (zwr_r e5 (by first | decide | exact (absurd ·.1 (by decide)) | exact (absurd ·.2 (by decide)) | omega)).trans (zwr_v e4)
  have r1 : ∀ i, m5.2 (w + 2) i = if i = E.n then p1 else h.2 (w + 2) i := fun i => ((zwr_r e5 (by first | decide | exact (absurd ·.1 (by decide)) | exact (absurd ·.2 (by decide)) | omega)).trans ((zwr_r e4 (by first | decide | exact (absurd ·.1 (by decide)) | exact (absurd ·.2 (by decide)) | omega)).trans ((zwr_r e3 (by first | decide | exact (absurd ·.1 (by decide)) | exact (absurd ·.2 (by decide)) | omega)).trans (zwr_r e2 (by first | decide | exact (absurd ·.1 (by decide)) | exact (absurd ·.2 (by decide)) | omega))))).trans (zwr_if e1 i)
  have r2 : ∀ i, m5.2 (w + 3) i = if i = E.n then p2 else h.2 (w + 3) i := fun i => by
    rw [zwr_r (a := w + 3) (b := i) e5 (by omega), zwr_r (a := w + 3) (b := i) e4 (by omega), zwr_r (a := w + 3) (b := i) e3 (by omega), zwr_if e2 i, zwr_r (a := w + 3) (b := i) e1 (by omega)]
  have r3 : ∀ i, m5.2 (w + 4) i = if i = E.n then 0 else h.2 (w + 4) i := fun i => by
    rw [zwr_r (a := w + 4) (b := i) e5 (by omega), zwr_r (a := w + 4) (b := i) e4 (by omega), zwr_if e3 i, zwr_r (a := w + 4) (b := i) e2 (by omega), zwr_r (a := w + 4) (b := i) e1 (by omega)]
  refine ⟨fWE_i t1 n18 hw hl, fWx_i t2 (by omega), ⟨zwr_v e5, fun i q => ?_, fun i q => ?_, ?_, fun i a b => ?_⟩, ?_, fun z => ?_⟩
  · rw [f4, hv, fgb_set _ (by omega) i, i2 i q]
    show _ = (decide ((i : Int) < E.n + 1) && decide (fRi x.1 E.n (9 + (i : Int)) = 0))
    have g := fRi_f x.1 E.n (9 + (i : Int))
    by_cases y : (i : Int) = E.n
    · rw [decide_eq_true (show i = E.n.toNat by omega), decide_eq_true (show (i : Int) < E.n + 1 by omega), decide_eq_true (g.1 (by omega))]; simp
    · rw [decide_eq_false (show ¬ i = E.n.toNat by omega)]
      by_cases z : (i : Int) < E.n
      · rw [decide_eq_true z, decide_eq_true (show (i : Int) < E.n + 1 by omega), g.2.2.2 (by omega) (by omega) (by omega)]; simp
      · rw [decide_eq_false z, decide_eq_false (show ¬ (i : Int) < E.n + 1 by omega)]; simp
  · rw [f 5 (by decide) (by decide), i3 i q]
    show _ = (decide ((i : Int) < E.n + 1) && decide (fRi x.1 E.n (27 + (i : Int)) = 1))
    have g := fRi_f x.1 E.n (27 + (i : Int))
    by_cases y : (i : Int) = E.n
    · rw [decide_eq_false (show ¬ (i : Int) < E.n by omega), g.2.1 (by omega)]; simp
    · by_cases z : (i : Int) < E.n
      · rw [decide_eq_true z, decide_eq_true (show (i : Int) < E.n + 1 by omega), g.2.2.2 (by omega) (by omega) (by omega)]
      · rw [decide_eq_false z, decide_eq_false (show ¬ (i : Int) < E.n + 1 by omega)]; simp
  · have g : ∀ k, 0 ≤ k → k ≤ 8 → fRi x.1 E.n k = x.1 k := fun k a b => (fRi_f x.1 E.n k).2.2.2 (by omega) (by omega) (by omega)
    show m5.2 (w + 1) 6 = fRi x.1 E.n 3 ∧ m5.2 (w + 1) 7 = fRi x.1 E.n 4 ∧ m5.2 (w + 1) 8 = fRi x.1 E.n 5 ∧ m5.2 (w + 1) 9 = fRi x.1 E.n 6 ∧ m5.2 (w + 1) 10 = 1 - fRi x.1 E.n 7 ∧ m5.2 (w + 1) 11 = fRi x.1 E.n 8 ∧ m5.2 (w + 1) 12 = fRi x.1 E.n 0 ∧ m5.2 (w + 1) 13 = fRi x.1 E.n 1
    rw [f 6 (by decide) (by decide), f 7 (by decide) (by decide), f 8 (by decide) (by decide), f 9 (by decide) (by decide), f 10 (by decide) (by decide), f 11 (by decide) (by decide), f 12 (by decide) (by decide), f 13 (by decide) (by decide), g 3 (by decide) (by decide), g 4 (by decide) (by decide), g 5 (by decide) (by decide), g 6 (by decide) (by decide), g 7 (by decide) (by decide), g 8 (by decide) (by decide), g 0 (by decide) (by decide), g 1 (by decide) (by decide)]
    exact i4
  · obtain ⟨s1, s2, s3⟩ := i5 i a b
    rw [show w + 1 + 1 = w + 2 by omega] at s1
    rw [show w + 1 + 2 = w + 3 by omega] at s2
    rw [show w + 1 + 3 = w + 4 by omega] at s3
    show m5.2 (w + 1 + 1) i = fup E.wt E.n p1 i ∧ m5.2 (w + 1 + 2) i = fup E.lg E.n p2 i ∧ m5.2 (w + 1 + 3) i = fRi x.1 E.n (45 + i)
    have g := fRi_f x.1 E.n (45 + i)
    rw [show w + 1 + 1 = w + 2 by omega, show w + 1 + 2 = w + 3 by omega, show w + 1 + 3 = w + 4 by omega, r1, r2, r3]
    unfold fup
    by_cases y : i = E.n
    · rw [if_pos y, if_pos y, if_pos y, if_pos y, if_pos y, g.2.2.1 (by omega)]; exact ⟨rfl, rfl, rfl⟩
    · rw [if_neg y, if_neg y, if_neg y, if_neg y, if_neg y, s1, s2, s3, g.2.2.2 (by omega) (by omega) (by omega)]; exact ⟨rfl, rfl, rfl⟩
  · exact zRE_f (fun a b p q s => o a b (by omega) (by omega) (by omega) (by omega)) t4
  · have k := zBk_f (fun a b p q => o a b (by omega) (by omega) (by omega) (by omega)) (t5 z)
    exact ⟨k.1.trans ((fRi_f x.1 E.n 2).2.2.2 (by omega) (by omega) (by omega)).symm, k.2⟩
theorem xC_wt {h h' : zM} {w o v : Int} {E : fE} {th : Bool} {x : fS} (t : xC h w E th x) (e : h' = zwr h (w + 2) o v) (hv : 1 ≤ v ∧ v ≤ 200) : xC h' w (fEs E 1 (fup E.wt o v)) th x := by
  obtain ⟨t1, t2, ⟨i1, i2, i3, i4, i5⟩, t4, t5⟩ := t
  have f : ∀ a b, ¬ a = w + 2 → h'.2 a b = h.2 a b := fun a b z => zwr_r e (fun q => z q.1)
  refine ⟨fWE_w t1 hv, t2, ⟨?_, fun i q => ?_, fun i q => ?_, ?_, fun i a b => ?_⟩, zRE_f (fun a b p q s => f a b (by omega)) t4, fun z => zBk_f (fun a b p q => f a b (by omega)) (t5 z)⟩
  · rw [f _ _ (by omega)]; exact i1
  · rw [f _ _ (by omega)]; exact i2 i q
  · rw [f _ _ (by omega)]; exact i3 i q
  · rw [f _ _ (by omega), f _ _ (by omega), f _ _ (by omega), f _ _ (by omega), f _ _ (by omega), f _ _ (by omega), f _ _ (by omega), f _ _ (by omega)]; exact i4
  · obtain ⟨s1, s2, s3⟩ := i5 i a b
    rw [f (w + 1 + 2) i (by omega), f (w + 1 + 3) i (by omega)]
    refine ⟨?_, s2, s3⟩
    show h'.2 (w + 1 + 1) i = fup E.wt o v i
    rw [show w + 1 + 1 = w + 2 by omega] at s1 ⊢
    rw [zwr_if e i, s1]; rfl
theorem xC_lg {h h' : zM} {w o v : Int} {E : fE} {th : Bool} {x : fS} (t : xC h w E th x) (e : h' = zwr h (w + 3) o v) (hv : 0 ≤ v ∧ v ≤ 9) : xC h' w (fEs E 2 (fup E.lg o v)) th x := by
  obtain ⟨t1, t2, ⟨i1, i2, i3, i4, i5⟩, t4, t5⟩ := t
  have f : ∀ a b, ¬ a = w + 3 → h'.2 a b = h.2 a b := fun a b z => zwr_r e (fun q => z q.1)
  refine ⟨fWE_l t1 hv, t2, ⟨?_, fun i q => ?_, fun i q => ?_, ?_, fun i a b => ?_⟩, zRE_f (fun a b p q s => f a b (by omega)) t4, fun z => zBk_f (fun a b p q => f a b (by omega)) (t5 z)⟩
  · rw [f _ _ (by omega)]; exact i1
  · rw [f _ _ (by omega)]; exact i2 i q
  · rw [f _ _ (by omega)]; exact i3 i q
  · rw [f _ _ (by omega), f _ _ (by omega), f _ _ (by omega), f _ _ (by omega), f _ _ (by omega), f _ _ (by omega), f _ _ (by omega), f _ _ (by omega)]; exact i4
  · obtain ⟨s1, s2, s3⟩ := i5 i a b
    rw [f (w + 1 + 1) i (by omega), f (w + 1 + 3) i (by omega)]
    refine ⟨s1, ?_, s3⟩
    show h'.2 (w + 1 + 2) i = fup E.lg o v i
    rw [show w + 1 + 2 = w + 3 by omega] at s2 ⊢
    rw [zwr_if e i, s2]; rfl
theorem xK_0 {h h' : zM} {z : fZ} {E : fE} {x : fS} (t : xK h z) (c : xC h' 1 E false x) (e8 : h'.2 0 8 = 0) (e9 : h'.2 0 9 = h.2 0 9) (e35 : ∀ a b, zD 35 a b → h'.2 a b = h.2 a b) (e : ∀ b, h'.2 114 b = h.2 114 b) : xK h' (fZ0 z E x) :=
  ⟨c, xP_0 t.2.1 e8 e, e9.trans t.2.2.1, fun q => xC_f (t.2.2.2 q) e35⟩
theorem xK_k {h h1 h' : zM} {z : fZ} {x : fS} (s1 : okC h1) (t : xK h z) (p : xP h1 z.e (fKu z.u) (fKq z.u z.q z.x.1)) (c : xC h' 1 z.e false x) (e8 : h'.2 0 8 = h1.2 0 8) (e9 : h'.2 0 9 = h.2 0 9) (e35 : ∀ a b, zD 35 a b → h'.2 a b = h.2 a b) (e : ∀ a b, 114 ≤ a → a ≤ 139 → h'.2 a b = h1.2 a b) : xK h' (fZk z x) :=
  ⟨c, xP_f s1 p e8 e, e9.trans t.2.2.1, fun q => xC_f (t.2.2.2 q) e35⟩
/-! ===== the same, by cells' numbers ===== -/
theorem xK_g {h : zM} {z : fZ} (t : xK h z) : h.2 2 3 = z.e.n ∧ h.2 2 6 = z.x.1 3 ∧ h.2 2 7 = z.x.1 4 ∧ h.2 2 8 = z.x.1 5 ∧ h.2 2 9 = z.x.1 6 ∧ h.2 2 10 = 1 - z.x.1 7 ∧ h.2 2 11 = z.x.1 8 ∧ h.2 2 12 = z.x.1 0 ∧ h.2 2 13 = z.x.1 1 := xC_g t.1
theorem xK_n {h : zM} {z : fZ} (t : xK h z) : 0 ≤ z.e.n ∧ z.e.n ≤ 18 := t.1.1.1
theorem xK_he {h : zM} {z : fZ} {i : Int} (t : xK h z) (hi : 0 ≤ i ∧ i < z.e.n) (b : -2147483648 ≤ h.2 2 4 ∧ h.2 2 4 ≤ 2147483647) : zand (zshr (h.2 2 4) i) 1 = 1 ↔ z.x.1 (9 + i) = 0 := by
  rw [show (2 : Int) = 1 + 1 by decide] at b ⊢
  exact xC_he t.1 hi b
theorem xK_be {h : zM} {z : fZ} {i : Int} (t : xK h z) (hi : 0 ≤ i ∧ i < z.e.n) (b : -2147483648 ≤ h.2 2 5 ∧ h.2 2 5 ≤ 2147483647) : zand (zshr (h.2 2 5) i) 1 = 1 ↔ z.x.1 (27 + i) = 1 := by
  rw [show (2 : Int) = 1 + 1 by decide] at b ⊢
  exact xC_be t.1 hi b
theorem xK_i {h : zM} {z : fZ} {i : Int} (t : xK h z) (a : 0 ≤ i) (b : i < 18) : h.2 3 i = z.e.wt i ∧ h.2 4 i = z.e.lg i ∧ h.2 5 i = z.x.1 (45 + i) := xC_i t.1 a b
theorem xK_m {h : zM} {z : fZ} (t : xK h z) : h.2 6 6 = z.e.lm ∧ h.2 13 3 = z.e.bm ∧ h.2 17 3 = z.e.dm ∧ h.2 21 1 = z.e.km := xC_m t.1
theorem xK_kn {h : zM} {z : fZ} {i : Int} (t : xK h z) (a : 0 ≤ i) (b : i < 18) : h.2 22 i = z.e.kn i := t.1.2.2.2.1.2.2.2.2 i a b
theorem xK_bk {h : zM} {z : fZ} (t : xK h z) : h.2 23 4 = z.x.1 2 ∧ (∀ i, 0 ≤ i → i < 150 → h.2 24 i = z.x.2 (4 * i) ∧ h.2 25 i = z.x.2 (4 * i + 1) ∧ h.2 26 i = z.x.2 (4 * i + 2) ∧ h.2 27 i = z.x.2 (4 * i + 3)) := t.1.2.2.2.2 rfl
theorem xK_u {h : zM} {z : fZ} (t : xK h z) : h.2 0 8 = z.u ∧ 0 ≤ z.u ∧ z.u ≤ 6 := t.2.1.1
theorem xC_th {h : zM} {w : Int} {E : fE} {x : fS} (t : xC h w E false x) : xC h w E true x := ⟨t.1, t.2.1, t.2.2.1, t.2.2.2.1, fun z => absurd z (by decide)⟩
theorem xC_g9 {h : zM} {E : fE} {th : Bool} {x : fS} (t : xC h 69 E th x) : h.2 70 3 = E.n ∧ h.2 70 6 = x.1 3 ∧ h.2 70 8 = x.1 5 ∧ h.2 70 11 = x.1 8 := ⟨(xC_g t).1, (xC_g t).2.1, (xC_g t).2.2.2.1, (xC_g t).2.2.2.2.2.2.1⟩
theorem xC_ct9 {h : zM} {E : fE} {th : Bool} {x : fS} (t : xC h 69 E th x) (b : -2147483648 ≤ h.2 70 4 ∧ h.2 70 4 ≤ 2147483647) : zbcF (h.2 70 4) = fct (fHr x.1) E.n.toNat := by
  rw [show (70 : Int) = 69 + 1 by decide] at b ⊢
  exact xC_ct t b
theorem xC_h9 {h : zM} {E : fE} {th : Bool} {x : fS} (t : xC h 69 E th x) (b : -2147483648 ≤ h.2 70 4 ∧ h.2 70 4 ≤ 2147483647) : h.2 70 4 = 0 ↔ fct (fHr x.1) E.n.toNat = 0 := by
  rw [show (70 : Int) = 69 + 1 by decide] at b ⊢
  exact xC_h0 t b
def fWz (z : fZ) : Prop := (0 ≤ z.x.1 0 ∧ z.x.1 0 ≤ 9999) ∧ (-2000000000 ≤ z.x.1 4 ∧ z.x.1 4 ≤ 2000000000)
def vLook (k : Int) (z : fZ) : Int := if k = 0 then z.e.n else if k = 2 then z.x.1 3 else if k = 3 then z.x.1 4 else if k = 4 then z.x.1 5 else if k = 5 then z.x.1 6 else if k = 6 then 1 - z.x.1 7 else if k = 7 then z.x.1 8 else if k = 8 then z.x.1 0 else if k = 9 then z.x.1 2 else if k = 10 then z.x.1 1 else if k = 11 then z.e.lm else if k = 12 then z.e.bm else if k = 13 then z.e.dm else if k = 14 then z.e.km else if k = 15 then z.u else -100000
theorem vLook_f (k : Int) (z : fZ) : (k = 0 → vLook k z = z.e.n) ∧ (k = 2 → vLook k z = z.x.1 3) ∧ (k = 3 → vLook k z = z.x.1 4) ∧ (k = 4 → vLook k z = z.x.1 5) ∧ (k = 5 → vLook k z = z.x.1 6) ∧ (k = 6 → vLook k z = 1 - z.x.1 7) ∧ (k = 7 → vLook k z = z.x.1 8) ∧ (k = 8 → vLook k z = z.x.1 0) ∧ (k = 9 → vLook k z = z.x.1 2) ∧ (k = 10 → vLook k z = z.x.1 1) ∧ (k = 11 → vLook k z = z.e.lm) ∧ (k = 12 → vLook k z = z.e.bm) ∧ (k = 13 → vLook k z = z.e.dm) ∧ (k = 14 → vLook k z = z.e.km) ∧ (k = 15 → vLook k z = z.u) ∧ ((k < 0 ∨ 15 < k) → vLook k z = -100000) := by
  unfold vLook
  refine ⟨fun e => ?_, fun e => ?_, fun e => ?_, fun e => ?_, fun e => ?_, fun e => ?_, fun e => ?_, fun e => ?_, fun e => ?_, fun e => ?_, fun e => ?_, fun e => ?_, fun e => ?_, fun e => ?_, fun e => ?_, fun e => ?_⟩
  · rw [if_pos e]
  · rw [if_neg (by omega), if_pos e]
  · rw [if_neg (by omega), if_neg (by omega), if_pos e]
  · rw [if_neg (by omega), if_neg (by omega), if_neg (by omega), if_pos e]
  · rw [if_neg (by omega), if_neg (by omega), if_neg (by omega), if_neg (by omega), if_pos e]
  · rw [if_neg (by omega), if_neg (by omega), if_neg (by omega), if_neg (by omega), if_neg (by omega), if_pos e]
  · rw [if_neg (by omega), if_neg (by omega), if_neg (by omega), if_neg (by omega), if_neg (by omega), if_neg (by omega), if_pos e]
  · rw [if_neg (by omega), if_neg (by omega), if_neg (by omega), if_neg (by omega), if_neg (by omega), if_neg (by omega), if_neg (by omega), if_pos e]
  · rw [if_neg (by omega), if_neg (by omega), if_neg (by omega), if_neg (by omega), if_neg (by omega), if_neg (by omega), if_neg (by omega), if_neg (by omega), if_pos e]
  · rw [if_neg (by omega), if_neg (by omega), if_neg (by omega), if_neg (by omega), if_neg (by omega), if_neg (by omega), if_neg (by omega), if_neg (by omega), if_neg (by omega), if_pos e]
  · rw [if_neg (by omega), if_neg (by omega), if_neg (by omega), if_neg (by omega), if_neg (by omega), if_neg (by omega), if_neg (by omega), if_neg (by omega), if_neg (by omega), if_neg (by omega), if_pos e]
  · rw [if_neg (by omega), if_neg (by omega), if_neg (by omega), if_neg (by omega), if_neg (by omega), if_neg (by omega), if_neg (by omega), if_neg (by omega), if_neg (by omega), if_neg (by omega), if_neg (by omega), if_pos e]
  · rw [if_neg (by omega), if_neg (by omega), if_neg (by omega), if_neg (by omega), if_neg (by omega), if_neg (by omega), if_neg (by omega), if_neg (by omega), if_neg (by omega), if_neg (by omega), if_neg (by omega), if_neg (by omega), if_pos e]
  · rw [if_neg (by omega), if_neg (by omega), if_neg (by omega), if_neg (by omega), if_neg (by omega), if_neg (by omega), if_neg (by omega), if_neg (by omega), if_neg (by omega), if_neg (by omega), if_neg (by omega), if_neg (by omega), if_neg (by omega), if_pos e]
  · rw [if_neg (by omega), if_neg (by omega), if_neg (by omega), if_neg (by omega), if_neg (by omega), if_neg (by omega), if_neg (by omega), if_neg (by omega), if_neg (by omega), if_neg (by omega), if_neg (by omega), if_neg (by omega), if_neg (by omega), if_neg (by omega), if_pos e]
  · rw [if_neg (by omega), if_neg (by omega), if_neg (by omega), if_neg (by omega), if_neg (by omega), if_neg (by omega), if_neg (by omega), if_neg (by omega), if_neg (by omega), if_neg (by omega), if_neg (by omega), if_neg (by omega), if_neg (by omega), if_neg (by omega), if_neg (by omega)]
theorem vOf_f (i k : Int) (z : fZ) : (¬ (0 ≤ i ∧ i < z.e.n) → vOf i k z = -1) ∧ ((0 ≤ i ∧ i < z.e.n) → (k = 0 → vOf i k z = z.e.wt i) ∧ (k = 1 → vOf i k z = z.e.lg i) ∧ (k = 2 → vOf i k z = if z.x.1 (9 + i) = 0 then 1 else 0) ∧ (k = 3 → vOf i k z = z.x.1 (27 + i)) ∧ (k = 4 → vOf i k z = z.x.1 (45 + i)) ∧ (k = 5 → vOf i k z = fTl z.e z.x.1 0 i) ∧ (k = 6 → vOf i k z = fTl z.e z.x.1 1 i) ∧ (k = 7 → vOf i k z = fTl z.e z.x.1 2 i) ∧ (k = 8 → vOf i k z = z.e.kn i) ∧ ((k < 0 ∨ 8 < k) → vOf i k z = -1)) := by
  unfold vOf
  refine ⟨fun q => if_neg q, fun q => ?_⟩
  rw [if_pos q]
  refine ⟨fun e => ?_, fun e => ?_, fun e => ?_, fun e => ?_, fun e => ?_, fun e => ?_, fun e => ?_, fun e => ?_, fun e => ?_, fun e => ?_⟩
  · rw [if_pos e]
  · rw [if_neg (by omega), if_pos e]
  · rw [if_neg (by omega), if_neg (by omega), if_pos e]
  · rw [if_neg (by omega), if_neg (by omega), if_neg (by omega), if_pos e]
  · rw [if_neg (by omega), if_neg (by omega), if_neg (by omega), if_neg (by omega), if_pos e]
  · rw [if_neg (by omega), if_neg (by omega), if_neg (by omega), if_neg (by omega), if_neg (by omega), if_pos e]
  · rw [if_neg (by omega), if_neg (by omega), if_neg (by omega), if_neg (by omega), if_neg (by omega), if_neg (by omega), if_pos e]
  · rw [if_neg (by omega), if_neg (by omega), if_neg (by omega), if_neg (by omega), if_neg (by omega), if_neg (by omega), if_neg (by omega), if_pos e]
  · rw [if_neg (by omega), if_neg (by omega), if_neg (by omega), if_neg (by omega), if_neg (by omega), if_neg (by omega), if_neg (by omega), if_neg (by omega), if_pos e]
  · rw [if_neg (by omega), if_neg (by omega), if_neg (by omega), if_neg (by omega), if_neg (by omega), if_neg (by omega), if_neg (by omega), if_neg (by omega), if_neg (by omega)]

