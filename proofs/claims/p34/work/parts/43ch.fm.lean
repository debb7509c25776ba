/-! ===== how far the clock can be wound ===== -/
def fMd (d : Int) : Int := if d ≤ 1000 then d else 1000
theorem fMd_f (d : Int) : (d ≤ 1000 ∧ fMd d = d) ∨ (1000 < d ∧ fMd d = 1000) := by
  unfold fMd
  by_cases h : d ≤ 1000
  · rw [if_pos h]; omega
  · rw [if_neg h]; omega
def fBr (c : Int) (r : fR) : Prop := (0 ≤ r 0 ∧ r 0 ≤ 9999) ∧ (-(10000 + 999 * c + 287712 * fMd (r 0)) ≤ r 4 ∧ r 4 ≤ 10000 + 999 * c + 287712 * fMd (r 0))
def fBd (c : Int) (z : fZ) : Prop := fBr c z.x.1 ∧ (∀ i, 0 ≤ i → i < z.u → fBr c (z.q i)) ∧ (z.g = 1 → fBr c z.y.1)
theorem fBr_m {c c' : Int} {r : fR} (h : fBr c r) (l : c ≤ c') : fBr c' r := by
  obtain ⟨a, b⟩ := h
  exact ⟨a, by omega, by omega⟩
theorem fBr_e {c : Int} {r r' : fR} (h : fBr c r) (e0 : r' 0 = r 0) (e4 : r' 4 = r 4) : fBr c r' := by
  unfold fBr
  rw [e0, e4]
  exact h
theorem fBr_4 {c : Int} {r r' : fR} (h : fBr c r) (e0 : r' 0 = r 0) (e4 : -999 ≤ r' 4 - r 4 ∧ r' 4 - r 4 ≤ 999) : fBr (c + 1) r' := by
  obtain ⟨a, b⟩ := h
  unfold fBr
  rw [e0]
  exact ⟨a, by omega, by omega⟩
theorem fBr_s {c : Int} {r r' : fR} (h : fBr c r) (hc : 0 ≤ c) (e0 : r' 0 = r 0) (e4 : -9999 ≤ r' 4 ∧ r' 4 ≤ 9999) : fBr c r' := by
  obtain ⟨a, b⟩ := h
  have f := fMd_f (r 0)
  unfold fBr
  rw [e0]
  exact ⟨a, by omega, by omega⟩
theorem fBr_w {c : Int} {r : fR} (h : fBr c r) (hc : 0 ≤ c ∧ c ≤ 4000) : (0 ≤ r 0 ∧ r 0 ≤ 9999) ∧ (-2000000000 ≤ r 4 ∧ r 4 ≤ 2000000000) := by
  obtain ⟨a, b⟩ := h
  have f := fMd_f (r 0)
  exact ⟨a, by omega, by omega⟩
theorem fBr_d {c : Int} {E : fE} {th : Bool} {x : fS} (w : fWE E) (h : fBr c x.1) (hc : 0 ≤ c ∧ c ≤ 4000) (l : x.1 0 + 1 ≤ 9999) : fBr c (fDy E th x).1 ∧ (fDy E th x).1 0 = x.1 0 + 1 := by
  have f := fMd_f (x.1 0)
  obtain ⟨a, b⟩ := h
  have q := fDy_4 (E := E) (th := th) (x := x) (B := 10000 + 999 * c + 287712 * fMd (x.1 0)) w b (by omega)
  have d := fDy_0 (E := E) (th := th) (x := x) w (by omega) (by omega)
  have f2 := fMd_f (x.1 0 + 1)
  refine ⟨?_, d⟩
  unfold fBr
  rw [d]
  by_cases e : x.1 0 ≤ 999
  · rw [if_pos e] at q
    exact ⟨by omega, by omega, by omega⟩
  · rw [if_neg e] at q
    exact ⟨by omega, by omega, by omega⟩
theorem fBd_m {c c' : Int} {z : fZ} (h : fBd c z) (l : c ≤ c') : fBd c' z := ⟨fBr_m h.1 l, fun i a b => fBr_m (h.2.1 i a b) l, fun g => fBr_m (h.2.2 g) l⟩
theorem fBd_0 {c : Int} {z : fZ} {E : fE} {x : fS} (h : fBd c z) (hx : fBr c x.1) : fBd c (fZ0 z E x) := ⟨hx, fun i a b => by have b' : i < (0 : Int) := b; exact absurd a (by omega), h.2.2⟩
theorem fBd_k {c : Int} {z : fZ} {x : fS} (h : fBd c z) (hx : fBr c x.1) : fBd c (fZk z x) := by
  refine ⟨hx, fun i a b => ?_, h.2.2⟩
  have b' : i < fKu z.u := b
  show fBr c (fKq z.u z.q z.x.1 i)
  unfold fKu at b'
  unfold fKq
  by_cases e : z.u = 6
  · rw [if_pos e] at b' ⊢
    by_cases e5 : i = 5
    · rw [if_pos e5]; exact h.1
    · rw [if_neg e5]; exact h.2.1 (i + 1) (by omega) (by omega)
  · rw [if_neg e] at b' ⊢
    by_cases e5 : i = z.u
    · rw [if_pos e5]; exact h.1
    · rw [if_neg e5]; exact h.2.1 i a (by omega)
theorem fBd_ds {c : Int} (hc : 0 ≤ c ∧ c ≤ 4000) : ∀ (k : Nat) (z : fZ), fWE z.e → fBd c z → z.x.1 0 + k ≤ 9999 → fBd c (fDs k z)
  | 0, z, _, h, _ => h
  | k + 1, z, w, h, l => by
    have d := fBr_d (th := false) w h.1 hc (by omega)
    show fBd c (fDs k (fZk z (fDy z.e false z.x)))
    refine fBd_ds hc k _ w (fBd_k h d.1) ?_
    show (fDy z.e false z.x).1 0 + k ≤ 9999
    rw [d.2]; omega
theorem fNt_f (th : Bool) (x : fS) (a b d : Int) {k : Int} (hk : ¬ k = 2) : (fNt th x a b d).1 k = x.1 k := by
  unfold fNt
  by_cases e : th = true ∨ x.1 2 = 150
  · rw [if_pos e]
  · rw [if_neg e]; exact fup_n hk
theorem fG1_f (r : fR) {i k : Int} (h1 : ¬ k = 9 + i) (h2 : ¬ k = 45 + i) : fG1 r i k = r k := by
  unfold fG1
  rw [fup_n h2, fup_n h1]
theorem fGo_f {E : fE} {th : Bool} {i : Int} {x : fS} (hi : 0 ≤ i) (hw : -2147000000 ≤ x.1 4 ∧ x.1 4 ≤ 2147000000) : (fGo E th i x).1 0 = x.1 0 ∧ (0 ≤ (fGo E th i x).1 4 - x.1 4 ∧ (fGo E th i x).1 4 - x.1 4 ≤ 999) := by
  have t := fTl_b E (fG1 x.1 i) 1 i
  have m : fMo 1 = 999 := rfl
  unfold fGo
  rw [fNt_f _ _ _ _ _ (by decide), fNt_f _ _ _ _ _ (by decide)]
  show fup (fG1 x.1 i) 4 (zwp (x.1 4 + fTl E (fG1 x.1 i) 1 i)) 0 = x.1 0 ∧ (0 ≤ fup (fG1 x.1 i) 4 (zwp (x.1 4 + fTl E (fG1 x.1 i) 1 i)) 4 - x.1 4 ∧ fup (fG1 x.1 i) 4 (zwp (x.1 4 + fTl E (fG1 x.1 i) 1 i)) 4 - x.1 4 ≤ 999)
  rw [fup_n (by decide), fup_s, fG1_f _ (by omega) (by omega), zwp_id (by omega)]
  exact ⟨rfl, by omega, by omega⟩
theorem fBk_f {E : fE} {th : Bool} {i : Int} {x : fS} (hi : 0 ≤ i) (hw : -2147000000 ≤ x.1 4 ∧ x.1 4 ≤ 2147000000) : (fBk E th i x).1 0 = x.1 0 ∧ (-999 ≤ (fBk E th i x).1 4 - x.1 4 ∧ (fBk E th i x).1 4 - x.1 4 ≤ 0) := by
  have t := fTl_b E (fup x.1 (9 + i) 0) 1 i
  have m : fMo 1 = 999 := rfl
  unfold fBk
  rw [fNt_f _ _ _ _ _ (by decide), fNt_f _ _ _ _ _ (by decide)]
  show fup (fup x.1 (9 + i) 0) 4 (zwp (x.1 4 - fTl E (fup x.1 (9 + i) 0) 1 i)) 0 = x.1 0 ∧ (-999 ≤ fup (fup x.1 (9 + i) 0) 4 (zwp (x.1 4 - fTl E (fup x.1 (9 + i) 0) 1 i)) 4 - x.1 4 ∧ fup (fup x.1 (9 + i) 0) 4 (zwp (x.1 4 - fTl E (fup x.1 (9 + i) 0) 1 i)) 4 - x.1 4 ≤ 0)
  rw [fup_n (by decide), fup_s, fup_n (by omega), zwp_id (by omega)]
  exact ⟨rfl, by omega, by omega⟩
section FB
variable {c : Int} {z : fZ}
theorem fBd_state (p : Int) (h : fBd c z) : fBd (c + 6) (pState p z).2 := by
  have g := fBd_m (c' := c + 6) h (by omega)
  exact fBd_0 g (fBr_e g.1 (show fup z.x.1 1 p 0 = z.x.1 0 from fup_n (by decide)) (show fup z.x.1 1 p 4 = z.x.1 4 from fup_n (by decide)))
theorem fBd_isl (p q : Int) (hc : 0 ≤ z.e.n) (h : fBd c z) : fBd (c + 6) (pIsl p q z).2 := by
  have g := fBd_m (c' := c + 6) h (by omega)
  unfold pIsl
  by_cases e : gIsl p q z
  · rw [if_pos e]
    refine fBd_0 g (fBr_e g.1 ?_ ?_)
    · exact (fRi_f z.x.1 z.e.n 0).2.2.2 (by omega) (by omega) (by omega)
    · exact (fRi_f z.x.1 z.e.n 4).2.2.2 (by omega) (by omega) (by omega)
  · rw [if_neg e]; exact g
theorem fBd_set (p q v : Int) (hc : 0 ≤ c) (h : fBd c z) : fBd (c + 6) (pSet p q v z).2 := by
  have g := fBd_m (c' := c + 6) h (by omega)
  unfold pSet
  by_cases e : gSet p q v z
  · rw [if_pos e]
    show fBd (c + 6) (fSt1 p q v z)
    unfold fSt1
    by_cases e0 : p = 0
    · rw [if_pos e0]; exact fBd_0 g g.1
    · rw [if_neg e0]
      by_cases e1 : p = 1
      · rw [if_pos e1]; exact fBd_0 g g.1
      · rw [if_neg e1]
        by_cases e2 : p = 2
        · rw [if_pos e2]; exact fBd_0 g (fBr_e g.1 (show fup z.x.1 3 v 0 = z.x.1 0 from fup_n (by decide)) (show fup z.x.1 3 v 4 = z.x.1 4 from fup_n (by decide)))
        · rw [if_neg e2]
          by_cases e3 : p = 3
          · rw [if_pos e3]
            refine fBd_0 g (fBr_s g.1 (by omega) (show fup z.x.1 4 v 0 = z.x.1 0 from fup_n (by decide)) ?_)
            show -9999 ≤ fup z.x.1 4 v 4 ∧ fup z.x.1 4 v 4 ≤ 9999
            rw [fup_s]; omega
          · rw [if_neg e3]; exact fBd_0 g (fBr_e g.1 (show fup z.x.1 8 v 0 = z.x.1 0 from fup_n (by decide)) (show fup z.x.1 8 v 4 = z.x.1 4 from fup_n (by decide)))
  · rw [if_neg e]; exact g
theorem fBd_act (p q : Int) (hc : 0 ≤ c ∧ c ≤ 4000) (h : fBd c z) : fBd (c + 6) (pAct p q z).2 := by
  have g := fBd_m (c' := c + 6) h (by omega)
  have w := (fBr_w h.1 hc).2
  unfold pAct
  by_cases e : gAct p q z
  · rw [if_pos e]
    have q0 := e.1.1
    refine fBd_k g ?_
    show fBr (c + 6) (fAc p q z).1
    unfold fAc
    by_cases e0 : p = 0
    · rw [if_pos e0]
      have f := fGo_f (E := z.e) (th := false) (i := q) (x := z.x) q0 (by omega)
      exact fBr_m (fBr_4 h.1 f.1 (by omega)) (by omega)
    · rw [if_neg e0]
      by_cases e1 : p = 1
      · rw [if_pos e1]
        have f := fBk_f (E := z.e) (th := false) (i := q) (x := z.x) q0 (by omega)
        exact fBr_m (fBr_4 h.1 f.1 (by omega)) (by omega)
      · rw [if_neg e1]
        by_cases e2 : p = 2
        · rw [if_pos e2]; exact fBr_e g.1 (fup_n (by omega)) (fup_n (by omega))
        · rw [if_neg e2]; exact fBr_e g.1 (fup_n (by omega)) (fup_n (by omega))
  · rw [if_neg e]; exact g
theorem fBd_days (n : Int) (w : fWE z.e) (hc : 0 ≤ c ∧ c ≤ 3500) (h : fBd c z) : fBd (c + 6) (pDays n z).2 := by
  have g := fBd_m (c' := c + 6) h (by omega)
  unfold pDays
  by_cases e : gDays n z
  · rw [if_pos e]
    have e' := e.2
    have e1 := e.1
    exact fBd_ds (by omega) n.toNat z w g (by omega)
  · rw [if_neg e]; exact g
theorem fBd_undo (h : fBd c z) : fBd (c + 6) (pUndo z).2 := by
  have g := fBd_m (c' := c + 6) h (by omega)
  unfold pUndo
  by_cases e : 0 < z.u
  · rw [if_pos e]
    exact ⟨g.2.1 (z.u - 1) (by omega) (by omega), fun i a b => by have b' : i < z.u - 1 := b; exact g.2.1 i a (by omega), g.2.2⟩
  · rw [if_neg e]; exact g
theorem fBd_img (p : Int) (h : fBd c z) : fBd (c + 6) (pImg p z).2 := by
  have g := fBd_m (c' := c + 6) h (by omega)
  unfold pImg
  by_cases e : ¬ p = 0
  · rw [if_pos e]; exact ⟨g.1, g.2.1, fun _ => g.1⟩
  · rw [if_neg e]
    by_cases e1 : z.g = 1
    · rw [if_pos e1]
      exact ⟨g.2.2 e1, fun i a b => by have b' : i < (0 : Int) := b; exact absurd a (by omega), fun _ => g.2.2 e1⟩
    · rw [if_neg e1]; exact g
end FB
/-! ===== both worlds ===== -/
def zTp (hC hM : zM) : Prop := hC.2 103 3 = hM.2 0 11 ∧ (∀ i, 0 ≤ i → i < hC.2 103 3 → hM.2 7 i = hC.2 104 i) ∧ (hC.2 103 7 = hM.2 0 31 ∧ hC.2 103 8 = hM.2 0 32) ∧ tWr hM
def zRF (x : Int) (hC hM : zM) : Prop := ∃ z, xK hC z ∧ xL hM z ∧ fBd x z ∧ zTp hC hM
def zpT (a b : Int) : Prop := a = 104 ∨ (a = 103 ∧ (b = 3 ∨ b = 7 ∨ b = 8))
theorem tWr_g {h h' : zM} (w : tWr h) (e : ∀ k, h'.2 8 k = h.2 8 k) : tWr h' := fun k a b => (e k).trans (w k a b)
theorem zTp_f {hC hC' hM hM' : zM} (t : zTp hC hM) (eC : ∀ a b, zpT a b → hC'.2 a b = hC.2 a b) (e11 : hM'.2 0 11 = hM.2 0 11) (e31 : hM'.2 0 31 = hM.2 0 31) (e32 : hM'.2 0 32 = hM.2 0 32) (e7 : ∀ b, hM'.2 7 b = hM.2 7 b) (e8 : ∀ b, hM'.2 8 b = hM.2 8 b) : zTp hC' hM' := by
  obtain ⟨t1, t2, ⟨t3, t4⟩, t5⟩ := t
  have c3 : hC'.2 103 3 = hC.2 103 3 := eC 103 3 (by unfold zpT; omega)
  refine ⟨c3.trans (t1.trans e11.symm), fun i a b => ?_, ⟨(eC 103 7 (by unfold zpT; omega)).trans (t3.trans e31.symm), (eC 103 8 (by unfold zpT; omega)).trans (t4.trans e32.symm)⟩, tWr_g t5 e8⟩
  rw [c3] at b
  rw [e7, eC 104 i (by unfold zpT; omega)]
  exact t2 i a b
def zokK (fs cs : List Int) : Bool := zokY fs cs && !fs.contains 3 && !fs.contains 59 && !fs.contains 11 && !fs.contains 31 && !fs.contains 32 && !cs.contains 2 && !cs.contains 35 && !cs.contains 7 && !cs.contains 8 && !cs.contains 0
def zokJ (fs cs : List Int) : Bool := !fs.contains 11 && !fs.contains 31 && !fs.contains 32 && !cs.contains 7 && !cs.contains 8 && !cs.contains 0
theorem zTp_j {fs cs : List Int} {hC hC' hM hM' : zM} (t : zTp hC hM) (eC : ∀ a b, zpT a b → hC'.2 a b = hC.2 a b) (q : zfr fs cs hM hM') (k : zokJ fs cs = true) : zTp hC' hM' := by
  unfold zokJ at k
  simp only [Bool.and_eq_true, Bool.not_eq_true'] at k
  obtain ⟨⟨⟨⟨⟨k11, k31⟩, k32⟩, k7⟩, k8⟩, k0⟩ := k
  exact zTp_f t eC (zfr_f q k0 k11) (zfr_f q k0 k31) (zfr_f q k0 k32) (fun b => zfr_a q k7 (by decide)) (fun b => zfr_a q k8 (by decide))
theorem xL_k9 {fs cs : List Int} {hM hM' : zM} {z : fZ} (t : xL hM z) (q : zfr fs cs hM hM') (k : zokK fs cs = true) : xL hM' z := by
  unfold zokK at k
  simp only [Bool.and_eq_true, Bool.not_eq_true'] at k
  obtain ⟨⟨⟨⟨⟨⟨⟨⟨⟨⟨ky, k3⟩, k59⟩, k11⟩, k31⟩, k32⟩, k2⟩, k35⟩, k7⟩, k8⟩, k0⟩ := k
  exact xL_f t (zDm_o q ky) (zfr_f q k0 k3) (zfr_f q k0 k59) (fun b => zfr_a q k2 (by decide)) (fun b => zfr_a q k35 (by decide))
/-- what neither world knows of -/
def zpK (a b : Int) : Prop := (a = 0 ∧ (b = 8 ∨ b = 9)) ∨ (2 ≤ a ∧ a ≤ 27 ∧ ¬ a = 12) ∨ (36 ≤ a ∧ a ≤ 61 ∧ ¬ a = 46) ∨ (114 ≤ a ∧ a ≤ 139) ∨ a = 104 ∨ (a = 103 ∧ (b = 3 ∨ b = 7 ∨ b = 8))
theorem xK_w {hC hC' : zM} {z : fZ} (s : okC hC) (t : xK hC z) (e : ∀ a b, zpK a b → hC'.2 a b = hC.2 a b) : xK hC' z :=
  xK_f s t (e 0 8 (by unfold zpK; omega)) (e 0 9 (by unfold zpK; omega)) (fun a b y => e a b (by unfold zD at y; unfold zpK; omega)) (fun a b y => e a b (by unfold zD at y; unfold zpK; omega)) (fun a b y1 y2 => e a b (by unfold zpK; omega))
theorem zRF_o {x : Int} {fs cs : List Int} {hC hC' hM hM' : zM} (s : okC hC) (r : zRF x hC hM) (e : ∀ a b, zpK a b → hC'.2 a b = hC.2 a b) (q : zfr fs cs hM hM') (k : zokK fs cs = true) (k2 : zokJ fs cs = true) : zRF (x + 6) hC' hM' := by
  obtain ⟨z, rC, rM, rb, rt⟩ := r
  exact ⟨z, xK_w s rC e, xL_k9 rM q k, fBd_m rb (by omega), zTp_j rt (fun a b y => e a b (by unfold zpT at y; unfold zpK; omega)) q k2⟩
/-- a call that both follow -/
theorem zRF_p {x vC vM : Int} {fs cs : List Int} {hC hC' hM hM' : zM} {P : fZ → Int × fZ} (hx : 0 ≤ x ∧ x ≤ 3078) (r : zRF x hC hM) (qC : ∀ z, xK hC z → fWz z → vC = (P z).1 ∧ xK hC' (P z).2) (qM : ∀ z, xL hM z → fWz z → vM = (P z).1 ∧ xL hM' (P z).2) (hb : ∀ z, fWE z.e → fBd x z → fBd (x + 6) (P z).2) (eC : ∀ a b, zpT a b → hC'.2 a b = hC.2 a b) (q : zfr fs cs hM hM') (k : zokJ fs cs = true) : vC = vM ∧ zRF (x + 6) hC' hM' := by
  obtain ⟨z, rC, rM, rb, rt⟩ := r
  have w : fWz z := fBr_w rb.1 (by omega)
  obtain ⟨c1, c2⟩ := qC z rC w
  obtain ⟨m1, m2⟩ := qM z rM w
  exact ⟨c1.trans m1.symm, _, c2, m2, hb z rC.1.1 rb, zTp_j rt eC q k⟩
theorem zHs_u {v w n : Int} {r : fR} (a : zHs v n r) (b : zHs w n r) (hv : -2147483648 ≤ v ∧ v ≤ 2147483647) (hw : -2147483648 ≤ w ∧ w ≤ 2147483647) : v = w := fgb_x hv hw (fun i q => (a i q).trans (b i q).symm)
theorem zRF_look {x p vC vM : Int} {fs cs : List Int} {hC hC' hM hM' : zM} (hx : 0 ≤ x ∧ x ≤ 3078) (r : zRF x hC hM) (bC : -2147483648 ≤ vC ∧ vC ≤ 2147483647) (bM : -2147483648 ≤ vM ∧ vM ≤ 2147483647) (qC : ∀ z, xK hC z → (p = 1 → zHs vC z.e.n z.x.1) ∧ (¬ p = 1 → vC = vLook p z) ∧ xK hC' z) (qM : ∀ z, xL hM z → (p = 1 → zHs vM z.e.n z.x.1) ∧ (¬ p = 1 → vM = vLook p z) ∧ xL hM' z) (eC : ∀ a b, zpT a b → hC'.2 a b = hC.2 a b) (q : zfr fs cs hM hM') (k : zokJ fs cs = true) : vC = vM ∧ zRF (x + 6) hC' hM' := by
  obtain ⟨z, rC, rM, rb, rt⟩ := r
  obtain ⟨c1, c2, c3⟩ := qC z rC
  obtain ⟨m1, m2, m3⟩ := qM z rM
  refine ⟨?_, z, c3, m3, fBd_m rb (by omega), zTp_j rt eC q k⟩
  by_cases e : p = 1
  · exact zHs_u (c1 e) (m1 e) bC bM
  · exact (c2 e).trans (m2 e).symm
theorem zRF_img {x p vC vM : Int} {fs cs : List Int} {hC hC' hM hM' : zM} (hx : 0 ≤ x ∧ x ≤ 3078) (r : zRF x hC hM) (b9 : 0 ≤ hC.2 0 9 ∧ hC.2 0 9 ≤ 1) (qC : ∀ z, xK hC z → vC = (pImg p z).1 ∧ xK hC' (pImg p z).2) (c : zimc p (hM.2 0 59) vM (hM'.2 0 59)) (m : zGm hM hM' p (hM.2 0 59)) (e5 : hM'.2 0 5 = hM.2 0 5) (e3 : (p = 0 → ¬ hM.2 0 59 = 0 → hM'.2 0 3 = 0) ∧ ((¬ p = 0 ∨ hM.2 0 59 = 0) → hM'.2 0 3 = hM.2 0 3)) (e2 : ∀ b, hM'.2 2 b = hM.2 2 b) (eC : ∀ a b, zpT a b → hC'.2 a b = hC.2 a b) (q : zfr fs cs hM hM') (k : zokJ fs cs = true) : vC = vM ∧ zRF (x + 6) hC' hM' := by
  obtain ⟨z, rC, rM, rb, rt⟩ := r
  have hg := rC.2.2.1
  obtain ⟨c1, c2⟩ := qC z rC
  obtain ⟨m1, m2⟩ := xL_im rM (by omega) c m e5 e3 e2
  exact ⟨c1.trans m1.symm, _, c2, m2, fBd_img p rb, zTp_j rt eC q k⟩
theorem zRF_text {x p vC vM : Int} {hC hC' hM hM' : zM} (hx : 0 ≤ x ∧ x ≤ 3078) (r : zRF x hC hM) (l0 : 0 ≤ hC.2 103 3) (qC : ∀ z, xK hC z → tXT p z (hC.2 104) (hC.2 103 3) vC (hC'.2 103 7) (hC'.2 103 8) (xK hC')) (qM : ∀ z, xL hM z → tWr hM → tXM p z (hM.2 7) (hM.2 0 11) vM (hM'.2 0 31) (hM'.2 0 32) (xL hM')) (c3 : hC'.2 103 3 = 0) (m11 : hM'.2 0 11 = 0) (e8 : ∀ b, hM'.2 8 b = hM.2 8 b) : vC = vM ∧ zRF (x + 6) hC' hM' := by
  obtain ⟨z, rC, rM, rb, t1, t2, t3, t4⟩ := r
  have qm := qM z rM t4
  rw [← t1] at qm
  obtain ⟨v, f, g, z', k1, k2, k3, k4, k5, k6, k7⟩ := tXT_u t2 (qC z rC) qm
  refine ⟨v, z', k1, k2, ?_, c3.trans m11.symm, fun i a b => absurd b (by rw [c3]; omega), ⟨f, g⟩, tWr_g t4 e8⟩
  have rb' := fBd_m (c' := x + 6) rb (by omega)
  refine ⟨by rw [k3]; exact rb'.1, fun i a b => ?_, fun w => ?_⟩
  · rw [k5]
    rcases k4 with k4 | k4
    · rw [k4] at b; exact rb'.2.1 i a b
    · rw [k4] at b; exact absurd a (by omega)
  · rw [k7]; rw [k6] at w; exact rb'.2.2 w
theorem zRF_feed {x vC vM a b d e f : Int} {hC hC' hM hM' : zM} {fs cs : List Int} (s : okC hC) (r : zRF x hC hM) (l0 : 0 ≤ hC.2 103 3) (eC : ∀ a b, zpK a b → ¬ a = 104 → ¬ (a = 103 ∧ b = 3) → hC'.2 a b = hC.2 a b) (zc : zfd (hC.2 103 3) vC (hC'.2 103 3)) (tc : tFe (hC.2 103 3) (hC.2 104) (hC'.2 104) a b d e f) (zm : zfd (hM.2 0 11) vM (hM'.2 0 11)) (tm : tFe (hM.2 0 11) (hM.2 7) (hM'.2 7) a b d e f) (q : zfr fs cs hM hM') (xl : ∀ z, xL hM z → xL hM' z) (e31 : hM'.2 0 31 = hM.2 0 31) (e32 : hM'.2 0 32 = hM.2 0 32) (e8 : ∀ b, hM'.2 8 b = hM.2 8 b) : vC = vM ∧ zRF (x + 6) hC' hM' := by
  obtain ⟨z, rC, rM, rb, t1, t2, ⟨t3, t4⟩, t5⟩ := r
  have w := zfd_r zc zm t1
  rw [← t1] at tm
  refine ⟨w.1, z, ?_, xl z rM, fBd_m rb (by omega), w.2, tFe_r tc tm zc l0 t2, ⟨(eC 103 7 (by unfold zpK; omega) (by omega) (by omega)).trans (t3.trans e31.symm), (eC 103 8 (by unfold zpK; omega) (by omega) (by omega)).trans (t4.trans e32.symm)⟩, tWr_g t5 e8⟩
  exact xK_f s rC (eC 0 8 (by unfold zpK; omega) (by omega) (by omega)) (eC 0 9 (by unfold zpK; omega) (by omega) (by omega)) (fun a b y => by unfold zD at y; exact eC a b (by unfold zpK; omega) (by omega) (by omega)) (fun a b y => by unfold zD at y; exact eC a b (by unfold zpK; omega) (by omega) (by omega)) (fun a b y1 y2 => eC a b (by unfold zpK; omega) (by omega) (by omega))
theorem zRF_end {x p vC vM : Int} {hC hC' hM hM' : zM} (s : okC hC) (r : zRF x hC hM) (eC : ∀ a b, zpK a b → ¬ (a = 103 ∧ b = 3) → hC'.2 a b = hC.2 a b) (zc : zen p (hC.2 103 3) vC (hC'.2 103 3)) (zm : zen p (hM.2 0 11) vM (hM'.2 0 11)) (xl : ∀ z, xL hM z → xL hM' z) (e31 : hM'.2 0 31 = hM.2 0 31) (e32 : hM'.2 0 32 = hM.2 0 32) (e7 : ∀ b, hM'.2 7 b = hM.2 7 b) (e8 : ∀ b, hM'.2 8 b = hM.2 8 b) : vC = vM ∧ zRF (x + 6) hC' hM' := by
  obtain ⟨z, rC, rM, rb, t1, t2, ⟨t3, t4⟩, t5⟩ := r
  have w := zen_r zc zm t1
  have l : hC'.2 103 3 ≤ hC.2 103 3 := by
    unfold zen at zc
    by_cases y : p < 0
    · have := zc.2.1 y; omega
    · by_cases y2 : hC.2 103 3 < p
      · have := zc.2.2 y2; omega
      · have := zc.1 (by omega) (by omega); omega
  refine ⟨w.1, z, ?_, xl z rM, fBd_m rb (by omega), w.2, fun i a b => ?_, ⟨(eC 103 7 (by unfold zpK; omega) (by omega)).trans (t3.trans e31.symm), (eC 103 8 (by unfold zpK; omega) (by omega)).trans (t4.trans e32.symm)⟩, tWr_g t5 e8⟩
  · exact xK_f s rC (eC 0 8 (by unfold zpK; omega) (by omega)) (eC 0 9 (by unfold zpK; omega) (by omega)) (fun a b y => by unfold zD at y; exact eC a b (by unfold zpK; omega) (by omega)) (fun a b y => by unfold zD at y; exact eC a b (by unfold zpK; omega) (by omega)) (fun a b y1 y2 => eC a b (by unfold zpK; omega) (by omega))
  · rw [e7, eC 104 i (by unfold zpK; omega) (by omega)]
    exact t2 i a (by omega)
theorem zRF_m {x : Int} {hC hM : zM} (r : zRF x hC hM) : zRF (x + 6) hC hM := by
  obtain ⟨z, rC, rM, rb, rt⟩ := r
  exact ⟨z, rC, rM, fBd_m rb (by omega), rt⟩
def zokL (fs cs : List Int) : Bool := zokY fs cs && !fs.contains 3 && !fs.contains 59 && !cs.contains 2 && !cs.contains 35 && !cs.contains 0
theorem xL_k8 {fs cs : List Int} {hM hM' : zM} {z : fZ} (t : xL hM z) (q : zfr fs cs hM hM') (k : zokL fs cs = true) : xL hM' z := by
  unfold zokL at k
  simp only [Bool.and_eq_true, Bool.not_eq_true'] at k
  obtain ⟨⟨⟨⟨⟨ky, k3⟩, k59⟩, k2⟩, k35⟩, k0⟩ := k
  exact xL_f t (zDm_o q ky) (zfr_f q k0 k3) (zfr_f q k0 k59) (fun b => zfr_a q k2 (by decide)) (fun b => zfr_a q k35 (by decide))

