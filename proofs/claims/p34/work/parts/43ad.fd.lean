/-! ===== codes step by step ===== -/
theorem fEv_0 (ask : Int → Int) (c : List Int) : fEv ask c 0 = [] := by cases c <;> rfl
theorem fEv_s {ask : Int → Int} {cd : Int → Int} {a i : Int} (h0 : 0 ≤ a) (h : a ≤ i) : fEv ask (tSk cd (i + 1).toNat) (i + 1 - a).toNat = fSt ask (cd i) (fEv ask (tSk cd i.toNat) (i - a).toNat) := by
  rw [show (i + 1).toNat = i.toNat + 1 by omega, show (i + 1 - a).toNat = (i - a).toNat + 1 by omega]
  show fSt ask (cd ((i.toNat : Nat) : Int)) _ = _
  rw [show ((i.toNat : Nat) : Int) = i by omega]
theorem fTy_s1 {cd : Int → Int} {a i : Int} (h0 : 0 ≤ a) (h : a ≤ i) : fTy (tSk cd (i + 1).toNat) (i + 1 - a).toNat = (fTy (tSk cd i.toNat) (i - a).toNat).bind (fTs (cd i)) := by
  rw [show (i + 1).toNat = i.toNat + 1 by omega, show (i + 1 - a).toNat = (i - a).toNat + 1 by omega]
  show (fTy (tSk cd i.toNat) (i - a).toNat).bind (fTs (cd ((i.toNat : Nat) : Int))) = _
  rw [show ((i.toNat : Nat) : Int) = i by omega]
theorem fTy_d {cd : Int → Int} {a : Int} (h0 : 0 ≤ a) : ∀ (k : Nat) (i : Int) (t : List Bool), a ≤ i → fTy (tSk cd (i + k).toNat) (i + k - a).toNat = some t → ∃ u, fTy (tSk cd i.toNat) (i - a).toNat = some u
  | 0, i, t, h, e => ⟨t, by rw [show i + ((0 : Nat) : Int) = i by omega] at e; exact e⟩
  | k + 1, i, t, h, e => by
    have e2 : i + ((k + 1 : Nat) : Int) = i + k + 1 := by omega
    rw [e2, fTy_s1 h0 (by omega)] at e
    match q : fTy (tSk cd (i + k).toNat) (i + k - a).toNat with
    | none => rw [q] at e; exact absurd e (by simp)
    | some w => exact fTy_d h0 k i w h q
theorem fTy_u {cd : Int → Int} {a b i : Int} {t : List Bool} (h0 : 0 ≤ a) (h : a ≤ i) (hb : i < b) (e : fTy (tSk cd b.toNat) (b - a).toNat = some t) : ∃ u w, fTy (tSk cd i.toNat) (i - a).toNat = some u ∧ fTs (cd i) u = some w := by
  have e2 : b = i + 1 + ((b - i - 1).toNat : Int) := by omega
  rw [e2] at e
  obtain ⟨w, hw⟩ := fTy_d h0 (b - i - 1).toNat (i + 1) t (by omega) e
  rw [fTy_s1 h0 h] at hw
  match q : fTy (tSk cd i.toNat) (i - a).toNat with
  | none => rw [q] at hw; exact absurd hw (by simp)
  | some u => rw [q] at hw; exact ⟨u, w, rfl, hw⟩
theorem tSk_l (f : Int → Int) : ∀ n : Nat, (tSk f n).length = n
  | 0 => rfl
  | n + 1 => by show (tSk f n).length + 1 = n + 1; rw [tSk_l f n]
/-- what the types tell of the next code and of the stack -/
def fTc (e top : Int) (f : Int → Int) : Prop :=
  (((0 ≤ e ∧ e < 10000) ∨ (10007 ≤ e ∧ e ≤ 10016)) ∧ top < 60) ∨ (e = 20006 ∧ 1 ≤ top ∧ (f (top - 1) = 0 ∨ f (top - 1) = 1)) ∨
  ((e = 20042 ∨ e = 20043 ∨ e = 20045 ∨ e = 20047 ∨ e = 20060 ∨ e = 20061 ∨ e = 20062) ∧ 2 ≤ top) ∨
  ((e = 20004 ∨ e = 20005) ∧ 2 ≤ top ∧ (f (top - 1) = 0 ∨ f (top - 1) = 1) ∧ (f (top - 2) = 0 ∨ f (top - 2) = 1))
theorem fTy_c {f cd ask : Int → Int} {a b i top : Int} {t : List Bool} (h0 : 0 ≤ a) (hi : a ≤ i) (hb : i < b) (ht : fTy (tSk cd b.toNat) (b - a).toNat = some t) (t0 : 0 ≤ top) (hs : tSk f top.toNat = fEv ask (tSk cd i.toNat) (i - a).toNat) : fTc (cd i) top f := by
  obtain ⟨u, w, hu, hw⟩ := fTy_u h0 hi hb ht
  have sh := fSh_e (ask := ask) hu
  rw [← hs] at sh
  have ln := fSh_l sh
  rw [tSk_l] at ln
  rcases fTs_i hw with ⟨c, l, rfl⟩ | ⟨c, v, rfl, rfl⟩ | ⟨c, v, rfl, rfl⟩ | ⟨c, v, rfl, rfl⟩ | ⟨c, v, rfl, rfl⟩
  · exact Or.inl ⟨c, by omega⟩
  · simp only [List.length_cons] at ln
    have p : 0 < top := by omega
    rw [tSk_t f p] at sh
    exact Or.inr (Or.inl ⟨c, by omega, sh.1 rfl⟩)
  · simp only [List.length_cons] at ln
    exact Or.inr (Or.inr (Or.inl ⟨by omega, by omega⟩))
  · simp only [List.length_cons] at ln
    exact Or.inr (Or.inr (Or.inl ⟨by omega, by omega⟩))
  · simp only [List.length_cons] at ln
    have p : 0 < top := by omega
    have p2 : 0 < top - 1 := by omega
    rw [tSk_t f p, tSk_t f p2] at sh
    have y := sh.2.1 rfl
    rw [show top - 1 - 1 = top - 2 by omega] at y
    exact Or.inr (Or.inr (Or.inr ⟨c, by omega, sh.1 rfl, y⟩))
theorem fEv_p {f f' cd ask : Int → Int} {a i top v : Int} (h0 : 0 ≤ a) (hi : a ≤ i) (t0 : 0 ≤ top) (hs : tSk f top.toNat = fEv ask (tSk cd i.toNat) (i - a).toNat) (hf : f' top = v) (ho : ∀ j, ¬ j = top → f' j = f j) (hc : cd i < 20000) (hv : v = if cd i < 10000 then cd i else ask (cd i - 10007)) : tSk f' (top + 1).toNat = fEv ask (tSk cd (i + 1).toNat) (i + 1 - a).toNat := by
  rw [fEv_s h0 hi, ← hs, tSk_p t0 rfl hf ho]
  unfold fSt
  rw [if_pos hc, hv]
theorem fEv_n {f f' cd ask : Int → Int} {a i top : Int} (h0 : 0 ≤ a) (hi : a ≤ i) (t0 : 1 ≤ top) (hs : tSk f top.toNat = fEv ask (tSk cd i.toNat) (i - a).toNat) (hf : f' (top - 1) = 1 - f (top - 1)) (ho : ∀ j, ¬ j = top - 1 → f' j = f j) (hc : cd i = 20006) : tSk f' top.toNat = fEv ask (tSk cd (i + 1).toNat) (i + 1 - a).toNat := by
  rw [fEv_s h0 hi, ← hs, tSk_t f' (show 0 < top by omega), tSk_t f (show 0 < top by omega), hf, tSk_x (f := f) (g := f') (top - 1).toNat (fun j _ b => ho j (by omega))]
  unfold fSt
  rw [if_neg (by omega), if_pos hc]
  rfl
theorem fEv_j {f f' cd ask : Int → Int} {a i top : Int} (h0 : 0 ≤ a) (hi : a ≤ i) (t0 : 2 ≤ top) (hs : tSk f top.toNat = fEv ask (tSk cd i.toNat) (i - a).toNat) (hf : f' (top - 2) = fJn (cd i - 20000) (f (top - 2)) (f (top - 1))) (ho : ∀ j, ¬ j = top - 2 → f' j = f j) (hc : 20000 ≤ cd i) (hn : ¬ cd i = 20006) : tSk f' (top - 1).toNat = fEv ask (tSk cd (i + 1).toNat) (i + 1 - a).toNat := by
  rw [fEv_s h0 hi, ← hs, tSk_t f' (show 0 < top - 1 by omega), tSk_t f (show 0 < top by omega), tSk_t f (show 0 < top - 1 by omega), show top - 1 - 1 = top - 2 by omega, hf, tSk_x (f := f) (g := f') (top - 2).toNat (fun j _ b => ho j (by omega))]
  unfold fSt
  rw [if_neg (by omega), if_neg hn]
  rfl
theorem fEv_h {f cd ask : Int → Int} {a b top : Int} (t0 : 1 ≤ top) (hs : tSk f top.toNat = fEv ask (tSk cd b.toNat) (b - a).toNat) : (fEv ask (tSk cd b.toNat) (b - a).toNat).headD 0 = f (top - 1) := by
  rw [← hs, tSk_t f (show 0 < top by omega)]; rfl
theorem fEv_1 {f cd ask : Int → Int} {a b top : Int} {y : Bool} (t0 : 0 ≤ top) (ht : fTy (tSk cd b.toNat) (b - a).toNat = some [y]) (hs : tSk f top.toNat = fEv ask (tSk cd b.toNat) (b - a).toNat) : top = 1 := by
  have sh := fSh_e (ask := ask) ht
  rw [← hs] at sh
  have ln := fSh_l sh
  rw [tSk_l] at ln
  simp only [List.length_cons, List.length_nil] at ln
  omega
/-! ===== what is well-formed ===== -/
def fWx (r : fR) : Prop := (0 ≤ r 3 ∧ r 3 ≤ 719) ∧ (0 ≤ r 2 ∧ r 2 ≤ 150) ∧ (∀ i, 0 ≤ i → i < 18 → r (27 + i) = 0 ∨ r (27 + i) = 1) ∧ (r 7 = 0 ∨ r 7 = 1)
def fWl (E : fE) (l : Int) : Prop := (0 ≤ E.lf l ∧ E.lf l ≤ E.lh l ∧ E.lh l ≤ E.lt l ∧ E.lt l ≤ E.ln) ∧ fTy (tSk E.cd (E.lh l).toNat) (E.lh l - E.lf l).toNat = some [false] ∧ (E.lh l = E.lt l ∨ fTy (tSk E.cd (E.lt l).toNat) (E.lt l - E.lh l).toNat = some [true])
def fWd (E : fE) (l : Int) : Prop := (0 ≤ E.dw l ∧ E.dw l ≤ 5) ∧ (0 ≤ E.dn l ∧ E.dn l ≤ 719) ∧ (E.dw l ≤ 1 → E.dn l < E.n) ∧ (E.dw l = 4 → E.dn l ≤ 99)
def fWE (E : fE) : Prop := (0 ≤ E.n ∧ E.n ≤ 18) ∧ (∀ i, 0 ≤ i → i < 18 → (0 ≤ E.wt i ∧ E.wt i ≤ 200) ∧ (0 ≤ E.lg i ∧ E.lg i ≤ 9)) ∧ (∀ i, 0 ≤ i → i < 18 → (0 ≤ E.kn i ∧ E.kn i < 262144) ∧ ∀ k : Nat, E.n ≤ (k : Int) → fgb (E.kn i) k = false) ∧ ((0 ≤ E.lm ∧ E.lm ≤ 16) ∧ (0 ≤ E.ln ∧ E.ln ≤ 400) ∧ (∀ l, 0 ≤ l → l < E.lm → fWl E l)) ∧ ((0 ≤ E.bm ∧ E.bm ≤ 16) ∧ (∀ l, 0 ≤ l → l < E.bm → (0 ≤ E.bs l ∧ E.bs l ≤ 18) ∧ E.bd l ≤ 999)) ∧ ((0 ≤ E.dm ∧ E.dm ≤ 16) ∧ (∀ l, 0 ≤ l → l < E.dm → fWd E l))
theorem fWx_u {r : fR} {k v : Int} (h : fWx r) (h2 : k = 2 → 0 ≤ v ∧ v ≤ 150) (h3 : k = 3 → 0 ≤ v ∧ v ≤ 719) (h7 : k = 7 → v = 0 ∨ v = 1) (h27 : 27 ≤ k → k < 45 → v = 0 ∨ v = 1) : fWx (fup r k v) := by
  obtain ⟨a, b, c, d⟩ := h
  have e : ∀ i, (i = k ∧ fup r k v i = v) ∨ (¬ i = k ∧ fup r k v i = r i) := fun i => by
    unfold fup
    by_cases q : i = k
    · exact Or.inl ⟨q, if_pos q⟩
    · exact Or.inr ⟨q, if_neg q⟩
  refine ⟨?_, ?_, fun i i0 i1 => ?_, ?_⟩
  · rcases e 3 with ⟨q, w⟩ | ⟨q, w⟩ <;> rw [w]
    · exact h3 q.symm
    · exact a
  · rcases e 2 with ⟨q, w⟩ | ⟨q, w⟩ <;> rw [w]
    · exact h2 q.symm
    · exact b
  · rcases e (27 + i) with ⟨q, w⟩ | ⟨q, w⟩ <;> rw [w]
    · exact h27 (by omega) (by omega)
    · exact c i i0 i1
  · rcases e 7 with ⟨q, w⟩ | ⟨q, w⟩ <;> rw [w]
    · exact h7 q.symm
    · exact d
/-! ===== the class's world ===== -/
def zRi (h : zM) (p : Int) (E : fE) (r : fR) : Prop :=
  h.2 p 3 = E.n ∧ (∀ i : Nat, i < 32 → fgb (h.2 p 4) i = (decide ((i : Int) < E.n) && decide (r (9 + (i : Int)) = 0))) ∧
  (∀ i : Nat, i < 32 → fgb (h.2 p 5) i = (decide ((i : Int) < E.n) && decide (r (27 + (i : Int)) = 1))) ∧
  (h.2 p 6 = r 3 ∧ h.2 p 7 = r 4 ∧ h.2 p 8 = r 5 ∧ h.2 p 9 = r 6 ∧ h.2 p 10 = 1 - r 7 ∧ h.2 p 11 = r 8 ∧ h.2 p 12 = r 0 ∧ h.2 p 13 = r 1) ∧
  (∀ i, 0 ≤ i → i < 18 → h.2 (p + 1) i = E.wt i ∧ h.2 (p + 2) i = E.lg i ∧ h.2 (p + 3) i = r (45 + i))
def zRE (h : zM) (w : Int) (E : fE) : Prop :=
  (h.2 (w + 5) 6 = E.lm ∧ (∀ l, 0 ≤ l → l < E.lm → h.2 (w + 6) l = E.lw l ∧ h.2 (w + 7) l = E.lf l ∧ h.2 (w + 8) l = E.lh l ∧ h.2 (w + 9) l = E.lt l) ∧ (∀ i, 0 ≤ i → i < E.ln → h.2 (w + 10) i = E.cd i)) ∧
  (h.2 (w + 12) 3 = E.bm ∧ (∀ l, 0 ≤ l → l < E.bm → h.2 (w + 13) l = E.bd l ∧ h.2 (w + 15) l = E.bs l ∧ ((E.bo l = 1 ∧ h.2 (w + 14) l = 2) ∨ (¬ E.bo l = 1 ∧ h.2 (w + 14) l = 3)))) ∧
  (h.2 (w + 16) 3 = E.dm ∧ (∀ l, 0 ≤ l → l < E.dm → h.2 (w + 17) l = E.dd l ∧ h.2 (w + 18) l = E.dw l + 1 ∧ h.2 (w + 19) l = E.dn l)) ∧
  (h.2 (w + 20) 1 = E.km ∧ (∀ i, 0 ≤ i → i < 18 → h.2 (w + 21) i = E.kn i))
def zBk (h : zM) (w : Int) (x : fS) : Prop := h.2 (w + 22) 4 = x.1 2 ∧ (∀ i, 0 ≤ i → i < 150 → h.2 (w + 23) i = x.2 (4 * i) ∧ h.2 (w + 24) i = x.2 (4 * i + 1) ∧ h.2 (w + 25) i = x.2 (4 * i + 2) ∧ h.2 (w + 26) i = x.2 (4 * i + 3))
def xC (h : zM) (w : Int) (E : fE) (th : Bool) (x : fS) : Prop := fWE E ∧ fWx x.1 ∧ zRi h (w + 1) E x.1 ∧ zRE h w E ∧ (th = false → zBk h w x)
def zD (w a b : Int) : Prop := w + 1 ≤ a ∧ a ≤ w + 26 ∧ ¬ a = w + 11
theorem zRi_f {h h' : zM} {p : Int} {E : fE} {r : fR} (e : ∀ a b, p ≤ a → a ≤ p + 3 → h'.2 a b = h.2 a b) (t : zRi h p E r) : zRi h' p E r := by
  obtain ⟨t1, t2, t3, t4, t5⟩ := t
  have z : ∀ b, h'.2 p b = h.2 p b := fun b => e p b (by omega) (by omega)
  refine ⟨by rw [z]; exact t1, fun i q => by rw [z]; exact t2 i q, fun i q => by rw [z]; exact t3 i q, by rw [z, z, z, z, z, z, z, z]; exact t4, fun i a b => ?_⟩
  rw [e (p + 1) i (by omega) (by omega), e (p + 2) i (by omega) (by omega), e (p + 3) i (by omega) (by omega)]
  exact t5 i a b
theorem zRE_f {h h' : zM} {w : Int} {E : fE} (e : ∀ a b, w + 5 ≤ a → a ≤ w + 21 → ¬ a = w + 11 → h'.2 a b = h.2 a b) (t : zRE h w E) : zRE h' w E := by
  obtain ⟨⟨a1, a2, a3⟩, ⟨b1, b2⟩, ⟨c1, c2⟩, ⟨d1, d2⟩⟩ := t
  have z : ∀ k b, 5 ≤ k → k ≤ 21 → ¬ k = 11 → h'.2 (w + k) b = h.2 (w + k) b := fun k b z1 z2 z3 => e (w + k) b (by omega) (by omega) (by omega)
  refine ⟨⟨?_, fun l p q => ?_, fun i p q => ?_⟩, ⟨?_, fun l p q => ?_⟩, ⟨?_, fun l p q => ?_⟩, ⟨?_, fun l p q => ?_⟩⟩
  · rw [z 5 6 (by decide) (by decide) (by decide)]; exact a1
  · rw [z 6 l (by decide) (by decide) (by decide), z 7 l (by decide) (by decide) (by decide), z 8 l (by decide) (by decide) (by decide), z 9 l (by decide) (by decide) (by decide)]; exact a2 l p q
  · rw [z 10 i (by decide) (by decide) (by decide)]; exact a3 i p q
  · rw [z 12 3 (by decide) (by decide) (by decide)]; exact b1
  · rw [z 13 l (by decide) (by decide) (by decide), z 14 l (by decide) (by decide) (by decide), z 15 l (by decide) (by decide) (by decide)]; exact b2 l p q
  · rw [z 16 3 (by decide) (by decide) (by decide)]; exact c1
  · rw [z 17 l (by decide) (by decide) (by decide), z 18 l (by decide) (by decide) (by decide), z 19 l (by decide) (by decide) (by decide)]; exact c2 l p q
  · rw [z 20 1 (by decide) (by decide) (by decide)]; exact d1
  · rw [z 21 l (by decide) (by decide) (by decide)]; exact d2 l p q
theorem zBk_f {h h' : zM} {w : Int} {x : fS} (e : ∀ a b, w + 22 ≤ a → a ≤ w + 26 → h'.2 a b = h.2 a b) (t : zBk h w x) : zBk h' w x := by
  obtain ⟨a, b⟩ := t
  refine ⟨by rw [e _ _ (by omega) (by omega)]; exact a, fun i p q => ?_⟩
  rw [e (w + 23) i (by omega) (by omega), e (w + 24) i (by omega) (by omega), e (w + 25) i (by omega) (by omega), e (w + 26) i (by omega) (by omega)]
  exact b i p q
theorem xC_f {h h' : zM} {w : Int} {E : fE} {th : Bool} {x : fS} (t : xC h w E th x) (e : ∀ a b, zD w a b → h'.2 a b = h.2 a b) : xC h' w E th x :=
  ⟨t.1, t.2.1, zRi_f (fun a b p q => e a b (by unfold zD; omega)) t.2.2.1, zRE_f (fun a b p q s => e a b (by unfold zD; omega)) t.2.2.2.1, fun z => zBk_f (fun a b p q => e a b (by unfold zD; omega)) (t.2.2.2.2 z)⟩
theorem zBk_u {h : zM} {w k v : Int} {x : fS} (hk : ¬ k = 2) (t : zBk h w x) : zBk h w (fup x.1 k v, x.2) := ⟨by rw [t.1]; exact (fup_n (fun z => hk z.symm)).symm, t.2⟩
/-- a field of the island -/
theorem xC_w {h h' : zM} {w s k v : Int} {E : fE} {th : Bool} {x : fS} (t : xC h w E th x) (e : h' = zwr h (w + 1) s v) (hs : (s = 6 ∧ k = 3 ∧ 0 ≤ v ∧ v ≤ 719) ∨ (s = 7 ∧ k = 4) ∨ (s = 8 ∧ k = 5) ∨ (s = 9 ∧ k = 6) ∨ (s = 11 ∧ k = 8) ∨ (s = 12 ∧ k = 0) ∨ (s = 13 ∧ k = 1)) : xC h' w E th (fup x.1 k v, x.2) := by
  obtain ⟨t1, t2, ⟨i1, i2, i3, i4, i5⟩, t4, t5⟩ := t
  have o : ∀ a b, ¬ (a = w + 1 ∧ b = s) → h'.2 a b = h.2 a b := fun a b z => zwr_r e z
  have o1 : ∀ b, ¬ b = s → h'.2 (w + 1) b = h.2 (w + 1) b := fun b z => o _ _ (fun q => z q.2)
  have vv : h'.2 (w + 1) s = v := zwr_v e
  have n : ∀ i, ¬ i = k → fup x.1 k v i = x.1 i := fun i z => fup_n z
  have y : fup x.1 k v k = v := fup_s _ _ _
  refine ⟨t1, fWx_u t2 (by omega) (by omega) (by omega) (by omega), ⟨?_, fun i q => ?_, fun i q => ?_, ?_, fun i a b => ?_⟩, zRE_f (fun a b p q s => o a b (by omega)) t4, fun z => zBk_u (by omega) (zBk_f (fun a b p q => o a b (by omega)) (t5 z))⟩
  · rw [o1 3 (by omega)]; exact i1
  · rw [o1 4 (by omega)]
    show _ = (decide ((i : Int) < E.n) && decide (fup x.1 k v (9 + (i : Int)) = 0))
    rw [n _ (by omega)]; exact i2 i q
  · rw [o1 5 (by omega)]
    show _ = (decide ((i : Int) < E.n) && decide (fup x.1 k v (27 + (i : Int)) = 1))
    rw [n _ (by omega)]; exact i3 i q
  · obtain ⟨j1, j2, j3, j4, j5, j6, j7, j8⟩ := i4
    show h'.2 (w + 1) 6 = fup x.1 k v 3 ∧ h'.2 (w + 1) 7 = fup x.1 k v 4 ∧ h'.2 (w + 1) 8 = fup x.1 k v 5 ∧ h'.2 (w + 1) 9 = fup x.1 k v 6 ∧ h'.2 (w + 1) 10 = 1 - fup x.1 k v 7 ∧ h'.2 (w + 1) 11 = fup x.1 k v 8 ∧ h'.2 (w + 1) 12 = fup x.1 k v 0 ∧ h'.2 (w + 1) 13 = fup x.1 k v 1
    rcases hs with ⟨rfl, rfl, _⟩ | ⟨rfl, rfl⟩ | ⟨rfl, rfl⟩ | ⟨rfl, rfl⟩ | ⟨rfl, rfl⟩ | ⟨rfl, rfl⟩ | ⟨rfl, rfl⟩
    · rw [vv, y, o1 7 (by decide), o1 8 (by decide), o1 9 (by decide), o1 10 (by decide), o1 11 (by decide), o1 12 (by decide), o1 13 (by decide), n 4 (by decide), n 5 (by decide), n 6 (by decide), n 7 (by decide), n 8 (by decide), n 0 (by decide), n 1 (by decide)]
      exact ⟨rfl, j2, j3, j4, j5, j6, j7, j8⟩
    · rw [vv, y, o1 6 (by decide), o1 8 (by decide), o1 9 (by decide), o1 10 (by decide), o1 11 (by decide), o1 12 (by decide), o1 13 (by decide), n 3 (by decide), n 5 (by decide), n 6 (by decide), n 7 (by decide), n 8 (by decide), n 0 (by decide), n 1 (by decide)]
      exact ⟨j1, rfl, j3, j4, j5, j6, j7, j8⟩
    · rw [vv, y, o1 6 (by decide), o1 7 (by decide), o1 9 (by decide), o1 10 (by decide), o1 11 (by decide), o1 12 (by decide), o1 13 (by decide), n 3 (by decide), n 4 (by decide), n 6 (by decide), n 7 (by decide), n 8 (by decide), n 0 (by decide), n 1 (by decide)]
      exact ⟨j1, j2, rfl, j4, j5, j6, j7, j8⟩
    · rw [vv, y, o1 6 (by decide), o1 7 (by decide), o1 8 (by decide), o1 10 (by decide), o1 11 (by decide), o1 12 (by decide), o1 13 (by decide), n 3 (by decide), n 4 (by decide), n 5 (by decide), n 7 (by decide), n 8 (by decide), n 0 (by decide), n 1 (by decide)]
      exact ⟨j1, j2, j3, rfl, j5, j6, j7, j8⟩
    · rw [vv, y, o1 6 (by decide), o1 7 (by decide), o1 8 (by decide), o1 9 (by decide), o1 10 (by decide), o1 12 (by decide), o1 13 (by decide), n 3 (by decide), n 4 (by decide), n 5 (by decide), n 6 (by decide), n 7 (by decide), n 0 (by decide), n 1 (by decide)]
      exact ⟨j1, j2, j3, j4, j5, rfl, j7, j8⟩
    · rw [vv, y, o1 6 (by decide), o1 7 (by decide), o1 8 (by decide), o1 9 (by decide), o1 10 (by decide), o1 11 (by decide), o1 13 (by decide), n 3 (by decide), n 4 (by decide), n 5 (by decide), n 6 (by decide), n 7 (by decide), n 8 (by decide), n 1 (by decide)]
      exact ⟨j1, j2, j3, j4, j5, j6, rfl, j8⟩
    · rw [vv, y, o1 6 (by decide), o1 7 (by decide), o1 8 (by decide), o1 9 (by decide), o1 10 (by decide), o1 11 (by decide), o1 12 (by decide), n 3 (by decide), n 4 (by decide), n 5 (by decide), n 6 (by decide), n 7 (by decide), n 8 (by decide), n 0 (by decide)]
      exact ⟨j1, j2, j3, j4, j5, j6, j7, rfl⟩
  · rw [o (w + 1 + 1) i (by omega), o (w + 1 + 2) i (by omega), o (w + 1 + 3) i (by omega)]
    show _ ∧ _ ∧ _ = fup x.1 k v (45 + i)
    rw [n _ (by omega)]; exact i5 i a b
/-- school -/
theorem xC_sc {h h' : zM} {w v u : Int} {E : fE} {th : Bool} {x : fS} (t : xC h w E th x) (e : h' = zwr h (w + 1) 10 v) (hv : v = 1 - u) (hu : u = 0 ∨ u = 1) : xC h' w E th (fup x.1 7 u, x.2) := by
  obtain ⟨t1, t2, ⟨i1, i2, i3, i4, i5⟩, t4, t5⟩ := t
  have o : ∀ a b, ¬ (a = w + 1 ∧ b = 10) → h'.2 a b = h.2 a b := fun a b z => zwr_r e z
  have o1 : ∀ b, ¬ b = 10 → h'.2 (w + 1) b = h.2 (w + 1) b := fun b z => o _ _ (fun q => z q.2)
  have n : ∀ i, ¬ i = 7 → fup x.1 7 u i = x.1 i := fun i z => fup_n z
  have y : fup x.1 7 u 7 = u := fup_s _ _ _
  refine ⟨t1, fWx_u t2 (by omega) (by omega) (fun _ => hu) (by omega), ⟨?_, fun i q => ?_, fun i q => ?_, ?_, fun i a b => ?_⟩, zRE_f (fun a b p q s => o a b (by omega)) t4, fun z => zBk_u (by omega) (zBk_f (fun a b p q => o a b (by omega)) (t5 z))⟩
  · rw [o1 3 (by omega)]; exact i1
  · rw [o1 4 (by omega)]
    show _ = (decide ((i : Int) < E.n) && decide (fup x.1 7 u (9 + (i : Int)) = 0))
    rw [n _ (by omega)]; exact i2 i q
  · rw [o1 5 (by omega)]
    show _ = (decide ((i : Int) < E.n) && decide (fup x.1 7 u (27 + (i : Int)) = 1))
    rw [n _ (by omega)]; exact i3 i q
  · obtain ⟨j1, j2, j3, j4, j5, j6, j7, j8⟩ := i4
    show h'.2 (w + 1) 6 = fup x.1 7 u 3 ∧ h'.2 (w + 1) 7 = fup x.1 7 u 4 ∧ h'.2 (w + 1) 8 = fup x.1 7 u 5 ∧ h'.2 (w + 1) 9 = fup x.1 7 u 6 ∧ h'.2 (w + 1) 10 = 1 - fup x.1 7 u 7 ∧ h'.2 (w + 1) 11 = fup x.1 7 u 8 ∧ h'.2 (w + 1) 12 = fup x.1 7 u 0 ∧ h'.2 (w + 1) 13 = fup x.1 7 u 1
    rw [zwr_v e, y, o1 6 (by decide), o1 7 (by decide), o1 8 (by decide), o1 9 (by decide), o1 11 (by decide), o1 12 (by decide), o1 13 (by decide), n 3 (by decide), n 4 (by decide), n 5 (by decide), n 6 (by decide), n 8 (by decide), n 0 (by decide), n 1 (by decide)]
    exact ⟨j1, j2, j3, j4, hv, j6, j7, j8⟩
  · rw [o (w + 1 + 1) i (by omega), o (w + 1 + 2) i (by omega), o (w + 1 + 3) i (by omega)]
    show _ ∧ _ ∧ _ = fup x.1 7 u (45 + i)
    rw [n _ (by omega)]; exact i5 i a b
/-- who is here; who is begged to stay -/
theorem xC_b {h h' : zM} {w s k o u v : Int} {E : fE} {th : Bool} {x : fS} (t : xC h w E th x) (e : h' = zwr h (w + 1) s v) (hs : (s = 4 ∧ k = 9) ∨ (s = 5 ∧ k = 27)) (ho : 0 ≤ o ∧ o < 18) (hu : u = 0 ∨ u = 1)
    (hv : ∀ i : Nat, i < 32 → fgb v i = if (i : Int) = o then (decide (o < E.n) && decide (u = if s = 4 then 0 else 1)) else fgb (h.2 (w + 1) s) i) : xC h' w E th (fup x.1 (k + o) u, x.2) := by
  obtain ⟨t1, t2, ⟨i1, i2, i3, i4, i5⟩, t4, t5⟩ := t
  have f : ∀ a b, ¬ (a = w + 1 ∧ b = s) → h'.2 a b = h.2 a b := fun a b z => zwr_r e z
  have f1 : ∀ b, ¬ b = s → h'.2 (w + 1) b = h.2 (w + 1) b := fun b z => f _ _ (fun q => z q.2)
  have vv : h'.2 (w + 1) s = v := zwr_v e
  have n : ∀ i, ¬ i = k + o → fup x.1 (k + o) u i = x.1 i := fun i z => fup_n z
  refine ⟨t1, fWx_u t2 (by omega) (by omega) (by omega) (fun _ _ => hu), ⟨?_, fun i q => ?_, fun i q => ?_, ?_, fun i a b => ?_⟩, zRE_f (fun a b p q s => f a b (by omega)) t4, fun z => zBk_u (by omega) (zBk_f (fun a b p q => f a b (by omega)) (t5 z))⟩
  · rw [f1 3 (by omega)]; exact i1
  · show fgb _ i = (decide ((i : Int) < E.n) && decide (fup x.1 (k + o) u (9 + (i : Int)) = 0))
    rcases hs with ⟨rfl, rfl⟩ | ⟨rfl, rfl⟩
    · rw [vv, hv i q]
      by_cases y : (i : Int) = o
      · rw [if_pos y, y, fup_s, if_pos rfl]
      · rw [if_neg y, n _ (by omega)]; exact i2 i q
    · rw [f1 4 (by decide)]
      by_cases y : 9 + (i : Int) = 27 + o
      · have g : ¬ (i : Int) < E.n := by have := t1.1; omega
        rw [i2 i q, decide_eq_false g]; rfl
      · rw [n _ y]; exact i2 i q
  · show fgb _ i = (decide ((i : Int) < E.n) && decide (fup x.1 (k + o) u (27 + (i : Int)) = 1))
    rcases hs with ⟨rfl, rfl⟩ | ⟨rfl, rfl⟩
    · rw [f1 5 (by decide), n _ (by omega)]; exact i3 i q
    · rw [vv, hv i q]
      by_cases y : (i : Int) = o
      · rw [if_pos y, y, fup_s, if_neg (by decide)]
      · rw [if_neg y, n _ (by omega)]; exact i3 i q
  · obtain ⟨j1, j2, j3, j4, j5, j6, j7, j8⟩ := i4
    show h'.2 (w + 1) 6 = fup x.1 (k + o) u 3 ∧ h'.2 (w + 1) 7 = fup x.1 (k + o) u 4 ∧ h'.2 (w + 1) 8 = fup x.1 (k + o) u 5 ∧ h'.2 (w + 1) 9 = fup x.1 (k + o) u 6 ∧ h'.2 (w + 1) 10 = 1 - fup x.1 (k + o) u 7 ∧ h'.2 (w + 1) 11 = fup x.1 (k + o) u 8 ∧ h'.2 (w + 1) 12 = fup x.1 (k + o) u 0 ∧ h'.2 (w + 1) 13 = fup x.1 (k + o) u 1
    rw [f1 6 (by omega), f1 7 (by omega), f1 8 (by omega), f1 9 (by omega), f1 10 (by omega), f1 11 (by omega), f1 12 (by omega), f1 13 (by omega), n 3 (by omega), n 4 (by omega), n 5 (by omega), n 6 (by omega), n 7 (by omega), n 8 (by omega), n 0 (by omega), n 1 (by omega)]
    exact ⟨j1, j2, j3, j4, j5, j6, j7, j8⟩
  · rw [f (w + 1 + 1) i (by omega), f (w + 1 + 2) i (by omega), f (w + 1 + 3) i (by omega)]
    show _ ∧ _ ∧ _ = fup x.1 (k + o) u (45 + i)
    rw [n _ (by omega)]; exact i5 i a b
theorem xC_clr {h h' : zM} {w s k o v : Int} {E : fE} {th : Bool} {x : fS} (t : xC h w E th x) (e : h' = zwr h (w + 1) s v) (hv : v = zand (h.2 (w + 1) s) (zxor (zshl 1 o) (-1))) (hs : (s = 4 ∧ k = 9) ∨ (s = 5 ∧ k = 27)) (ho : 0 ≤ o ∧ o < 18) : xC h' w E th (fup x.1 (k + o) (if s = 4 then 1 else 0), x.2) := by
  refine xC_b t e hs ho (by rcases hs with ⟨rfl, _⟩ | ⟨rfl, _⟩ <;> decide) (fun i q => ?_)
  rw [hv, fgb_clr _ (by omega) i]
  by_cases y : (i : Int) = o
  · rw [if_pos y, decide_eq_true (show i = o.toNat by omega)]
    rcases hs with ⟨rfl, _⟩ | ⟨rfl, _⟩ <;> simp
  · rw [if_neg y, decide_eq_false (show ¬ i = o.toNat by omega)]; simp
theorem xC_set {h h' : zM} {w s k o v : Int} {E : fE} {th : Bool} {x : fS} (t : xC h w E th x) (e : h' = zwr h (w + 1) s v) (hv : v = zor (h.2 (w + 1) s) (zshl 1 o)) (hs : (s = 4 ∧ k = 9) ∨ (s = 5 ∧ k = 27)) (ho : 0 ≤ o ∧ o < E.n) : xC h' w E th (fup x.1 (k + o) (if s = 4 then 0 else 1), x.2) := by
  have n18 := t.1.1
  refine xC_b t e hs (by omega) (by rcases hs with ⟨rfl, _⟩ | ⟨rfl, _⟩ <;> decide) (fun i q => ?_)
  rw [hv, fgb_set _ (by omega) i]
  by_cases y : (i : Int) = o
  · rw [if_pos y, decide_eq_true (show i = o.toNat by omega), decide_eq_true ho.2]
    rcases hs with ⟨rfl, _⟩ | ⟨rfl, _⟩ <;> simp
  · rw [if_neg y, decide_eq_false (show ¬ i = o.toNat by omega)]; simp
/-- how often he left -/
theorem xC_le {h h' : zM} {w o v : Int} {E : fE} {th : Bool} {x : fS} (t : xC h w E th x) (e : h' = zwr h (w + 4) o v) (ho : 0 ≤ o ∧ o < 18) : xC h' w E th (fup x.1 (45 + o) v, x.2) := by
  obtain ⟨t1, t2, ⟨i1, i2, i3, i4, i5⟩, t4, t5⟩ := t
  have f : ∀ a b, ¬ (a = w + 4 ∧ b = o) → h'.2 a b = h.2 a b := fun a b z => zwr_r e z
  have f1 : ∀ b, h'.2 (w + 1) b = h.2 (w + 1) b := fun b => f _ _ (by omega)
  have n : ∀ i, ¬ i = 45 + o → fup x.1 (45 + o) v i = x.1 i := fun i z => fup_n z
  refine ⟨t1, fWx_u t2 (by omega) (by omega) (by omega) (by omega), ⟨?_, fun i q => ?_, fun i q => ?_, ?_, fun i a b => ?_⟩, zRE_f (fun a b p q s => f a b (by omega)) t4, fun z => zBk_u (by omega) (zBk_f (fun a b p q => f a b (by omega)) (t5 z))⟩
  · rw [f1 3]; exact i1
  · rw [f1 4]
    show _ = (decide ((i : Int) < E.n) && decide (fup x.1 (45 + o) v (9 + (i : Int)) = 0))
    by_cases y : 9 + (i : Int) = 45 + o
    · omega
    · rw [n _ y]; exact i2 i q
  · rw [f1 5]
    show _ = (decide ((i : Int) < E.n) && decide (fup x.1 (45 + o) v (27 + (i : Int)) = 1))
    by_cases y : 27 + (i : Int) = 45 + o
    · have g : ¬ (i : Int) < E.n := by have := t1.1; omega
      rw [i3 i q, decide_eq_false g]; rfl
    · rw [n _ y]; exact i3 i q
  · obtain ⟨j1, j2, j3, j4, j5, j6, j7, j8⟩ := i4
    show h'.2 (w + 1) 6 = fup x.1 (45 + o) v 3 ∧ h'.2 (w + 1) 7 = fup x.1 (45 + o) v 4 ∧ h'.2 (w + 1) 8 = fup x.1 (45 + o) v 5 ∧ h'.2 (w + 1) 9 = fup x.1 (45 + o) v 6 ∧ h'.2 (w + 1) 10 = 1 - fup x.1 (45 + o) v 7 ∧ h'.2 (w + 1) 11 = fup x.1 (45 + o) v 8 ∧ h'.2 (w + 1) 12 = fup x.1 (45 + o) v 0 ∧ h'.2 (w + 1) 13 = fup x.1 (45 + o) v 1
    rw [f1 6, f1 7, f1 8, f1 9, f1 10, f1 11, f1 12, f1 13, n 3 (by omega), n 4 (by omega), n 5 (by omega), n 6 (by omega), n 7 (by omega), n 8 (by omega), n 0 (by omega), n 1 (by omega)]
    exact ⟨j1, j2, j3, j4, j5, j6, j7, j8⟩
  · rw [f (w + 1 + 1) i (by omega), f (w + 1 + 2) i (by omega)]
    show _ ∧ _ ∧ _ = fup x.1 (45 + o) v (45 + i)
    refine ⟨(i5 i a b).1, (i5 i a b).2.1, ?_⟩
    by_cases y : i = o
    · rw [y, fup_s, show w + 1 + 3 = w + 4 by omega]; exact zwr_v e
    · rw [n _ (by omega), f _ _ (by omega)]; exact (i5 i a b).2.2
/-- the bits, asked -/
theorem xC_he {h : zM} {w i : Int} {E : fE} {th : Bool} {x : fS} (t : xC h w E th x) (hi : 0 ≤ i ∧ i < E.n) (b : -2147483648 ≤ h.2 (w + 1) 4 ∧ h.2 (w + 1) 4 ≤ 2147483647) : zand (zshr (h.2 (w + 1) 4) i) 1 = 1 ↔ x.1 (9 + i) = 0 := by
  have n18 := t.1.1
  have z := t.2.2.1.2.1
  have k := fgb_k 18 (by decide) b (fun j a c => by rw [z j c, decide_eq_false (by omega)]; rfl)
  rw [fgb_t1 (by omega) (by omega), z i.toNat (by omega), show ((i.toNat : Nat) : Int) = i by omega, decide_eq_true hi.2, Bool.true_and, decide_eq_true_iff]
theorem xC_be {h : zM} {w i : Int} {E : fE} {th : Bool} {x : fS} (t : xC h w E th x) (hi : 0 ≤ i ∧ i < E.n) (b : -2147483648 ≤ h.2 (w + 1) 5 ∧ h.2 (w + 1) 5 ≤ 2147483647) : zand (zshr (h.2 (w + 1) 5) i) 1 = 1 ↔ x.1 (27 + i) = 1 := by
  have n18 := t.1.1
  have z := t.2.2.1.2.2.1
  have k := fgb_k 18 (by decide) b (fun j a c => by rw [z j c, decide_eq_false (by omega)]; rfl)
  rw [fgb_t1 (by omega) (by omega), z i.toNat (by omega), show ((i.toNat : Nat) : Int) = i by omega, decide_eq_true hi.2, Bool.true_and, decide_eq_true_iff]
theorem xC_kn {h : zM} {w i o : Int} {E : fE} {th : Bool} {x : fS} (t : xC h w E th x) (hi : 0 ≤ i ∧ i < 18) (ho : 0 ≤ o ∧ o < 18) : zand (zshr (h.2 (w + 21) i) o) 1 = 1 ↔ fgb (E.kn i) o.toNat = true := by
  have k := (t.1.2.2.1 i hi.1 hi.2).1
  rw [t.2.2.2.1.2.2.2.2 i hi.1 hi.2, fgb_t1 (by omega) (by omega)]
/-- how many are here; how many kin are apart -/
theorem xC_ct {h : zM} {w : Int} {E : fE} {th : Bool} {x : fS} (t : xC h w E th x) (b : -2147483648 ≤ h.2 (w + 1) 4 ∧ h.2 (w + 1) 4 ≤ 2147483647) : zbcF (h.2 (w + 1) 4) = fct (fHr x.1) E.n.toNat := by
  have n18 := t.1.1
  have z := t.2.2.1.2.1
  have k := fgb_k 18 (by decide) b (fun j a c => by rw [z j c, decide_eq_false (by omega)]; rfl)
  rw [zbc_b (by omega)]
  have e : (31 : Nat) = E.n.toNat + (31 - E.n.toNat) := by omega
  rw [e, fct_z (31 - E.n.toNat) (fun i a c => by rw [z i (by omega), decide_eq_false (by omega)]; rfl)]
  exact fct_x _ (fun i a => by rw [z i (by omega), decide_eq_true (by omega), Bool.true_and]; rfl)
theorem xC_ka {h : zM} {w i y : Int} {E : fE} {th : Bool} {x : fS} (t : xC h w E th x) (hi : 0 ≤ i ∧ i < E.n) (b : -2147483648 ≤ h.2 (w + 1) 4 ∧ h.2 (w + 1) 4 ≤ 2147483647) (hy : (x.1 (9 + i) = 0 ∧ y = zxor (h.2 (w + 1) 4) (-1)) ∨ (¬ x.1 (9 + i) = 0 ∧ y = h.2 (w + 1) 4)) : zbcF (zand (h.2 (w + 21) i) y) = fct (fAp E x.1 i) E.n.toNat := by
  have n18 := t.1.1
  have z := t.2.2.1.2.1
  have kk := t.1.2.2.1 i hi.1 (by omega)
  have e0 : h.2 (w + 21) i = E.kn i := t.2.2.2.1.2.2.2.2 i hi.1 (by omega)
  rw [e0]
  have k : 0 ≤ zand (E.kn i) y ∧ zand (E.kn i) y ≤ E.kn i := zand_l (a := E.kn i) ⟨kk.1.1, by omega⟩ y
  rw [zbc_b (by omega)]
  have e : (31 : Nat) = E.n.toNat + (31 - E.n.toNat) := by omega
  rw [e, fct_z (31 - E.n.toNat) (fun j a c => by rw [fgb_and, kk.2 j (by omega)]; rfl)]
  refine fct_x _ (fun j a => ?_)
  rw [fgb_and]
  unfold fAp fHr
  have zz := z j (by omega)
  rw [decide_eq_true (show (j : Int) < E.n by omega), Bool.true_and] at zz
  rcases hy with ⟨h1, rfl⟩ | ⟨h1, rfl⟩
  · rw [fgb_xor, fgb_m1 j (by omega), zz, decide_eq_true h1]
  · rw [zz, decide_eq_false h1]
    cases fgb (E.kn i) j <;> cases decide (x.1 (9 + (j : Int)) = 0) <;> rfl
theorem fHeld_m {lo hi v : Int} (h : lo ≤ hi) : zm_max lo (zm_min hi v) = fHeld v lo hi := by
  have a := zm_max_f lo (zm_min hi v)
  have b := zm_min_f hi v
  have c := fHeld_f v lo hi
  omega
/-! ===== what the relation tells; a line of the book; codes of the law ===== -/
theorem xC_g {h : zM} {w : Int} {E : fE} {th : Bool} {x : fS} (t : xC h w E th x) : h.2 (w + 1) 3 = E.n ∧ h.2 (w + 1) 6 = x.1 3 ∧ h.2 (w + 1) 7 = x.1 4 ∧ h.2 (w + 1) 8 = x.1 5 ∧ h.2 (w + 1) 9 = x.1 6 ∧ h.2 (w + 1) 10 = 1 - x.1 7 ∧ h.2 (w + 1) 11 = x.1 8 ∧ h.2 (w + 1) 12 = x.1 0 ∧ h.2 (w + 1) 13 = x.1 1 := ⟨t.2.2.1.1, t.2.2.1.2.2.2.1⟩
theorem xC_n {h : zM} {w : Int} {E : fE} {th : Bool} {x : fS} (t : xC h w E th x) : 0 ≤ E.n ∧ E.n ≤ 18 := t.1.1
theorem xC_i {h : zM} {w i : Int} {E : fE} {th : Bool} {x : fS} (t : xC h w E th x) (a : 0 ≤ i) (b : i < 18) : h.2 (w + 2) i = E.wt i ∧ h.2 (w + 3) i = E.lg i ∧ h.2 (w + 4) i = x.1 (45 + i) := by
  have z := t.2.2.1.2.2.2.2 i a b
  rw [show w + 1 + 1 = w + 2 by omega, show w + 1 + 2 = w + 3 by omega, show w + 1 + 3 = w + 4 by omega] at z
  exact z
theorem xC_l {h : zM} {w l : Int} {E : fE} {th : Bool} {x : fS} (t : xC h w E th x) (a : 0 ≤ l) (b : l < E.lm) : h.2 (w + 6) l = E.lw l ∧ h.2 (w + 7) l = E.lf l ∧ h.2 (w + 8) l = E.lh l ∧ h.2 (w + 9) l = E.lt l := t.2.2.2.1.1.2.1 l a b
theorem xC_m {h : zM} {w : Int} {E : fE} {th : Bool} {x : fS} (t : xC h w E th x) : h.2 (w + 5) 6 = E.lm ∧ h.2 (w + 12) 3 = E.bm ∧ h.2 (w + 16) 3 = E.dm ∧ h.2 (w + 20) 1 = E.km := ⟨t.2.2.2.1.1.1, t.2.2.2.1.2.1.1, t.2.2.2.1.2.2.1.1, t.2.2.2.1.2.2.2.1⟩
theorem xC_c {h : zM} {w i : Int} {E : fE} {th : Bool} {x : fS} (t : xC h w E th x) (a : 0 ≤ i) (b : i < E.ln) : h.2 (w + 10) i = E.cd i := t.2.2.2.1.1.2.2 i a b
theorem xC_bt {h : zM} {w l : Int} {E : fE} {th : Bool} {x : fS} (t : xC h w E th x) (a : 0 ≤ l) (b : l < E.bm) : h.2 (w + 13) l = E.bd l ∧ h.2 (w + 15) l = E.bs l ∧ ((E.bo l = 1 ∧ h.2 (w + 14) l = 2) ∨ (¬ E.bo l = 1 ∧ h.2 (w + 14) l = 3)) := t.2.2.2.1.2.1.2 l a b
theorem xC_td {h : zM} {w l : Int} {E : fE} {th : Bool} {x : fS} (t : xC h w E th x) (a : 0 ≤ l) (b : l < E.dm) : (h.2 (w + 17) l = E.dd l ∧ h.2 (w + 18) l = E.dw l + 1 ∧ h.2 (w + 19) l = E.dn l) ∧ fWd E l := ⟨t.2.2.2.1.2.2.1.2 l a b, t.1.2.2.2.2.2.2 l a b⟩
theorem xC_wl {h : zM} {w l : Int} {E : fE} {th : Bool} {x : fS} (t : xC h w E th x) (a : 0 ≤ l) (b : l < E.lm) : fWl E l := t.1.2.2.2.1.2.2 l a b
theorem xC_wi {h : zM} {w i : Int} {E : fE} {th : Bool} {x : fS} (t : xC h w E th x) (a : 0 ≤ i) (b : i < 18) : (0 ≤ E.wt i ∧ E.wt i ≤ 200) ∧ (0 ≤ E.lg i ∧ E.lg i ≤ 9) := t.1.2.1 i a b
theorem xC_c4 {h h' : zM} {w o v : Int} {E : fE} {th : Bool} {x : fS} (t : xC h w E th x) (e : h' = zwr h (w + 1) 4 v) (hv : v = zand (h.2 (w + 1) 4) (zxor (zshl 1 o) (-1))) (ho : 0 ≤ o ∧ o < 18) : xC h' w E th (fup x.1 (9 + o) 1, x.2) := by
  have z := xC_clr (k := 9) t e hv (Or.inl ⟨rfl, rfl⟩) ho
  rw [if_pos rfl] at z; exact z
theorem xC_c5 {h h' : zM} {w o v : Int} {E : fE} {th : Bool} {x : fS} (t : xC h w E th x) (e : h' = zwr h (w + 1) 5 v) (hv : v = zand (h.2 (w + 1) 5) (zxor (zshl 1 o) (-1))) (ho : 0 ≤ o ∧ o < 18) : xC h' w E th (fup x.1 (27 + o) 0, x.2) := by
  have z := xC_clr (k := 27) t e hv (Or.inr ⟨rfl, rfl⟩) ho
  rw [if_neg (by decide)] at z; exact z
theorem xC_s4 {h h' : zM} {w o v : Int} {E : fE} {th : Bool} {x : fS} (t : xC h w E th x) (e : h' = zwr h (w + 1) 4 v) (hv : v = zor (h.2 (w + 1) 4) (zshl 1 o)) (ho : 0 ≤ o ∧ o < E.n) : xC h' w E th (fup x.1 (9 + o) 0, x.2) := by
  have z := xC_set (k := 9) t e hv (Or.inl ⟨rfl, rfl⟩) ho
  rw [if_pos rfl] at z; exact z
theorem xC_s5 {h h' : zM} {w o v : Int} {E : fE} {th : Bool} {x : fS} (t : xC h w E th x) (e : h' = zwr h (w + 1) 5 v) (hv : v = zor (h.2 (w + 1) 5) (zshl 1 o)) (ho : 0 ≤ o ∧ o < E.n) : xC h' w E th (fup x.1 (27 + o) 1, x.2) := by
  have z := xC_set (k := 27) t e hv (Or.inr ⟨rfl, rfl⟩) ho
  rw [if_neg (by decide)] at z; exact z
def fBw (h h' : zM) (c p1 p2 p3 p4 : Int) : Prop := (150 ≤ h.2 c 4 → ∀ a b, c ≤ a → a ≤ c + 4 → h'.2 a b = h.2 a b) ∧ (h.2 c 4 < 150 → h'.2 c 4 = h.2 c 4 + 1 ∧ ∀ j, h'.2 (c + 1) j = (if j = h.2 c 4 then p1 else h.2 (c + 1) j) ∧ h'.2 (c + 2) j = (if j = h.2 c 4 then p2 else h.2 (c + 2) j) ∧ h'.2 (c + 3) j = (if j = h.2 c 4 then p3 else h.2 (c + 3) j) ∧ h'.2 (c + 4) j = (if j = h.2 c 4 then p4 else h.2 (c + 4) j))
theorem zwr_if {h h' : zM} {c k v : Int} (e : h' = zwr h c k v) (j : Int) : h'.2 c j = if j = k then v else h.2 c j := by
  by_cases q : j = k
  · rw [if_pos q, q]; exact zwr_v e
  · rw [if_neg q]; exact zwr_r e (fun z => q z.2)
theorem zRi_2 {h : zM} {p v : Int} {E : fE} {r : fR} (t : zRi h p E r) : zRi h p E (fup r 2 v) := by
  obtain ⟨t1, t2, t3, t4, t5⟩ := t
  have n : ∀ i, ¬ i = 2 → fup r 2 v i = r i := fun i z => fup_n z
  refine ⟨t1, fun i q => by rw [n _ (by omega)]; exact t2 i q, fun i q => by rw [n _ (by omega)]; exact t3 i q, ?_, fun i a b => by rw [n _ (by omega)]; exact t5 i a b⟩
  rw [n 3 (by decide), n 4 (by decide), n 5 (by decide), n 6 (by decide), n 7 (by decide), n 8 (by decide), n 0 (by decide), n 1 (by decide)]
  exact t4
theorem fBl_o {b : fR} {k a p q s i j : Int} (h : ¬ i = k) (hj : 0 ≤ j ∧ j ≤ 3) : fBl b k a p q s (4 * i + j) = b (4 * i + j) := by
  unfold fBl
  rw [if_neg (by omega), if_neg (by omega), if_neg (by omega), if_neg (by omega)]
theorem xC_nt {h h' : zM} {w p1 p2 p3 p4 : Int} {E : fE} {th : Bool} {x : fS} (t : xC h w E th x) (fr : ∀ a b, w + 1 ≤ a → a ≤ w + 21 → h'.2 a b = h.2 a b) (po : fBw h h' (w + 22) p1 p2 p3 p4) (hd : p1 = x.1 0) : xC h' w E th (fNt th x p2 p3 p4) := by
  obtain ⟨t1, t2, t3, t4, t5⟩ := t
  have s3 : zRi h' (w + 1) E x.1 := zRi_f (fun a b p q => fr a b (by omega) (by omega)) t3
  have s4 : zRE h' w E := zRE_f (fun a b p q s => fr a b (by omega) (by omega)) t4
  cases th with
  | true =>
    have e : fNt true x p2 p3 p4 = x := if_pos (Or.inl rfl)
    rw [e]
    exact ⟨t1, t2, s3, s4, fun z => absurd z (by decide)⟩
  | false =>
    obtain ⟨b1, b2⟩ := t5 rfl
    have w2 := t2.2.1
    by_cases q : x.1 2 = 150
    · have e : fNt false x p2 p3 p4 = x := if_pos (Or.inr q)
      rw [e]
      have g := po.1 (by omega)
      exact ⟨t1, t2, s3, s4, fun _ => zBk_f (fun a b y z => g a b (by omega) (by omega)) ⟨b1, b2⟩⟩
    · have e : fNt false x p2 p3 p4 = (fup x.1 2 (x.1 2 + 1), fBl x.2 (x.1 2) (x.1 0) p2 p3 p4) := if_neg (by rintro (z | z); exact absurd z (by decide); exact q z)
      rw [e]
      obtain ⟨g1, g2⟩ := po.2 (by omega)
      refine ⟨t1, fWx_u t2 (by omega) (by omega) (by omega) (by omega), zRi_2 s3, s4, fun _ => ⟨?_, fun i a b => ?_⟩⟩
      · show h'.2 (w + 22) 4 = fup x.1 2 (x.1 2 + 1) 2
        rw [g1, b1, fup_s]
      · obtain ⟨c1, c2, c3, c4⟩ := g2 i
        obtain ⟨d1, d2, d3, d4⟩ := b2 i a b
        rw [show w + 23 = w + 22 + 1 by omega, show w + 24 = w + 22 + 2 by omega, show w + 25 = w + 22 + 3 by omega, show w + 26 = w + 22 + 4 by omega, c1, c2, c3, c4, b1]
        rw [show w + 23 = w + 22 + 1 by omega] at d1
        rw [show w + 24 = w + 22 + 2 by omega] at d2
        rw [show w + 25 = w + 22 + 3 by omega] at d3
        rw [show w + 26 = w + 22 + 4 by omega] at d4
        show _ = fBl x.2 (x.1 2) (x.1 0) p2 p3 p4 (4 * i) ∧ _ = fBl x.2 (x.1 2) (x.1 0) p2 p3 p4 (4 * i + 1) ∧ _ = fBl x.2 (x.1 2) (x.1 0) p2 p3 p4 (4 * i + 2) ∧ _ = fBl x.2 (x.1 2) (x.1 0) p2 p3 p4 (4 * i + 3)
        by_cases y : i = x.1 2
        · rw [if_pos y, if_pos y, if_pos y, if_pos y, y, hd]
          unfold fBl
          refine ⟨(if_pos rfl).symm, ?_, ?_, ?_⟩
          · rw [if_neg (by omega), if_pos rfl]
          · rw [if_neg (by omega), if_neg (by omega), if_pos rfl]
          · rw [if_neg (by omega), if_neg (by omega), if_neg (by omega), if_pos rfl]
        · rw [if_neg y, if_neg y, if_neg y, if_neg y, d1, d2, d3, d4]
          have f0 := fBl_o (b := x.2) (a := x.1 0) (p := p2) (q := p3) (s := p4) (j := 0) y (by decide)
          rw [show 4 * i + 0 = 4 * i by omega] at f0
          exact ⟨f0.symm, (fBl_o y (by decide)).symm, (fBl_o y (by decide)).symm, (fBl_o y (by decide)).symm⟩
def fth (p : Int) : Bool := decide (p = 1)
theorem fth_t {p : Int} (h : ¬ p = 0) (b : 0 ≤ p ∧ p ≤ 1) : fth p = true := decide_eq_true (show p = 1 by omega)
theorem fth_f {p : Int} (h : p = 0) : fth p = false := by rw [h]; rfl
/-- what a run of codes is asked with -/
def zRn (h : zM) (c p1 p2 p3 p4 : Int) (E : fE) (th : Bool) (x : fS) : Prop := c = p3 + 5 ∧ xC h p3 E th x ∧ (0 ≤ p4 ∧ p4 < E.n) ∧ (0 ≤ p1 ∧ p1 ≤ p2 ∧ p2 ≤ E.ln) ∧ ∃ y, fTy (tSk E.cd p2.toNat) (p2 - p1).toNat = some [y]
def fJg (g x y : Int) : Prop := (g = 42 ∨ g = 43 ∨ g = 45 ∨ g = 47 ∨ g = 60 ∨ g = 61 ∨ g = 62) ∨ ((g = 4 ∨ g = 5) ∧ (x = 0 ∨ x = 1) ∧ (y = 0 ∨ y = 1))
theorem fJn_f (g x y : Int) : (g = 43 ∧ fJn g x y = zwp (x + y)) ∨ (g = 45 ∧ fJn g x y = zwp (x - y)) ∨ (g = 42 ∧ fJn g x y = zwp (x * y)) ∨ (g = 47 ∧ y = 0 ∧ fJn g x y = 0) ∨ (g = 47 ∧ ¬ y = 0 ∧ fJn g x y = zwp (x.tdiv y)) ∨ (g = 60 ∧ x < y ∧ fJn g x y = 1) ∨ (g = 60 ∧ ¬ x < y ∧ fJn g x y = 0) ∨ (g = 61 ∧ x = y ∧ fJn g x y = 1) ∨ (g = 61 ∧ ¬ x = y ∧ fJn g x y = 0) ∨ (g = 62 ∧ y < x ∧ fJn g x y = 1) ∨ (g = 62 ∧ ¬ y < x ∧ fJn g x y = 0) ∨ (g = 5 ∧ fJn g x y = x * y) ∨ ¬ (g = 43 ∨ g = 45 ∨ g = 42 ∨ g = 47 ∨ g = 60 ∨ g = 61 ∨ g = 62 ∨ g = 5) := by
  unfold fJn
  by_cases h1 : g = 43
  · rw [if_pos h1]; exact Or.inl ⟨h1, rfl⟩
  rw [if_neg h1]
  by_cases h2 : g = 45
  · rw [if_pos h2]; exact Or.inr (Or.inl ⟨h2, rfl⟩)
  rw [if_neg h2]
  by_cases h3 : g = 42
  · rw [if_pos h3]; exact Or.inr (Or.inr (Or.inl ⟨h3, rfl⟩))
  rw [if_neg h3]
  by_cases h4 : g = 47
  · rw [if_pos h4]
    by_cases q : y = 0
    · rw [if_pos q]; exact Or.inr (Or.inr (Or.inr (Or.inl ⟨h4, q, rfl⟩)))
    · rw [if_neg q]; exact Or.inr (Or.inr (Or.inr (Or.inr (Or.inl ⟨h4, q, rfl⟩))))
  rw [if_neg h4]
  by_cases h5 : g = 60
  · rw [if_pos h5]
    by_cases q : x < y
    · rw [if_pos q]; exact Or.inr (Or.inr (Or.inr (Or.inr (Or.inr (Or.inl ⟨h5, q, rfl⟩)))))
    · rw [if_neg q]; exact Or.inr (Or.inr (Or.inr (Or.inr (Or.inr (Or.inr (Or.inl ⟨h5, q, rfl⟩))))))
  rw [if_neg h5]
  by_cases h6 : g = 61
  · rw [if_pos h6]
    by_cases q : x = y
    · rw [if_pos q]; exact Or.inr (Or.inr (Or.inr (Or.inr (Or.inr (Or.inr (Or.inr (Or.inl ⟨h6, q, rfl⟩)))))))
    · rw [if_neg q]; exact Or.inr (Or.inr (Or.inr (Or.inr (Or.inr (Or.inr (Or.inr (Or.inr (Or.inl ⟨h6, q, rfl⟩))))))))
  rw [if_neg h6]
  by_cases h7 : g = 62
  · rw [if_pos h7]
    by_cases q : y < x
    · rw [if_pos q]; exact Or.inr (Or.inr (Or.inr (Or.inr (Or.inr (Or.inr (Or.inr (Or.inr (Or.inr (Or.inl ⟨h7, q, rfl⟩)))))))))
    · rw [if_neg q]; exact Or.inr (Or.inr (Or.inr (Or.inr (Or.inr (Or.inr (Or.inr (Or.inr (Or.inr (Or.inr (Or.inl ⟨h7, q, rfl⟩))))))))))
  rw [if_neg h7]
  by_cases h8 : g = 5
  · rw [if_pos h8]; exact Or.inr (Or.inr (Or.inr (Or.inr (Or.inr (Or.inr (Or.inr (Or.inr (Or.inr (Or.inr (Or.inr (Or.inl ⟨h8, rfl⟩)))))))))))
  exact Or.inr (Or.inr (Or.inr (Or.inr (Or.inr (Or.inr (Or.inr (Or.inr (Or.inr (Or.inr (Or.inr (Or.inr (by omega))))))))))))
theorem fTl_n {E : fE} {r : fR} {w i v : Int} (h : fLn E r i w E.lm.toNat 0 = -1) (hv : v = fHeld (fDf E w i) 0 (fMo w)) : v = fTl E r w i := by
  unfold fTl fTo
  rw [h, if_pos rfl, hv]
theorem fTl_y {E : fE} {r : fR} {w i l v : Int} (h : fLn E r i w E.lm.toNat 0 = l) (hl : 0 ≤ l) (hv : v = fHeld (fRun E r i (E.lf l) (E.lh l)) 0 (fMo w)) : v = fTl E r w i := by
  unfold fTl fTo
  rw [h, if_neg (by omega), hv]
theorem fAsk_f (E : fE) (r : fR) (i k : Int) : (k = 0 → fAsk E r i k = E.wt i) ∧ (k = 1 → fAsk E r i k = E.lg i) ∧ (k = 2 → fAsk E r i k = r (45 + i)) ∧ (k = 3 → fAsk E r i k = fct (fHr r) E.n.toNat) ∧ (k = 4 → fAsk E r i k = E.n) ∧ (k = 5 → fAsk E r i k = fHeld (r 4) (-9999) 9999) ∧ (k = 6 → fAsk E r i k = r 3) ∧ (k = 7 → fAsk E r i k = 1 - r 7) ∧ (k = 8 → fAsk E r i k = fct (fAp E r i) E.n.toNat) ∧ (k = 9 → fAsk E r i k = r 0) := by
  refine ⟨fun z => ?_, fun z => ?_, fun z => ?_, fun z => ?_, fun z => ?_, fun z => ?_, fun z => ?_, fun z => ?_, fun z => ?_, fun z => ?_⟩ <;> unfold fAsk
  · rw [if_pos z]
  · rw [if_neg (by omega), if_pos z]
  · rw [if_neg (by omega), if_neg (by omega), if_pos z]
  · rw [if_neg (by omega), if_neg (by omega), if_neg (by omega), if_pos z]
  · rw [if_neg (by omega), if_neg (by omega), if_neg (by omega), if_neg (by omega), if_pos z]
  · rw [if_neg (by omega), if_neg (by omega), if_neg (by omega), if_neg (by omega), if_neg (by omega), if_pos z]
  · rw [if_neg (by omega), if_neg (by omega), if_neg (by omega), if_neg (by omega), if_neg (by omega), if_neg (by omega), if_pos z]
  · rw [if_neg (by omega), if_neg (by omega), if_neg (by omega), if_neg (by omega), if_neg (by omega), if_neg (by omega), if_neg (by omega), if_pos z]
  · rw [if_neg (by omega), if_neg (by omega), if_neg (by omega), if_neg (by omega), if_neg (by omega), if_neg (by omega), if_neg (by omega), if_neg (by omega), if_pos z]
  · rw [if_neg (by omega), if_neg (by omega), if_neg (by omega), if_neg (by omega), if_neg (by omega), if_neg (by omega), if_neg (by omega), if_neg (by omega), if_neg (by omega)]
theorem zbcF_b (x : Int) : 0 ≤ zbcF x ∧ zbcF x ≤ 63 := by
  unfold zbcF
  rw [zand_m (d := 64) 6 (by decide) (c := 63) (by decide) (by decide)]
  omega
theorem fMi_b (r : fR) : -1440 ≤ fMi r ∧ fMi r ≤ 1440 := by
  unfold fMi
  have := fHeld_f (r 4) (-1440) 1440
  omega
theorem fC1_0 (r : fR) : fC1 r 0 = r 0 := rfl
theorem fC1_3 (r : fR) : fC1 r 3 = (r 3 + fMi r) % 720 := rfl
theorem zwp_r (a b : Int) : zwp (a + zwp b) = zwp (a + b) := by rw [Int.add_comm, zwp_a, Int.add_comm]

