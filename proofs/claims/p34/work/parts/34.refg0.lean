def dop (h : zM) (k : Int) : Int := h.2 14 (800 + k)
def dar (h : zM) (k : Int) : Int := h.2 15 (800 + k)
def rdB (s : Int) (h h' : zM) : Prop := (∀ k, k < h.2 0 25 → dop h' k = dop h k ∧ dar h' k = dar h k) ∧ h.2 0 25 ≤ h'.2 0 25 ∧ h'.2 0 25 - h'.2 0 13 + s ≤ h.2 0 25 - h.2 0 13
def rdP (d : Int) (h h' : zM) : Prop := ∀ a x, 0 ≤ x → wfP (dop h) (dar h) a (h.2 0 25) x → wfP (dop h') (dar h') a (h'.2 0 25) (x + d)
def zEm (h h' : zM) (c v : Int) : Prop := h'.2 0 25 = h.2 0 25 + 1 ∧ (dop h' (h.2 0 25) = c ∧ dar h' (h.2 0 25) = v) ∧ ∀ k, k < h.2 0 25 → dop h' k = dop h k ∧ dar h' k = dar h k
theorem rdB_r (h : zM) : rdB 0 h h := ⟨fun _ _ => ⟨rfl, rfl⟩, by omega, by omega⟩
theorem rdP_r (h : zM) : rdP 0 h h := fun a x _ q => by rw [Int.add_zero]; exact q
theorem rdB_t {s s1 s2 : Int} {h h1 h2 : zM} (q1 : rdB s1 h h1) (q2 : rdB s2 h1 h2) (e : s ≤ s1 + s2) : rdB s h h2 := by
  obtain ⟨a1, a2, a3⟩ := q1
  obtain ⟨b1, b2, b3⟩ := q2
  exact ⟨fun k hk => ⟨(b1 k (by omega)).1.trans (a1 k hk).1, (b1 k (by omega)).2.trans (a1 k hk).2⟩, by omega, by omega⟩
theorem rdP_t {d d1 d2 : Int} {h h1 h2 : zM} (q1 : rdP d1 h h1) (q2 : rdP d2 h1 h2) (hd : 0 ≤ d1) (e : d = d1 + d2) : rdP d h h2 := fun a x hx q => by
  rw [e, ← Int.add_assoc]
  exact q2 a (x + d1) (by omega) (q1 a x hx q)
theorem zd_same {fs : List Int} {h h' : zM} (f : zfr fs [] h h') : dop h' = dop h ∧ dar h' = dar h := ⟨funext fun _ => zfr_a f rfl (by decide), funext fun _ => zfr_a f rfl (by decide)⟩
theorem rdB_same {fs : List Int} {s : Int} {h h' : zM} (f : zfr fs [] h h') (hc : fs.contains 25 = false) (hf : h.2 0 13 + s ≤ h'.2 0 13) : rdB s h h' := by
  have e25 : h'.2 0 25 = h.2 0 25 := zfr_f f rfl hc
  refine ⟨fun k _ => ?_, by omega, by omega⟩
  rw [(zd_same f).1, (zd_same f).2]; exact ⟨rfl, rfl⟩
theorem rdP_same {fs : List Int} {h h' : zM} (f : zfr fs [] h h') (hc : fs.contains 25 = false) : rdP 0 h h' := fun a x _ q => by
  rw [(zd_same f).1, (zd_same f).2, zfr_f f rfl hc, Int.add_zero]; exact q
theorem rdB_em {h h' : zM} {c v : Int} (e : zEm h h' c v) (f : zfr [25] [14, 15] h h') : rdB (-1) h h' := by
  have e13 : h'.2 0 13 = h.2 0 13 := zfr_f f rfl rfl
  exact ⟨e.2.2, by have := e.1; omega, by have := e.1; omega⟩
theorem wfP_em {h h' : zM} {a x y : Int} (hc : h'.2 0 25 = h.2 0 25 + 1) (hb : ∀ k, k < h.2 0 25 → dop h' k = dop h k ∧ dar h' k = dar h k) (q : wfP (dop h) (dar h) a (h.2 0 25) x) (hx : 0 ≤ x) (w : wfC (dop h') (dar h') a (h.2 0 25) x y) : wfP (dop h') (dar h') a (h'.2 0 25) y := by
  obtain ⟨q0, dp, q1, q2, q3⟩ := q
  refine ⟨by omega, fun k => if k = h.2 0 25 + 1 then y else dp k, ?_, ?_, fun k k1 k2 => ?_⟩
  · dsimp only; rw [if_neg (by omega)]; exact q1
  · dsimp only; rw [hc, if_pos rfl]
  · dsimp only
    rw [if_neg (by omega)]
    by_cases e : k = h.2 0 25
    · subst e
      rw [if_pos rfl, q2]
      exact ⟨hx, w⟩
    · rw [if_neg (by omega)]
      exact ⟨(q3 k k1 (by omega)).1, wfC_ext (hb k (by omega)).1 (fun _ => hb (k - 1) (by omega)) (hb k (by omega)).2 (q3 k k1 (by omega)).2⟩
theorem rdP_push {h h' : zM} {c v : Int} (e : zEm h h' c v) (hc : c = 0 ∨ (c = 1 ∧ 0 ≤ v ∧ v ≤ 9)) : rdP 1 h h' := fun a x hx q => by
  refine wfP_em e.1 e.2.2 q hx ?_
  unfold wfC
  rw [e.2.1.1, e.2.1.2]
  omega
theorem rdP_bin {h h1 h2 : zM} {c v : Int} (q : rdP 2 h h1) (e : zEm h1 h2 c v) (hc : 2 ≤ c ∧ ¬ c = 9 ∧ ¬ c = 5) : rdP 1 h h2 := fun a x hx w => by
  refine wfP_em e.1 e.2.2 (q a x hx w) (by omega) ?_
  unfold wfC
  rw [e.2.1.1]
  omega
theorem rdP_div {h h1 h2 : zM} {v : Int} (q : rdP 2 h h1) (e : zEm h1 h2 5 v) (hm : h.2 0 25 ≤ h1.2 0 25 - 1) (hn : dop h1 (h1.2 0 25 - 1) = 0 ∧ ¬ dar h1 (h1.2 0 25 - 1) = 0) : rdP 1 h h2 := fun a x hx w => by
  refine wfP_em e.1 e.2.2 (q a x hx w) (by omega) ?_
  have ha := w.1
  have hb := e.2.2 (h1.2 0 25 - 1) (by omega)
  unfold wfC
  rw [e.2.1.1]
  refine Or.inr (Or.inr (Or.inr ⟨by omega, by omega, by omega, by omega, fun _ => ⟨by omega, hb.1.trans hn.1, ?_⟩⟩))
  rw [hb.2]; exact hn.2
theorem tok_same {fs cs : List Int} {h h' : zM} (t : tok h) (f : zfr fs cs h h') (h0 : cs.contains 0 = false) (h12 : fs.contains 12 = false) (h13 : fs.contains 13 = false) (h14 : fs.contains 14 = false) : tok h' := by
  unfold tok at t ⊢
  rw [zfr_f f h0 h12, zfr_f f h0 h13, zfr_f f h0 h14]; exact t
/-- counts -/
def zct (p : Int → Int) (w : Int) : Nat → Int
  | 0 => 0
  | n + 1 => zct p w n + (if p n = w then 1 else 0)
theorem zct_ext {p p' : Int → Int} (w : Int) : ∀ n : Nat, (∀ j : Int, 0 ≤ j → j < n → p' j = p j) → zct p' w n = zct p w n
  | 0, _ => rfl
  | n + 1, h => by
    show zct p' w n + _ = zct p w n + _
    rw [zct_ext w n (fun j q1 q2 => h j q1 (by omega)), h n (by omega) (by omega)]
theorem zct_nn (p : Int → Int) (w : Int) : ∀ n : Nat, 0 ≤ zct p w n
  | 0 => by show (0 : Int) ≤ 0; omega
  | n + 1 => by
    show 0 ≤ zct p w n + _
    have := zct_nn p w n
    split <;> omega
def zck (p : Int → Int) (w n : Int) : Int := zct p w n.toNat
theorem zck_nn (p : Int → Int) (w n : Int) : 0 ≤ zck p w n := zct_nn p w _
theorem zck_0 (p : Int → Int) (w : Int) : zck p w 0 = 0 := rfl
theorem zck_s (p : Int → Int) (w : Int) {n : Int} (hn : 0 ≤ n) : zck p w (n + 1) = zck p w n + (if p n = w then 1 else 0) := by
  unfold zck
  rw [show (n + 1).toNat = n.toNat + 1 by omega]
  show zct p w n.toNat + _ = _
  rw [show ((n.toNat : Nat) : Int) = n by omega]
theorem zck_ext {p p' : Int → Int} (w : Int) {n : Int} (hn : 0 ≤ n) (h : ∀ j : Int, 0 ≤ j → j < n → p' j = p j) : zck p' w n = zck p w n := zct_ext w n.toNat (fun j q1 q2 => h j q1 (by omega))
theorem zck_push {p p' : Int → Int} (w : Int) {n v : Int} (hn : 0 ≤ n) (h : ∀ j : Int, ¬ j = n → p' j = p j) (hv : p' n = v) : zck p' w (n + 1) = zck p w n + (if v = w then 1 else 0) := by
  rw [zck_s p' w hn, hv, zck_ext w hn (fun j q1 q2 => h j (by omega))]
theorem zck_pop {p : Int → Int} (w v : Int) {a : Int} (ha : 0 ≤ a) : ∀ m : Nat, (∀ j : Int, a ≤ j → j < a + m → p j = v) → zck p w (a + m) = zck p w a + (if v = w then (m : Int) else 0)
  | 0, _ => by rw [show a + ((0 : Nat) : Int) = a by omega]; split <;> omega
  | m + 1, h => by
    rw [show a + ((m + 1 : Nat) : Int) = (a + m) + 1 by omega, zck_s p w (by omega), zck_pop w v ha m (fun j q1 q2 => h j q1 (by omega)), h (a + m) (by omega) (by omega)]
    by_cases q : v = w
    · rw [if_pos q, if_pos q, if_pos q]; omega
    · rw [if_neg q, if_neg q, if_neg q]; omega
theorem zck_pp {p : Int → Int} (w v : Int) {a b : Int} (ha : 0 ≤ a) (hab : a ≤ b) (h : ∀ j : Int, a ≤ j → j < b → p j = v) : (v = w → zck p w b = zck p w a + (b - a)) ∧ (¬ v = w → zck p w b = zck p w a) := by
  have := zck_pop w v ha (b - a).toNat (fun j q1 q2 => h j q1 (by omega))
  rw [show a + (((b - a).toNat : Nat) : Int) = b by omega] at this
  constructor
  · intro q; rw [if_pos q] at this; omega
  · intro q; rw [if_neg q] at this; omega
/-- what waits: brackets and nots anywhere, an 'or' on a bracket, an 'and' on a bracket or an 'or' -/
def zpk1 (p : Int → Int) (i : Int) : Prop := p i = 9 ∨ p i = 12 ∨ (p i = 10 ∧ (i = 0 ∨ p (i - 1) = 11 ∨ p (i - 1) = 12)) ∨ (p i = 11 ∧ (i = 0 ∨ p (i - 1) = 12))
def zpk (p : Int → Int) (n : Int) : Prop := ∀ i, 0 ≤ i → i < n → zpk1 p i
theorem zpk_len {p : Int → Int} : ∀ n : Nat, zpk p n → (n : Int) ≤ 3 * (zck p 9 n + zck p 12 n) + (if n = 0 ∨ p ((n : Int) - 1) = 9 ∨ p ((n : Int) - 1) = 12 then 0 else if p ((n : Int) - 1) = 11 then 1 else 2)
  | 0, _ => by rw [if_pos (Or.inl rfl)]; show (0 : Int) ≤ 3 * (zck p 9 0 + zck p 12 0) + 0; rw [zck_0, zck_0]; omega
  | n + 1, h => by
    have ih := zpk_len n (fun i q1 q2 => h i q1 (by omega))
    have hz := h n (by omega) (by omega)
    unfold zpk1 at hz
    have c9 := zck_s p 9 (n := (n : Int)) (by omega)
    have c12 := zck_s p 12 (n := (n : Int)) (by omega)
    rw [show (((n + 1 : Nat)) : Int) = (n : Int) + 1 by omega, show (n : Int) + 1 - 1 = n by omega, c9, c12]
    rcases hz with hz | hz | ⟨hz, hz2⟩ | ⟨hz, hz2⟩
    · rw [if_pos hz, if_neg (by omega), if_pos (by omega)]
      split at ih <;> first | omega | (split at ih <;> omega)
    · rw [if_neg (by omega), if_pos hz, if_pos (by omega)]
      split at ih <;> first | omega | (split at ih <;> omega)
    · rw [if_neg (by omega), if_neg (by omega), if_neg (by omega), if_neg (by omega)]
      rcases hz2 with hz2 | hz2 | hz2
      · rw [if_pos (by omega)] at ih; omega
      · by_cases z0 : n = 0
        · rw [if_pos (Or.inl z0)] at ih; omega
        · rw [if_neg (by omega), if_pos hz2] at ih; omega
      · rw [if_pos (by omega)] at ih; omega
    · rw [if_neg (by omega), if_neg (by omega), if_neg (by omega), if_pos hz]
      rcases hz2 with hz2 | hz2
      · rw [if_pos (by omega)] at ih; omega
      · rw [if_pos (by omega)] at ih; omega
theorem zpk_le {p : Int → Int} {n : Int} (hn : 0 ≤ n) (h : zpk p n) : n ≤ 3 * (zck p 9 n + zck p 12 n) + 2 := by
  have := zpk_len n.toNat (by rw [show ((n.toNat : Nat) : Int) = n by omega]; exact h)
  rw [show ((n.toNat : Nat) : Int) = n by omega] at this
  split at this <;> first | omega | (split at this <;> omega)
/-- settles: what came out -/
def zSe (w : Int) (h H : zM) : Prop := H.2 0 28 ≤ h.2 0 28 ∧ 0 ≤ H.2 0 28 ∧ H.2 0 25 = h.2 0 25 + (h.2 0 28 - H.2 0 28) ∧ (∀ j, H.2 0 28 ≤ j → j < h.2 0 28 → h.2 16 j = w) ∧ (w = 9 → H.2 0 26 = h.2 0 26 - (h.2 0 28 - H.2 0 28)) ∧ (¬ w = 9 → H.2 0 26 = h.2 0 26) ∧ (∀ k, k < h.2 0 25 → dop H k = dop h k ∧ dar H k = dar h k) ∧ (w = 9 → ∀ a x, 1 ≤ x → wfP (dop h) (dar h) a (h.2 0 25) x → wfP (dop H) (dar H) a (H.2 0 25) x) ∧ (w = 10 ∨ w = 11 → ∀ a x, h.2 0 28 - H.2 0 28 + 1 ≤ x → wfP (dop h) (dar h) a (h.2 0 25) x → wfP (dop H) (dar H) a (H.2 0 25) (x - (h.2 0 28 - H.2 0 28)))
theorem zSe_0 {w : Int} {h : zM} (hp : 0 ≤ h.2 0 28) : zSe w h h := ⟨by omega, hp, by omega, fun j q1 q2 => absurd q1 (by omega), fun _ => by omega, fun _ => rfl, fun _ _ => ⟨rfl, rfl⟩, fun _ _ _ _ q => q, fun _ a x _ q => by rw [show x - (h.2 0 28 - h.2 0 28) = x by omega]; exact q⟩
theorem zSe_s {w : Int} {h H H1 H2 H3 : zM} (q : zSe w h H) (hw : w = 9 ∨ w = 10 ∨ w = 11) (f16 : ∀ j, H.2 16 j = h.2 16 j) (hp : 0 < H.2 0 28) (ht : H.2 16 (H.2 0 28 - 1) = w) (e1 : H1 = zwr H 0 28 (H.2 0 28 - 1)) (em : zEm H1 H2 w 0) (fe : zfr [25] [14, 15] H1 H2) (f3 : zfr [26] [] H2 H3) (o9 : w = 9 → H3.2 0 26 = H2.2 0 26 - 1) (on : ¬ w = 9 → H3.2 0 26 = H2.2 0 26) : zSe w h H3 := by
  obtain ⟨q1, q2, q3, q4, q5, q6, q7, q8, q9⟩ := q
  have a28 : H3.2 0 28 = H.2 0 28 - 1 := by rw [zfr_f f3 rfl rfl, zfr_f fe rfl rfl, e1, zwr_s]
  have a25 : H3.2 0 25 = H.2 0 25 + 1 := by rw [zfr_f f3 rfl rfl, em.1, e1, zwr_n (by omega)]
  have a26 : H2.2 0 26 = H.2 0 26 := by rw [zfr_f fe rfl rfl, e1, zwr_n (by omega)]
  have c1 : H1.2 0 25 = H.2 0 25 := by rw [e1, zwr_n (by omega)]
  have d1 : dop H1 = dop H ∧ dar H1 = dar H := ⟨funext fun k => by unfold dop; rw [e1, zwr_n (by omega)], funext fun k => by unfold dar; rw [e1, zwr_n (by omega)]⟩
  have d3 : dop H3 = dop H2 ∧ dar H3 = dar H2 := zd_same f3
  have b2 : ∀ k, k < H.2 0 25 → dop H3 k = dop H k ∧ dar H3 k = dar H k := fun k hk => by
    have := em.2.2 k (by omega)
    rw [d3.1, d3.2, this.1, this.2, d1.1, d1.2]; exact ⟨rfl, rfl⟩
  have dw : dop H3 (H.2 0 25) = w := by rw [d3.1, ← c1]; exact em.2.1.1
  refine ⟨by omega, by omega, by omega, fun j j1 j2 => ?_, fun z => ?_, fun z => ?_, fun k hk => ?_, fun z a x hx g => ?_, fun z a x hx g => ?_⟩
  · by_cases e : j = H.2 0 28 - 1
    · rw [e, ← f16]; exact ht
    · exact q4 j (by omega) j2
  · have := o9 z; have := q5 z; omega
  · have := on z; have := q6 z; omega
  · have x1 := b2 k (by omega); have x2 := q7 k hk
    rw [x1.1, x1.2]; exact x2
  · refine wfP_em a25 b2 (q8 z a x hx g) (by omega) ?_
    unfold wfC; rw [dw]; omega
  · have := wfP_em a25 b2 (q9 z a x (by omega) g) (by omega) (y := x - (h.2 0 28 - H3.2 0 28)) (by unfold wfC; rw [dw]; omega)
    exact this
/-- the state between the steps of readAny -/
def zAny (h H : zM) (br due : Int) : Prop := zpk (H.2 16) (H.2 0 28) ∧ 0 ≤ H.2 0 28 ∧ H.2 0 26 = h.2 0 26 + zck (H.2 16) 9 (H.2 0 28) + zck (H.2 16) 12 (H.2 0 28) ∧ br = zck (H.2 16) 12 (H.2 0 28) ∧ (∀ k, k < h.2 0 25 → dop H k = dop h k ∧ dar H k = dar h k) ∧ h.2 0 25 ≤ H.2 0 25 ∧ H.2 0 25 + H.2 0 28 - H.2 0 13 ≤ h.2 0 25 - h.2 0 13 ∧ (¬ due = 0 → ∀ a x, 0 ≤ x → wfP (dop h) (dar h) a (h.2 0 25) x → wfP (dop H) (dar H) a (H.2 0 25) (x + (zck (H.2 16) 10 (H.2 0 28) + zck (H.2 16) 11 (H.2 0 28)))) ∧ (due = 0 → (H.2 0 28 = 0 ∨ ¬ H.2 16 (H.2 0 28 - 1) = 9) ∧ ∀ a x, 0 ≤ x → wfP (dop h) (dar h) a (h.2 0 25) x → wfP (dop H) (dar H) a (H.2 0 25) (x + (zck (H.2 16) 10 (H.2 0 28) + zck (H.2 16) 11 (H.2 0 28)) + 1))
theorem zAny_0 {h H : zM} (e : H = zwr h 0 28 0) : zAny h H 0 1 := by
  have e28 : H.2 0 28 = 0 := by rw [e, zwr_s]
  have en : ∀ a b, ¬ (a = 0 ∧ b = 28) → H.2 a b = h.2 a b := fun a b q => by rw [e, zwr_n q]
  have d1 : dop H = dop h ∧ dar H = dar h := ⟨funext fun k => en _ _ (by omega), funext fun k => en _ _ (by omega)⟩
  unfold zAny
  rw [e28, zck_0, zck_0, zck_0, zck_0, en 0 26 (by omega), en 0 25 (by omega), en 0 13 (by omega), d1.1, d1.2]
  exact ⟨fun i q1 q2 => absurd q1 (by omega), by omega, by omega, rfl, fun _ _ => ⟨rfl, rfl⟩, by omega, by omega, fun _ a x hx q => by rw [show x + (0 + 0) = x by omega]; exact q, fun q => absurd q (by decide)⟩
/-- an and or an or comes out: w is 10 or 11 -/
theorem zAny_set {w br : Int} {h H H1 : zM} (q : zAny h H br 0) (hw : w = 10 ∨ w = 11) (s : zSe w H H1) (s4 : H1.2 0 28 = 0 ∨ ¬ H.2 16 (H1.2 0 28 - 1) = w) (f : zfr [25, 26, 28] [14, 15] H H1) (ht : w = 11 → H.2 0 28 = 0 ∨ H.2 16 (H.2 0 28 - 1) = 11 ∨ H.2 16 (H.2 0 28 - 1) = 12) : zAny h H1 br 0 ∧ (w = 10 → H1.2 0 28 = 0 ∨ H1.2 16 (H1.2 0 28 - 1) = 11 ∨ H1.2 16 (H1.2 0 28 - 1) = 12) ∧ (w = 11 → H1.2 0 28 = 0 ∨ H1.2 16 (H1.2 0 28 - 1) = 12) := by
  obtain ⟨q1, q2, q3, q4, q5, q6, q7, q8, q9⟩ := q
  obtain ⟨s1, s2, s3, s5, s6, s7, s8, s9, s10⟩ := s
  obtain ⟨q9a, q9b⟩ := q9 rfl
  have e16 : H1.2 16 = H.2 16 := funext fun j => zfr_a f rfl (by decide)
  have e13 : H1.2 0 13 = H.2 0 13 := zfr_f f rfl rfl
  have c9 := (zck_pp (p := H.2 16) 9 w s2 s1 s5).2 (by omega)
  have c12 := (zck_pp (p := H.2 16) 12 w s2 s1 s5).2 (by omega)
  have c10 := zck_pp (p := H.2 16) 10 w s2 s1 s5
  have c11 := zck_pp (p := H.2 16) 11 w s2 s1 s5
  have n10 := zck_nn (H.2 16) 10 (H1.2 0 28)
  have n11 := zck_nn (H.2 16) 11 (H1.2 0 28)
  have e26 := s7 (by omega)
  have pk1 : zpk (H.2 16) (H1.2 0 28) := fun i i1 i2 => q1 i i1 (by omega)
  -- the top behind it
  have top : (H1.2 0 28 = 0 ∨ ¬ H.2 16 (H1.2 0 28 - 1) = 9) ∧ (w = 10 → H1.2 0 28 = 0 ∨ H.2 16 (H1.2 0 28 - 1) = 11 ∨ H.2 16 (H1.2 0 28 - 1) = 12) ∧ (w = 11 → H1.2 0 28 = 0 ∨ H.2 16 (H1.2 0 28 - 1) = 12) := by
    by_cases z : H1.2 0 28 = 0
    · exact ⟨Or.inl z, fun _ => Or.inl z, fun _ => Or.inl z⟩
    · have s4 : ¬ H.2 16 (H1.2 0 28 - 1) = w := by rcases s4 with s4 | s4; exact absurd s4 z; exact s4
      have k1 := pk1 (H1.2 0 28 - 1) (by omega) (by omega)
      unfold zpk1 at k1
      by_cases m0 : H1.2 0 28 = H.2 0 28
      · rw [← m0] at q9a ht
        omega
      · have k2 := q1 (H1.2 0 28) (by omega) (by omega)
        unfold zpk1 at k2
        have k3 := s5 (H1.2 0 28) (by omega) (by omega)
        omega
  refine ⟨⟨by rw [e16]; exact pk1, s2, by rw [e16]; omega, by rw [e16]; omega, fun k hk => ?_, by omega, by omega, fun z => absurd rfl z, fun _ => ⟨by rw [e16]; exact top.1, fun a x hx g => ?_⟩⟩, by rw [e16]; exact top.2.1, by rw [e16]; exact top.2.2⟩
  · have x1 := s8 k (by omega); have x2 := q5 k hk
    rw [x1.1, x1.2]; exact x2
  · have := s10 hw a _ (by rcases hw with hw | hw <;> omega) (q9b a x hx g)
    rw [e16]
    rw [show x + (zck (H.2 16) 10 (H.2 0 28) + zck (H.2 16) 11 (H.2 0 28)) + 1 - (H.2 0 28 - H1.2 0 28) = x + (zck (H.2 16) 10 (H1.2 0 28) + zck (H.2 16) 11 (H1.2 0 28)) + 1 by rcases hw with hw | hw <;> omega] at this
    exact this
/-- something waits; then the next token -/
theorem zAny_push {w br br' due : Int} {h H H0 H1 H2 : zM} (q : zAny h H br due) (hw : w = 9 ∨ w = 10 ∨ w = 11 ∨ w = 12) (hd : (w = 9 ∨ w = 12) → ¬ due = 0) (hd2 : (w = 10 ∨ w = 11) → due = 0) (ht10 : w = 10 → H.2 0 28 = 0 ∨ H.2 16 (H.2 0 28 - 1) = 11 ∨ H.2 16 (H.2 0 28 - 1) = 12) (ht11 : w = 11 → H.2 0 28 = 0 ∨ H.2 16 (H.2 0 28 - 1) = 12) (f0 : zfr [26] [] H H0) (o : (w = 9 ∨ w = 12) → H0.2 0 26 = H.2 0 26 + 1) (o2 : (w = 10 ∨ w = 11) → H0.2 0 26 = H.2 0 26) (hb : w = 12 → br' = br + 1) (hb2 : ¬ w = 12 → br' = br) (w1 : H1.2 0 28 = H0.2 0 28 + 1) (w2 : H1.2 16 (H0.2 0 28) = w) (w3 : ∀ j, ¬ j = H0.2 0 28 → H1.2 16 j = H0.2 16 j) (f1 : zfr [28] [16] H0 H1) (f2 : zfr [12, 13, 14, 15] [] H1 H2) (hf : H.2 0 13 + 1 ≤ H2.2 0 13) : zAny h H2 br' 1 := by
  obtain ⟨q1, q2, q3, q4, q5, q6, q7, q8, q9⟩ := q
  have a28 : H0.2 0 28 = H.2 0 28 := zfr_f f0 rfl rfl
  have a16 : H0.2 16 = H.2 16 := funext fun j => zfr_a f0 rfl (by decide)
  have b16 : H2.2 16 = H1.2 16 := funext fun j => zfr_a f2 rfl (by decide)
  rw [a28] at w1 w2 w3
  rw [a16] at w3
  have e28 : H2.2 0 28 = H.2 0 28 + 1 := by rw [zfr_f f2 rfl rfl, w1]
  have e26 : H2.2 0 26 = H0.2 0 26 := by rw [zfr_f f2 rfl rfl, zfr_f f1 rfl rfl]
  have e25 : H2.2 0 25 = H.2 0 25 := by rw [zfr_f f2 rfl rfl, zfr_f f1 rfl rfl, zfr_f f0 rfl rfl]
  have d : dop H2 = dop H ∧ dar H2 = dar H := by
    have x2 := zd_same f2
    have x0 := zd_same f0
    have x1 : dop H1 = dop H0 ∧ dar H1 = dar H0 := ⟨funext fun _ => zfr_a f1 rfl (by decide), funext fun _ => zfr_a f1 rfl (by decide)⟩
    exact ⟨x2.1.trans (x1.1.trans x0.1), x2.2.trans (x1.2.trans x0.2)⟩
  have c9 := zck_push (p := H.2 16) (p' := H1.2 16) 9 q2 w3 w2
  have c10 := zck_push (p := H.2 16) (p' := H1.2 16) 10 q2 w3 w2
  have c11 := zck_push (p := H.2 16) (p' := H1.2 16) 11 q2 w3 w2
  have c12 := zck_push (p := H.2 16) (p' := H1.2 16) 12 q2 w3 w2
  have pk : zpk (H1.2 16) (H.2 0 28 + 1) := by
    intro i i1 i2
    by_cases z : i = H.2 0 28
    · unfold zpk1
      rw [z, w2]
      have m1 : H1.2 16 (H.2 0 28 - 1) = H.2 16 (H.2 0 28 - 1) := w3 _ (by clear hd hd2 ht10 ht11 o o2 hb hb2 hw; omega)
      rw [m1]
      rcases hw with e | e | e | e
      · exact Or.inl e
      · exact Or.inr (Or.inr (Or.inl ⟨e, ht10 e⟩))
      · exact Or.inr (Or.inr (Or.inr ⟨e, ht11 e⟩))
      · exact Or.inr (Or.inl e)
    · have := q1 i i1 (by clear hd hd2 ht10 ht11 o o2 hb hb2 hw; omega)
      unfold zpk1 at this ⊢
      rw [w3 i (by clear hd hd2 ht10 ht11 o o2 hb hb2 hw; omega), w3 (i - 1) (by clear hd hd2 ht10 ht11 o o2 hb hb2 hw; omega)]
      exact this
  unfold zAny
  rw [e28, b16, e26, e25, d.1, d.2, c9, c10, c11, c12]
  refine ⟨pk, by clear hd hd2 ht10 ht11 o o2 hb hb2 hw; omega, ?_, ?_, q5, q6, by clear hd hd2 ht10 ht11 o o2 hb hb2 hw; omega, fun _ a x hx g => ?_, fun z => absurd z (by decide)⟩
  · rcases hw with rfl | rfl | rfl | rfl
    · rw [if_pos rfl, if_neg (by decide), o (Or.inl rfl), q3]; clear hd hd2 ht10 ht11 o o2 hb hb2; omega
    · rw [if_neg (by decide), if_neg (by decide), o2 (Or.inl rfl), q3]; clear hd hd2 ht10 ht11 o o2 hb hb2; omega
    · rw [if_neg (by decide), if_neg (by decide), o2 (Or.inr rfl), q3]; clear hd hd2 ht10 ht11 o o2 hb hb2; omega
    · rw [if_neg (by decide), if_pos rfl, o (Or.inr rfl), q3]; clear hd hd2 ht10 ht11 o o2 hb hb2; omega
  · rcases hw with rfl | rfl | rfl | rfl
    · rw [if_neg (by decide), hb2 (by decide), q4]; clear hd hd2 ht10 ht11 o o2 hb hb2; omega
    · rw [if_neg (by decide), hb2 (by decide), q4]; clear hd hd2 ht10 ht11 o o2 hb hb2; omega
    · rw [if_neg (by decide), hb2 (by decide), q4]; clear hd hd2 ht10 ht11 o o2 hb hb2; omega
    · rw [if_pos rfl, hb rfl, q4]
  · by_cases z : due = 0
    · have hw2 : w = 10 ∨ w = 11 := by
        rcases hw with hw | hw | hw | hw
        · exact absurd z (hd (Or.inl hw))
        · exact Or.inl hw
        · exact Or.inr hw
        · exact absurd z (hd (Or.inr hw))
      have := (q9 z).2 a x hx g
      rcases hw2 with rfl | rfl
      · rw [if_pos rfl, if_neg (by decide)]
        rw [show x + (zck (H.2 16) 10 (H.2 0 28) + 1 + (zck (H.2 16) 11 (H.2 0 28) + 0)) = x + (zck (H.2 16) 10 (H.2 0 28) + zck (H.2 16) 11 (H.2 0 28)) + 1 by clear hd hd2 ht10 ht11 o o2 hb hb2 hw; omega]
        exact this
      · rw [if_neg (by decide), if_pos rfl]
        rw [show x + (zck (H.2 16) 10 (H.2 0 28) + 0 + (zck (H.2 16) 11 (H.2 0 28) + 1)) = x + (zck (H.2 16) 10 (H.2 0 28) + zck (H.2 16) 11 (H.2 0 28)) + 1 by clear hd hd2 ht10 ht11 o o2 hb hb2 hw; omega]
        exact this
    · have := q8 z a x hx g
      have n1 : ¬ w = 10 := fun e => z (hd2 (Or.inl e))
      have n2 : ¬ w = 11 := fun e => z (hd2 (Or.inr e))
      rw [if_neg n1, if_neg n2, Int.add_zero, Int.add_zero]
      exact this
/-- an operand is read, and its nots come out -/
theorem zAny_opd {br due : Int} {h H H1 H2 : zM} (q : zAny h H br due) (hd : ¬ due = 0) (b : rdB 0 H H1) (pp : rdP 1 H H1) (f1 : H1.2 0 28 = H.2 0 28 ∧ H1.2 0 26 = H.2 0 26 ∧ ∀ j, H1.2 16 j = H.2 16 j) (s : zSe 9 H1 H2) (s4 : H2.2 0 28 = 0 ∨ ¬ H1.2 16 (H2.2 0 28 - 1) = 9) (f2 : zfr [25, 26, 28] [14, 15] H1 H2) : zAny h H2 br 0 := by
  obtain ⟨q1, q2, q3, q4, q5, q6, q7, q8, q9⟩ := q
  obtain ⟨s1, s2, s3, s5, s6, s7, s8, s9, s10⟩ := s
  obtain ⟨b1, b2, b3⟩ := b
  obtain ⟨g28, g26, g16⟩ := f1
  have g16 : H1.2 16 = H.2 16 := funext g16
  have e16 : H2.2 16 = H1.2 16 := funext fun j => zfr_a f2 rfl (by decide)
  have e13 : H2.2 0 13 = H1.2 0 13 := zfr_f f2 rfl rfl
  have c9 := (zck_pp (p := H1.2 16) 9 9 s2 s1 s5).1 rfl
  have c12 := (zck_pp (p := H1.2 16) 12 9 s2 s1 s5).2 (by decide)
  have c10 := (zck_pp (p := H1.2 16) 10 9 s2 s1 s5).2 (by decide)
  have c11 := (zck_pp (p := H1.2 16) 11 9 s2 s1 s5).2 (by decide)
  have e26 := s6 rfl
  rw [g16] at e16 s4 c9 c12 c10 c11
  rw [g28] at s1 s3 c9 c12 c10 c11 e26
  have n10 := zck_nn (H.2 16) 10 (H.2 0 28)
  have n11 := zck_nn (H.2 16) 11 (H.2 0 28)
  refine ⟨by rw [e16]; exact fun i i1 i2 => q1 i i1 (by omega), s2, by rw [e16]; omega, by rw [e16]; omega, fun k hk => ?_, by omega, by omega, fun z => absurd rfl z, fun _ => ⟨by rw [e16]; exact s4, fun a x hx g => ?_⟩⟩
  · have x1 := s8 k (by omega); have x2 := b1 k (by omega); have x3 := q5 k hk
    rw [x1.1, x1.2, x2.1, x2.2]; exact x3
  · rw [e16, ← c10, ← c11]
    exact s9 rfl a _ (by omega) (pp a _ (by omega) (q8 hd a x hx g))
/-- a bracket closes -/
theorem zAny_close {br br' : Int} {h H H1 H2 H3 H4 : zM} (q : zAny h H br 0) (hp : 0 < H.2 0 28) (ht : H.2 16 (H.2 0 28 - 1) = 12) (e1 : H1 = zwr H 0 28 (H.2 0 28 - 1)) (e2 : H2 = zwr H1 0 26 (H.2 0 26 - 1)) (s : zSe 9 H2 H3) (s4 : H3.2 0 28 = 0 ∨ ¬ H2.2 16 (H3.2 0 28 - 1) = 9) (f3 : zfr [25, 26, 28] [14, 15] H2 H3) (f4 : zfr [12, 13, 14, 15] [] H3 H4) (hf : H3.2 0 13 ≤ H4.2 0 13) (hb : br' = br - 1) : zAny h H4 br' 0 := by
  obtain ⟨q1, q2, q3, q4, q5, q6, q7, q8, q9⟩ := q
  obtain ⟨s1, s2, s3, s5, s6, s7, s8, s9, s10⟩ := s
  obtain ⟨q9a, q9b⟩ := q9 rfl
  have en : ∀ a b, ¬ (a = 0 ∧ (b = 28 ∨ b = 26)) → H2.2 a b = H.2 a b := fun a b z => by rw [e2, zwr_n (by omega), e1, zwr_n (by omega)]
  have g28 : H2.2 0 28 = H.2 0 28 - 1 := by rw [e2, zwr_n (by omega), e1, zwr_s]
  have g26 : H2.2 0 26 = H.2 0 26 - 1 := by rw [e2, zwr_s]
  have g25 : H2.2 0 25 = H.2 0 25 := en 0 25 (by omega)
  have g13 : H2.2 0 13 = H.2 0 13 := en 0 13 (by omega)
  have g16 : H2.2 16 = H.2 16 := funext fun j => en 16 j (by omega)
  have gd : dop H2 = dop H ∧ dar H2 = dar H := ⟨funext fun k => en _ _ (by omega), funext fun k => en _ _ (by omega)⟩
  have e16 : H4.2 16 = H.2 16 := by rw [← g16]; exact funext fun j => (zfr_a f4 rfl (by decide)).trans (zfr_a f3 rfl (by decide))
  have e13 : H3.2 0 13 = H.2 0 13 := (zfr_f f3 rfl rfl).trans g13
  have h28 : H4.2 0 28 = H3.2 0 28 := zfr_f f4 rfl rfl
  have h26 : H4.2 0 26 = H3.2 0 26 := zfr_f f4 rfl rfl
  have h25 : H4.2 0 25 = H3.2 0 25 := zfr_f f4 rfl rfl
  have hd := zd_same f4
  have c9 := (zck_pp (p := H2.2 16) 9 9 s2 s1 s5).1 rfl
  have c12 := (zck_pp (p := H2.2 16) 12 9 s2 s1 s5).2 (by decide)
  have c10 := (zck_pp (p := H2.2 16) 10 9 s2 s1 s5).2 (by decide)
  have c11 := (zck_pp (p := H2.2 16) 11 9 s2 s1 s5).2 (by decide)
  have t9 := zck_s (H.2 16) 9 (n := H.2 0 28 - 1) (by omega)
  have t12 := zck_s (H.2 16) 12 (n := H.2 0 28 - 1) (by omega)
  have t10 := zck_s (H.2 16) 10 (n := H.2 0 28 - 1) (by omega)
  have t11 := zck_s (H.2 16) 11 (n := H.2 0 28 - 1) (by omega)
  rw [ht, show H.2 0 28 - 1 + 1 = H.2 0 28 by omega] at t9 t12 t10 t11
  rw [if_neg (by decide)] at t9 t10 t11
  rw [if_pos rfl] at t12
  have e26 := s6 rfl
  rw [g16] at s4 c9 c12 c10 c11
  rw [g28] at s1 s3 c9 c12 c10 c11 e26
  rw [g26] at e26
  rw [g25] at s3
  have n10 := zck_nn (H.2 16) 10 (H.2 0 28)
  have n11 := zck_nn (H.2 16) 11 (H.2 0 28)
  unfold zAny
  rw [e16, h28, h26, h25, hd.1, hd.2]
  refine ⟨fun i i1 i2 => q1 i i1 (by omega), s2, by omega, by omega, fun k hk => ?_, by omega, by omega, fun z => absurd rfl z, fun _ => ⟨s4, fun a x hx g => ?_⟩⟩
  · have x1 := s8 k (by omega); have x3 := q5 k hk
    rw [x1.1, x1.2, gd.1, gd.2]; exact x3
  · have w := q9b a x hx g
    rw [← gd.1, ← gd.2, ← g25] at w
    have := s9 rfl a _ (by omega) w
    rw [show zck (H.2 16) 10 (H3.2 0 28) = zck (H.2 16) 10 (H.2 0 28) by omega, show zck (H.2 16) 11 (H3.2 0 28) = zck (H.2 16) 11 (H.2 0 28) by omega]
    exact this
/-- the end of a condition -/
theorem zAny_end {br : Int} {h H : zM} (q : zAny h H br 0) (hb : br = 0) (ht : H.2 0 28 = 0 ∨ H.2 16 (H.2 0 28 - 1) = 12) : rdB 0 h H ∧ rdP 1 h H := by
  obtain ⟨q1, q2, q3, q4, q5, q6, q7, q8, q9⟩ := q
  have hp : H.2 0 28 = 0 := by
    rcases ht with ht | ht
    · exact ht
    · by_cases z : H.2 0 28 = 0
      · exact z
      · have t12 := zck_s (H.2 16) 12 (n := H.2 0 28 - 1) (by omega)
        rw [ht, if_pos rfl, show H.2 0 28 - 1 + 1 = H.2 0 28 by omega] at t12
        have := zck_nn (H.2 16) 12 (H.2 0 28 - 1)
        omega
  refine ⟨⟨q5, q6, by omega⟩, fun a x hx g => ?_⟩
  have := (q9 rfl).2 a x hx g
  rw [hp, zck_0, zck_0, show x + (0 + 0) + 1 = x + 1 by omega] at this
  exact this
theorem zAny_f {br due : Int} {h H : zM} (q : zAny h H br due) : H.2 0 28 ≤ 3 * (H.2 0 26 - h.2 0 26) + 2 ∧ zck (H.2 16) 9 (H.2 0 28) ≤ H.2 0 26 - h.2 0 26 ∧ H.2 0 25 + H.2 0 28 - H.2 0 13 ≤ h.2 0 25 - h.2 0 13 ∧ 0 ≤ H.2 0 28 ∧ h.2 0 25 ≤ H.2 0 25 := by
  obtain ⟨q1, q2, q3, q4, q5, q6, q7, -, -⟩ := q
  have := zpk_le q2 q1
  have a := zck_nn (H.2 16) 9 (H.2 0 28)
  have b := zck_nn (H.2 16) 12 (H.2 0 28)
  exact ⟨by omega, by omega, q7, q2, q6⟩
theorem zAny_br {br due : Int} {h H : zM} (q : zAny h H br due) : 0 ≤ br ∧ br ≤ H.2 0 26 - h.2 0 26 := by
  obtain ⟨q1, q2, q3, q4, -⟩ := q
  have a := zck_nn (H.2 16) 9 (H.2 0 28)
  have b := zck_nn (H.2 16) 12 (H.2 0 28)
  omega

