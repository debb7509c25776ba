theorem tSk_o (f : Int → Int) (s : List Int) : ∀ n : Nat, tOpn (tSk f n ++ s) = tOpn s + zck f 9 n + zck f 12 n
  | 0 => by
    show tOpn s = tOpn s + zck f 9 0 + zck f 12 0
    rw [zck_0, zck_0]; omega
  | n + 1 => by
    show tOpn (tSk f n ++ s) + (if f n = 9 ∨ f n = 12 then 1 else 0) = _
    have h9 := zck_s f 9 (n := n) (by omega)
    have h12 := zck_s f 12 (n := n) (by omega)
    rw [tSk_o f s n, show ((n + 1 : Nat) : Int) = (n : Int) + 1 by omega, h9, h12]
    by_cases a : f n = 9
    · rw [if_pos (Or.inl a), if_pos a, if_neg (by omega)]; omega
    · by_cases b : f n = 12
      · rw [if_pos (Or.inr b), if_neg a, if_pos b]; omega
      · rw [if_neg (fun z => z.elim a b), if_neg a, if_neg b]; omega
theorem tSk_n (f : Int → Int) (s : List Int) {n : Int} (h : 0 ≤ n) : tOpn (tSk f n.toNat ++ s) = tOpn s + zck f 9 n + zck f 12 n := by
  have := tSk_o f s n.toNat
  rw [Int.toNat_of_nonneg h] at this
  exact this
theorem tSk_h (f : Int → Int) (s : List Int) {n : Int} (h : 0 < n) : tHd (tSk f n.toNat ++ s) = f (n - 1) := by rw [tSk_t f h]; rfl
theorem tSk_11 {f : Int → Int} {m n : Int} (z : zpk f n) (m0 : 0 ≤ m) (mn : m ≤ n) (h : ∀ i, m ≤ i → i < n → f i = 11) : m = n ∨ (m = n - 1 ∧ f (n - 1) = 11) := by
  by_cases e : m = n
  · exact Or.inl e
  · right
    have a1 := h (n - 1) (by omega) (by omega)
    refine ⟨?_, a1⟩
    by_cases w : m = n - 1
    · exact w
    · have q := z (n - 1) (by omega) (by omega)
      have a2 := h (n - 1 - 1) (by omega) (by omega)
      unfold zpk1 at q
      omega
theorem zAny_c0 {h H : zM} {br : Int} (q : zAny h H br 0) (ht : H.2 16 (H.2 0 28 - 1) = 12) (hp : 0 < H.2 0 28) : ¬ br = 0 := by
  obtain ⟨q1, q2, q3, q4, -⟩ := q
  have t12 := zck_s (H.2 16) 12 (n := H.2 0 28 - 1) (by omega)
  rw [ht, show H.2 0 28 - 1 + 1 = H.2 0 28 by omega, if_pos rfl] at t12
  have b := zck_nn (H.2 16) 12 (H.2 0 28 - 1)
  omega
theorem tTg {i : Nat} {c t v : Int} (hi : i < 5) (h : tTk i c t v) : (t = 0 ∧ c = 0) ∨ (t = 3 ∧ 0 ≤ v ∧ v ≤ 9999 ∧ c = 1000 + v) ∨ (t = 4 ∧ 40 ≤ v ∧ v ≤ 62 ∧ c = v) ∨ ((t = 2 ∨ t = 1) ∧ (c = 1 ∨ (200 ≤ c ∧ c ≤ 217))) := by
  rcases h with a | ⟨a, b, d⟩ | ⟨a, b, d⟩ | ⟨a, b, d⟩ | a
  · exact Or.inl a
  · exact Or.inr (Or.inl ⟨a, b.1, b.2, d⟩)
  · have b' : tSg v := b
    exact Or.inr (Or.inr (Or.inl ⟨a, by omega, by omega, d⟩))
  · have n := (tS_e i hi).2.2.2
    rcases d with ⟨d, _⟩ | ⟨k, k1, _, d⟩
    · exact Or.inr (Or.inr (Or.inr ⟨Or.inl a, Or.inl d⟩))
    · exact Or.inr (Or.inr (Or.inr ⟨Or.inl a, Or.inr (by omega)⟩))
  · exact Or.inr (Or.inr (Or.inr ⟨Or.inr a.1, Or.inl a.2⟩))
theorem tSh_4 (v s : Int) (h : s = 24 ∨ s = 16 ∨ s = 8 ∨ s = 0) : zand (zshr v s) 255 = zand (zushr v s) 255 := by
  rcases h with h | h | h | h
  · exact tSh_k v s 24 (by decide) (by omega)
  · exact tSh_k v s 16 (by decide) (by omega)
  · exact tSh_k v s 8 (by decide) (by omega)
  · exact tSh_k v s 0 (by decide) (by omega)

/-! ===== the law's code on the reference's side ===== -/
def tEo (o a : Int) : Int := if o = 0 then (if 0 ≤ a ∧ a < 10000 then a else -1) else if o = 1 then (if 0 ≤ a ∧ a ≤ 9 then 10007 + a else -1) else if o = 2 then 20043 else if o = 3 then 20045 else if o = 4 then 20042 else if o = 5 then 20047 else if o = 6 then 20060 else if o = 7 then 20061 else if o = 8 then 20062 else if o = 9 then 20006 else if o = 10 then 20005 else if o = 11 then 20004 else -1
def tCm (h : zM) : List Int := tSk (fun k => tEo (dop h k) (dar h k)) (h.2 0 25).toNat
theorem tCm_f {h h' : zM} (e25 : h'.2 0 25 = h.2 0 25) (e14 : ∀ i, h'.2 14 i = h.2 14 i) (e15 : ∀ i, h'.2 15 i = h.2 15 i) : tCm h' = tCm h := by
  unfold tCm dop dar
  rw [e25, show h'.2 14 = h.2 14 from funext e14, show h'.2 15 = h.2 15 from funext e15]
theorem tCm_e {h h' : zM} {o a : Int} (b : 0 ≤ h.2 0 25) (e : zEm h h' o a) : tCm h' = tEo o a :: tCm h := by
  obtain ⟨e1, ⟨e2, e3⟩, e4⟩ := e
  unfold tCm
  rw [e1, tSk_t _ (show 0 < h.2 0 25 + 1 by omega), show h.2 0 25 + 1 - 1 = h.2 0 25 by omega, e2, e3]
  rw [tSk_x (f := fun k => tEo (dop h k) (dar h k)) (g := fun k => tEo (dop h' k) (dar h' k)) (h.2 0 25).toNat (fun i p q => by show tEo (dop h' i) (dar h' i) = tEo (dop h i) (dar h i); rw [(e4 i (by omega)).1, (e4 i (by omega)).2])]
theorem tEo_f (o a : Int) : (o = 0 → 0 ≤ a → a < 10000 → tEo o a = a) ∧ (o = 1 → 0 ≤ a → a ≤ 9 → tEo o a = 10007 + a) := by
  unfold tEo
  exact ⟨fun h h1 h2 => by rw [if_pos h, if_pos ⟨h1, h2⟩], fun h h1 h2 => by rw [if_neg (by omega), if_pos h, if_pos ⟨h1, h2⟩]⟩
/-- a code that stands is one of the kinds -/
theorem zEn_t {o a : Int} (h : 0 ≤ tEo o a) : zEn o a (tEo o a) := by
  unfold zEn
  by_cases h0 : o = 0
  · by_cases q : 0 ≤ a ∧ a < 10000
    · have e := (tEo_f o a).1 h0 q.1 q.2
      rw [e]; omega
    · unfold tEo at h; rw [if_pos h0, if_neg q] at h; exact absurd h (by decide)
  · by_cases h1 : o = 1
    · by_cases q : 0 ≤ a ∧ a ≤ 9
      · have e := (tEo_f o a).2 h1 q.1 q.2
        rw [e]; omega
      · unfold tEo at h; rw [if_neg h0, if_pos h1, if_neg q] at h; exact absurd h (by decide)
    · by_cases q : 2 ≤ o ∧ o ≤ 11
      · have z : o = 2 ∨ o = 3 ∨ o = 4 ∨ o = 5 ∨ o = 6 ∨ o = 7 ∨ o = 8 ∨ o = 9 ∨ o = 10 ∨ o = 11 := by omega
        rcases z with rfl | rfl | rfl | rfl | rfl | rfl | rfl | rfl | rfl | rfl
        · exact Or.inr (Or.inr (Or.inl ⟨rfl, rfl⟩))
        · exact Or.inr (Or.inr (Or.inr (Or.inl ⟨rfl, rfl⟩)))
        · exact Or.inr (Or.inr (Or.inr (Or.inr (Or.inl ⟨rfl, rfl⟩))))
        · exact Or.inr (Or.inr (Or.inr (Or.inr (Or.inr (Or.inl ⟨rfl, rfl⟩)))))
        · exact Or.inr (Or.inr (Or.inr (Or.inr (Or.inr (Or.inr (Or.inl ⟨rfl, rfl⟩))))))
        · exact Or.inr (Or.inr (Or.inr (Or.inr (Or.inr (Or.inr (Or.inr (Or.inl ⟨rfl, rfl⟩)))))))
        · exact Or.inr (Or.inr (Or.inr (Or.inr (Or.inr (Or.inr (Or.inr (Or.inr (Or.inl ⟨rfl, rfl⟩))))))))
        · exact Or.inr (Or.inr (Or.inr (Or.inr (Or.inr (Or.inr (Or.inr (Or.inr (Or.inr (Or.inl ⟨rfl, rfl⟩)))))))))
        · exact Or.inr (Or.inr (Or.inr (Or.inr (Or.inr (Or.inr (Or.inr (Or.inr (Or.inr (Or.inr (Or.inl ⟨rfl, rfl⟩))))))))))
        · exact Or.inr (Or.inr (Or.inr (Or.inr (Or.inr (Or.inr (Or.inr (Or.inr (Or.inr (Or.inr (Or.inr ⟨rfl, rfl⟩))))))))))
      · unfold tEo at h
        rw [if_neg h0, if_neg h1, if_neg (by omega), if_neg (by omega), if_neg (by omega), if_neg (by omega), if_neg (by omega), if_neg (by omega), if_neg (by omega), if_neg (by omega), if_neg (by omega), if_neg (by omega)] at h
        exact absurd h (by decide)
theorem tEo_2 (a : Int) : tEo 2 a = 20043 := rfl
theorem tEo_3 (a : Int) : tEo 3 a = 20045 := rfl
theorem tEo_4 (a : Int) : tEo 4 a = 20042 := rfl
theorem tEo_5 (a : Int) : tEo 5 a = 20047 := rfl
theorem tEo_6 (a : Int) : tEo 6 a = 20060 := rfl
theorem tEo_7 (a : Int) : tEo 7 a = 20061 := rfl
theorem tEo_8 (a : Int) : tEo 8 a = 20062 := rfl
theorem tEo_9 (a : Int) : tEo 9 a = 20006 := rfl
theorem tEo_10 (a : Int) : tEo 10 a = 20005 := rfl
theorem tEo_11 (a : Int) : tEo 11 a = 20004 := rfl
/-- one code, so many times -/
def tRpt (e : Int) : Nat → List Int → List Int
  | 0, c => c
  | k + 1, c => tRpt e k (e :: c)
theorem tRpt_s (e : Int) : ∀ (k : Nat) (c : List Int), tRpt e (k + 1) c = e :: tRpt e k c
  | 0, _ => rfl
  | k + 1, c => by
    show tRpt e (k + 1) (e :: c) = e :: tRpt e k (e :: c)
    exact tRpt_s e k (e :: c)
/-- nots come out -/
theorem tSk_9c {T : Int → Int} {p j : Int} {f : Int → Int} {s d : List Int} : ∀ (k : Nat) (m n : Int) (c : List Int), 0 ≤ m → m ≤ n → (n - m).toNat = k → (∀ i, m ≤ i → i < n → f i = 9) → tRe T p (9, j, 0, tSk f n.toNat ++ s, c, d) (9, j, 0, tSk f m.toNat ++ s, tRpt 20006 k c, d)
  | 0, m, n, c, m0, mn, e, h => by rw [show n = m by omega]; exact tRe_r
  | k + 1, m, n, c, m0, mn, e, h => by
    have st : tStp T p (9, j, 0, tSk f n.toNat ++ s, c, d) = (9, j, 0, tSk f (n - 1).toNat ++ s, 20006 :: c, d) := by
      rw [tSk_t f (show 0 < n by omega), h (n - 1) (by omega) (by omega)]
      exact tM9_n
    exact tRe_t (tRe_1 st) (tSk_9c k m (n - 1) (20006 :: c) m0 (by omega) (by omega) (fun i a b => h i a (by omega)))
/-- how many came out, of so many -/
theorem tRpt_1 (e : Int) (c : List Int) {m n : Int} (h : m = n - 1) : tRpt e (n - m).toNat c = e :: c := by
  rw [show (n - m).toNat = 1 by omega]; rfl
theorem tRpt_0 (e : Int) (c : List Int) {m n : Int} (h : m = n) : tRpt e (n - m).toNat c = c := by
  rw [show (n - m).toNat = 0 by omega]; rfl
theorem tSk_ac {T : Int → Int} {p j : Int} {f : Int → Int} {s c d : List Int} {m n : Int} (z : zpk f n) (m0 : 0 ≤ m) (mn : m ≤ n) (h : ∀ i, m ≤ i → i < n → f i = 10) (h9 : n = 0 ∨ ¬ f (n - 1) = 9) (h10 : m = 0 ∨ ¬ f (m - 1) = 10) (hs : tHd s = 90) : tRe T p (9, j, 0, tSk f n.toNat ++ s, c, d) (11, j, 0, tSk f m.toNat ++ s, tRpt 20005 (n - m).toNat c, d) := by
  by_cases e : m = n
  · rw [tRpt_0 _ _ e]
    subst e
    refine tRe_1 (tM9_e ?_ ?_)
    · by_cases w : m = 0
      · rw [w]; show ¬ tHd s = 9; omega
      · rw [tSk_h f s (by omega)]; exact h9.resolve_left w
    · by_cases w : m = 0
      · rw [w]; show ¬ tHd s = 10; omega
      · rw [tSk_h f s (by omega)]; exact h10.resolve_left w
  · have e1 : m = n - 1 := by
      by_cases w : m = n - 1
      · exact w
      · have q := z (n - 1) (by omega) (by omega)
        have a1 := h (n - 1) (by omega) (by omega)
        have a2 := h (n - 1 - 1) (by omega) (by omega)
        unfold zpk1 at q
        omega
    rw [tRpt_1 _ _ e1, tSk_t f (show 0 < n by omega), h (n - 1) (by omega) (by omega), e1]
    exact tRe_1 tM9_a
theorem tSk_oc {T : Int → Int} {p j : Int} {f : Int → Int} {s c d : List Int} {m n : Int} (z : zpk f n) (m0 : 0 ≤ m) (mn : m ≤ n) (h : ∀ i, m ≤ i → i < n → f i = 11) (h11 : m = 0 ∨ ¬ f (m - 1) = 11) (hs : tHd s = 90) (t : T j = 204) : tStp T p (11, j, 0, tSk f n.toNat ++ s, c, d) = (8, j + 1, 0, 11 :: (tSk f m.toNat ++ s), tRpt 20004 (n - m).toNat c, d) := by
  rcases tSk_11 z m0 mn h with e | ⟨e, e2⟩
  · rw [tRpt_0 _ _ e]
    subst e
    refine tM11_f t ?_
    by_cases w : m = 0
    · rw [w]; show ¬ tHd s = 11; omega
    · rw [tSk_h f s (by omega)]; exact h11.resolve_left w
  · rw [tRpt_1 _ _ e, tSk_t f (show 0 < n by omega), e2, e]
    exact tM11_o t
theorem tSk_cc {T : Int → Int} {p j : Int} {f : Int → Int} {s c d : List Int} {m n : Int} (z : zpk f n) (m0 : 0 ≤ m) (mn : m ≤ n) (h : ∀ i, m ≤ i → i < n → f i = 11) (h11 : m = 0 ∨ ¬ f (m - 1) = 11) (hs : tHd s = 90) (t : ¬ T j = 205) (t2 : ¬ T j = 204) : tStp T p (11, j, 0, tSk f n.toNat ++ s, c, d) = (12, j, 0, tSk f m.toNat ++ s, tRpt 20004 (n - m).toNat c, d) := by
  rcases tSk_11 z m0 mn h with e | ⟨e, e2⟩
  · rw [tRpt_0 _ _ e]
    subst e
    refine tM11_e t t2 ?_
    by_cases w : m = 0
    · rw [w]; show ¬ tHd s = 11; omega
    · rw [tSk_h f s (by omega)]; exact h11.resolve_left w
  · rw [tRpt_1 _ _ e, tSk_t f (show 0 < n by omega), e2, e]
    exact tM11_p t t2
/-- settles: the code -/
theorem tCs_0 {w : Int} {h H : zM} (e : H = h) : tCm H = tRpt (tEo w 0) (h.2 0 28 - H.2 0 28).toNat (tCm h) := by
  subst e
  exact (tRpt_0 _ _ rfl).symm
theorem tCs_s {w : Int} {h H H1 H2 H3 : zM} (q : tCm H = tRpt (tEo w 0) (h.2 0 28 - H.2 0 28).toNat (tCm h)) (se : zSe w h H) (hp : 0 < H.2 0 28) (b : 0 ≤ H.2 0 25) (e1 : H1 = zwr H 0 28 (H.2 0 28 - 1)) (em : zEm H1 H2 w 0) (fe : zfr [25] [14, 15] H1 H2) (f3 : zfr [26] [] H2 H3) : tCm H3 = tRpt (tEo w 0) (h.2 0 28 - H3.2 0 28).toNat (tCm h) := by
  have a28 : H3.2 0 28 = H.2 0 28 - 1 := by rw [zfr_f f3 rfl rfl, zfr_f fe rfl rfl, e1, zwr_s]
  have c1 : H1.2 0 25 = H.2 0 25 := by rw [e1, zwr_n (by omega)]
  have k3 : tCm H3 = tCm H2 := tCm_f (zfr_f f3 rfl rfl) (fun i => zfr_a f3 rfl (by decide)) (fun i => zfr_a f3 rfl (by decide))
  have k1 : tCm H1 = tCm H := tCm_f c1 (fun i => by rw [e1, zwr_n (by omega)]) (fun i => by rw [e1, zwr_n (by omega)])
  have k2 := tCm_e (by rw [c1]; exact b) em
  have s1 := se.1
  rw [k3, k2, k1, q, a28, show (h.2 0 28 - (H.2 0 28 - 1)).toNat = (h.2 0 28 - H.2 0 28).toNat + 1 by omega, tRpt_s]
theorem tCm_l {h : zM} (b : 0 ≤ h.2 0 25) : ((tCm h).length : Int) = h.2 0 25 := by
  unfold tCm
  rw [tSk_l]; omega
/-- the law's lines as they are read, the newest first -/
def tL4 (h : zM) : Nat → List Int
  | 0 => []
  | n + 1 => h.2 13 (32 + (n : Int)) :: h.2 12 (32 + (n : Int)) :: h.2 11 (32 + (n : Int)) :: h.2 10 (32 + (n : Int)) :: tL4 h n
theorem tL4_x {h h' : zM} : ∀ n : Nat, (∀ i, 32 ≤ i → i < 32 + (n : Int) → h'.2 10 i = h.2 10 i) → (∀ i, 32 ≤ i → i < 32 + (n : Int) → h'.2 11 i = h.2 11 i) → (∀ i, 32 ≤ i → i < 32 + (n : Int) → h'.2 12 i = h.2 12 i) → (∀ i, 32 ≤ i → i < 32 + (n : Int) → h'.2 13 i = h.2 13 i) → tL4 h' n = tL4 h n
  | 0, _, _, _, _ => rfl
  | n + 1, a, b, c, d => by
    show h'.2 13 (32 + (n : Int)) :: h'.2 12 (32 + (n : Int)) :: h'.2 11 (32 + (n : Int)) :: h'.2 10 (32 + (n : Int)) :: tL4 h' n = _
    rw [a _ (by omega) (by omega), b _ (by omega) (by omega), c _ (by omega) (by omega), d _ (by omega) (by omega), tL4_x n (fun i p q => a i p (by omega)) (fun i p q => b i p (by omega)) (fun i p q => c i p (by omega)) (fun i p q => d i p (by omega))]
    rfl
theorem tL4_n {h h' : zM} {x e f g k : Int} (x0 : 0 ≤ x) (e4 : h'.2 13 (32 + x) = e) (e3 : h'.2 12 (32 + x) = f) (e2 : h'.2 11 (32 + x) = g) (e1 : h'.2 10 (32 + x) = k) (a : ∀ i, 32 ≤ i → i < 32 + x → h'.2 10 i = h.2 10 i) (b : ∀ i, 32 ≤ i → i < 32 + x → h'.2 11 i = h.2 11 i) (c : ∀ i, 32 ≤ i → i < 32 + x → h'.2 12 i = h.2 12 i) (d : ∀ i, 32 ≤ i → i < 32 + x → h'.2 13 i = h.2 13 i) : e :: f :: g :: k :: tL4 h x.toNat = tL4 h' (x + 1).toNat := by
  rw [show (x + 1).toNat = x.toNat + 1 by omega]
  show _ = h'.2 13 (32 + (x.toNat : Int)) :: h'.2 12 (32 + (x.toNat : Int)) :: h'.2 11 (32 + (x.toNat : Int)) :: h'.2 10 (32 + (x.toNat : Int)) :: tL4 h' x.toNat
  rw [show (x.toNat : Int) = x by omega, e4, e3, e2, e1, tL4_x x.toNat (fun i p q => a i p (by omega)) (fun i p q => b i p (by omega)) (fun i p q => c i p (by omega)) (fun i p q => d i p (by omega))]
/-- boats and deeds as they are read, the newest first -/
def tB3 (h : zM) : Nat → List Int
  | 0 => []
  | n + 1 => (3 - h.2 17 (48 + 3 * (n : Int) + 2)) :: h.2 17 (48 + 3 * (n : Int) + 1) :: h.2 17 (48 + 3 * (n : Int)) :: tB3 h n
def tT3d (h : zM) : Nat → List Int
  | 0 => []
  | n + 1 => h.2 18 (48 + 3 * (n : Int) + 2) :: (h.2 18 (48 + 3 * (n : Int) + 1) + 1) :: h.2 18 (48 + 3 * (n : Int)) :: tT3d h n
theorem tB3_x {h h' : zM} : ∀ n : Nat, (∀ i, i < 48 + 3 * (n : Int) → h'.2 17 i = h.2 17 i) → tB3 h' n = tB3 h n
  | 0, _ => rfl
  | n + 1, a => by
    show (3 - h'.2 17 (48 + 3 * (n : Int) + 2)) :: h'.2 17 (48 + 3 * (n : Int) + 1) :: h'.2 17 (48 + 3 * (n : Int)) :: tB3 h' n = _
    rw [a (48 + 3 * (n : Int) + 2) (by omega), a (48 + 3 * (n : Int) + 1) (by omega), a (48 + 3 * (n : Int)) (by omega), tB3_x n (fun i q => a i (by omega))]
    rfl
theorem tT3d_x {h h' : zM} : ∀ n : Nat, (∀ i, i < 48 + 3 * (n : Int) → h'.2 18 i = h.2 18 i) → tT3d h' n = tT3d h n
  | 0, _ => rfl
  | n + 1, a => by
    show h'.2 18 (48 + 3 * (n : Int) + 2) :: (h'.2 18 (48 + 3 * (n : Int) + 1) + 1) :: h'.2 18 (48 + 3 * (n : Int)) :: tT3d h' n = _
    rw [a (48 + 3 * (n : Int) + 2) (by omega), a (48 + 3 * (n : Int) + 1) (by omega), a (48 + 3 * (n : Int)) (by omega), tT3d_x n (fun i q => a i (by omega))]
    rfl
theorem tB3_n {h h' : zM} {x p : Int} (x0 : 0 ≤ x) (hp : p = 48 + 3 * x) (a : ∀ i, ¬ (p ≤ i ∧ i ≤ p + 2) → h'.2 17 i = h.2 17 i) : (3 - h'.2 17 (p + 2)) :: h'.2 17 (p + 1) :: h'.2 17 p :: tB3 h x.toNat = tB3 h' (x + 1).toNat := by
  subst hp
  rw [show (x + 1).toNat = x.toNat + 1 by omega]
  show _ = (3 - h'.2 17 (48 + 3 * (x.toNat : Int) + 2)) :: h'.2 17 (48 + 3 * (x.toNat : Int) + 1) :: h'.2 17 (48 + 3 * (x.toNat : Int)) :: tB3 h' x.toNat
  rw [show (x.toNat : Int) = x by omega, tB3_x x.toNat (fun i q => a i (by omega))]
theorem tT3d_n {h h' : zM} {x p : Int} (x0 : 0 ≤ x) (hp : p = 48 + 3 * x) (a : ∀ i, ¬ (p ≤ i ∧ i ≤ p + 2) → h'.2 18 i = h.2 18 i) : h'.2 18 (p + 2) :: (h'.2 18 (p + 1) + 1) :: h'.2 18 p :: tT3d h x.toNat = tT3d h' (x + 1).toNat := by
  subst hp
  rw [show (x + 1).toNat = x.toNat + 1 by omega]
  show _ = h'.2 18 (48 + 3 * (x.toNat : Int) + 2) :: (h'.2 18 (48 + 3 * (x.toNat : Int) + 1) + 1) :: h'.2 18 (48 + 3 * (x.toNat : Int)) :: tT3d h' x.toNat
  rw [show (x.toNat : Int) = x by omega, tT3d_x x.toNat (fun i q => a i (by omega))]
/-- kin, one more pair -/
theorem tKs_n {h g h1 h2 : zM} {a b : Int} (k : ∀ i, g.2 19 i = h.2 19 i) (e1 : h1 = zwr g 19 (18 + a) (zor (h.2 19 (18 + a)) (zshl 1 b))) (e2 : h2 = zwr h1 19 (18 + b) (zor (h1.2 19 (18 + b)) (zshl 1 a))) (d : List Int) (q : ∀ i, 0 ≤ i → i < 18 → h.2 19 (18 + i) = tKs d i) : ∀ i, 0 ≤ i → i < 18 → h2.2 19 (18 + i) = tKs (b :: a :: d) i := by
  intro i i0 i1
  have r1 : h1.2 19 (18 + i) = if i = a then zor (tKs d i) (zshl 1 b) else tKs d i := by
    by_cases w : i = a
    · rw [if_pos w, w, zwr_v e1, ← w, q i i0 i1]
    · rw [if_neg w, zwr_r (a := 19) (b := 18 + i) e1 (by omega), k, q i i0 i1]
  show h2.2 19 (18 + i) = if i = b then zor (if i = a then zor (tKs d i) (zshl 1 b) else tKs d i) (zshl 1 a) else (if i = a then zor (tKs d i) (zshl 1 b) else tKs d i)
  by_cases w : i = b
  · rw [if_pos w, ← r1, w, zwr_v e2]
  · rw [if_neg w, ← r1, zwr_r (a := 19) (b := 18 + i) e2 (by omega)]

/-- what stands below the draft's code -/
def tLo (h h' : zM) : Prop := ∀ k, k < 0 → dop h' k = dop h k ∧ dar h' k = dar h k
theorem tLo_r {h : zM} : tLo h h := fun k _ => ⟨rfl, rfl⟩
theorem tLo_t {h h1 h2 : zM} (a : tLo h h1) (b : tLo h1 h2) : tLo h h2 := fun k z => ⟨(b k z).1.trans (a k z).1, (b k z).2.trans (a k z).2⟩
theorem tLo_f {h h1 h2 : zM} (a : tLo h h1) (e14 : ∀ i, h2.2 14 i = h1.2 14 i) (e15 : ∀ i, h2.2 15 i = h1.2 15 i) : tLo h h2 := fun k z => ⟨(e14 _).trans (a k z).1, (e15 _).trans (a k z).2⟩
theorem tLo_e {h h1 h2 : zM} {o v : Int} (a : tLo h h1) (b : 0 ≤ h1.2 0 25) (e : zEm h1 h2 o v) : tLo h h2 := fun k z => ⟨(e.2.2 k (by omega)).1.trans (a k z).1, (e.2.2 k (by omega)).2.trans (a k z).2⟩
theorem tLo_i {h h' : zM} (a : tLo h h') {i : Int} (z : i < 800) : h'.2 14 i = h.2 14 i ∧ h'.2 15 i = h.2 15 i := by
  have q := a (i - 800) (by omega)
  unfold dop dar at q
  rw [show 800 + (i - 800) = i by omega] at q
  exact q
theorem tCm_0 {h : zM} (e : h.2 0 25 = 0) : tCm h = [] := by unfold tCm; rw [e]; rfl
/-- what stands below all drafts -/
def tLa (h h' : zM) : Prop := (∀ i, i < 32 → h'.2 10 i = h.2 10 i ∧ h'.2 11 i = h.2 11 i ∧ h'.2 12 i = h.2 12 i ∧ h'.2 13 i = h.2 13 i) ∧ (∀ i, i < 800 → h'.2 14 i = h.2 14 i ∧ h'.2 15 i = h.2 15 i) ∧ (∀ i, i < 48 → h'.2 17 i = h.2 17 i) ∧ (∀ i, i < 48 → h'.2 18 i = h.2 18 i) ∧ (∀ i, i < 18 → h'.2 19 i = h.2 19 i)
/-- what a text's reading leaves in the drafts -/
def tRd (k : Int) (h : zM) (v : Int) (c d : List Int) : Prop := (k = 0 → c = tCm h ∧ d = tL4 h v.toNat) ∧ (k = 1 → c = [] ∧ d = tB3 h v.toNat) ∧ (k = 2 → c = [] ∧ d = tT3d h v.toNat) ∧ (k = 3 → c = [] ∧ ∀ i, 0 ≤ i → i < 18 → h.2 19 (18 + i) = tKs d i)
def tOf (k p : Int) (T : Int → Int) (B : Int → Int) (n v f g : Int) (h' : zM) : Prop := (0 ≤ v → ∃ j c d, tRd k h' v c d ∧ tRe T (tTp k p) (tTm k, 0, 0, [], [], []) (1, j, v, [], c, d)) ∧ (v = -1 → ∃ i f', (f = f' ∧ 0 ≤ i ∧ tQ B n i.toNat g) ∧ tRe T (tTp k p) (tTm k, 0, 0, [], [], []) (tEr i f'))
theorem tOf_k {k p : Int} {T : Int → Int} {B : Int → Int} {n v f g : Int} {m p' : Int} {h' : zM} (hk : (k = 0 ∧ m = 2 ∧ p' = 0) ∨ (k = 1 ∧ m = 20 ∧ p' = 0) ∨ (k = 2 ∧ m = 30 ∧ p' = p) ∨ (k = 3 ∧ m = 40 ∧ p' = p)) (a : 0 ≤ v → ∃ j c d, tRd k h' v c d ∧ tRe T p' (m, 0, 0, [], [], []) (1, j, v, [], c, d)) (b : v = -1 → ∃ i f', (f = f' ∧ 0 ≤ i ∧ tQ B n i.toNat g) ∧ tRe T p' (m, 0, 0, [], [], []) (tEr i f')) : tOf k p T B n v f g h' := by
  rcases hk with ⟨rfl, rfl, rfl⟩ | ⟨rfl, rfl, rfl⟩ | ⟨rfl, rfl, rfl⟩ | ⟨rfl, rfl, rfl⟩
  · exact ⟨a, b⟩
  · exact ⟨a, b⟩
  · exact ⟨a, b⟩
  · exact ⟨a, b⟩
