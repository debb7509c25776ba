/-- two glasses: how long till one runs out; what is left -/
def hgr (x y : Int) : Int := if x = 0 then y else if y = 0 then x else if x ≤ y then x else y
def hgl (x k : Int) : Int := if x ≤ k then 0 else x - k
theorem hgr_f (x y : Int) : (x = 0 ∧ hgr x y = y) ∨ (¬ x = 0 ∧ y = 0 ∧ hgr x y = x) ∨ (¬ x = 0 ∧ ¬ y = 0 ∧ x ≤ y ∧ hgr x y = x) ∨ (¬ x = 0 ∧ ¬ y = 0 ∧ y < x ∧ hgr x y = y) := by
  unfold hgr
  by_cases h1 : x = 0
  · rw [if_pos h1]; omega
  · rw [if_neg h1]
    by_cases h2 : y = 0
    · rw [if_pos h2]; omega
    · rw [if_neg h2]
      by_cases h3 : x ≤ y
      · rw [if_pos h3]; omega
      · rw [if_neg h3]; omega
theorem hgl_f (x k : Int) : (x ≤ k ∧ hgl x k = 0) ∨ (k < x ∧ hgl x k = x - k) := by
  unfold hgl
  by_cases h : x ≤ k
  · rw [if_pos h]; omega
  · rw [if_neg h]; omega
def hgT (a b rx ry c x y d : Int) : Prop := (x = rx ∧ y = ry ∧ d = c) ∨ (x = a - rx ∧ y = ry ∧ d = c + 1) ∨ (x = rx ∧ y = b - ry ∧ d = c + 1) ∨ (x = a - rx ∧ y = b - ry ∧ d = c + 2)
def hgP (a b : Int) : Nat → Int → Int → Int → Int → Prop
  | 0, m, x, y, c => m = 0 ∧ x = a ∧ y = b ∧ c = 0
  | n + 1, m, x, y, c => ∃ m0 x0 y0 c0, hgP a b n m0 x0 y0 c0 ∧ 1 ≤ hgr x0 y0 ∧ m = m0 + hgr x0 y0 ∧ hgT a b (hgl x0 (hgr x0 y0)) (hgl y0 (hgr x0 y0)) c0 x y c
def hgS (a b m x y c : Int) : Prop := ∃ n, hgP a b n m x y c
def hgE (a b m rx ry c : Int) : Prop := ∃ m0 x0 y0, hgS a b m0 x0 y0 c ∧ 1 ≤ hgr x0 y0 ∧ m = m0 + hgr x0 y0 ∧ rx = hgl x0 (hgr x0 y0) ∧ ry = hgl y0 (hgr x0 y0)
theorem hgP_b {a b : Int} (ha : 0 ≤ a) (hb : 0 ≤ b) : ∀ (n : Nat) (m x y c : Int), hgP a b n m x y c → 0 ≤ m ∧ (0 ≤ x ∧ x ≤ a) ∧ (0 ≤ y ∧ y ≤ b) ∧ 0 ≤ c ∧ c ≤ 2 * m
  | 0, m, x, y, c, h => by
    obtain ⟨h1, h2, h3, h4⟩ := h
    omega
  | n + 1, m, x, y, c, h => by
    obtain ⟨m0, x0, y0, c0, h1, h2, h3, h4⟩ := h
    have ih := hgP_b ha hb n m0 x0 y0 c0 h1
    have r := hgr_f x0 y0
    have l1 := hgl_f x0 (hgr x0 y0)
    have l2 := hgl_f y0 (hgr x0 y0)
    generalize hgl x0 (hgr x0 y0) = rx at h4 l1
    generalize hgl y0 (hgr x0 y0) = ry at h4 l2
    generalize hgr x0 y0 = q at h2 h3 r l1 l2
    have b1 : 0 ≤ rx ∧ rx ≤ a := by omega
    have b2 : 0 ≤ ry ∧ ry ≤ b := by omega
    unfold hgT at h4
    rcases h4 with h4 | h4 | h4 | h4 <;> omega
theorem hgS_b {a b m x y c : Int} (ha : 0 ≤ a) (hb : 0 ≤ b) (h : hgS a b m x y c) : 0 ≤ m ∧ (0 ≤ x ∧ x ≤ a) ∧ (0 ≤ y ∧ y ≤ b) ∧ 0 ≤ c ∧ c ≤ 2 * m := by
  obtain ⟨n, h⟩ := h
  exact hgP_b ha hb n m x y c h
theorem hgS_0 {a b : Int} : hgS a b 0 a b 0 := ⟨0, rfl, rfl, rfl, rfl⟩
theorem hgE_S {a b m rx ry c0 x y c : Int} (e : hgE a b m rx ry c0) (t : hgT a b rx ry c0 x y c) : hgS a b m x y c := by
  obtain ⟨m0, x0, y0, ⟨n, s⟩, r, em, e1, e2⟩ := e
  rw [e1, e2] at t
  exact ⟨n + 1, m0, x0, y0, c0, s, r, em, t⟩
theorem hgS_i {a b m x y c : Int} (h : hgS a b m x y c) : (m = 0 ∧ x = a ∧ y = b ∧ c = 0) ∨ ∃ rx ry c0, hgE a b m rx ry c0 ∧ hgT a b rx ry c0 x y c := by
  obtain ⟨n, h⟩ := h
  cases n with
  | zero => exact Or.inl h
  | succ n =>
    obtain ⟨m0, x0, y0, c0, h1, h2, h3, h4⟩ := h
    exact Or.inr ⟨_, _, c0, ⟨m0, x0, y0, ⟨n, h1⟩, h2, h3, rfl, rfl⟩, h4⟩
theorem hgE_b {a b m rx ry c : Int} (ha : 0 ≤ a) (hb : 0 ≤ b) (h : hgE a b m rx ry c) : 1 ≤ m ∧ (0 ≤ rx ∧ rx ≤ a) ∧ (0 ≤ ry ∧ ry ≤ b) ∧ 0 ≤ c ∧ c ≤ 2 * m ∧ (rx = 0 ∨ ry = 0) := by
  obtain ⟨m0, x0, y0, s, r, em, e1, e2⟩ := h
  have sb := hgS_b ha hb s
  have rf := hgr_f x0 y0
  have l1 := hgl_f x0 (hgr x0 y0)
  have l2 := hgl_f y0 (hgr x0 y0)
  rw [← e1] at l1
  rw [← e2] at l2
  generalize hgr x0 y0 = q at r em rf l1 l2
  omega
theorem hgS_z {a b m x y c : Int} (ha : 0 ≤ a) (hb : 0 ≤ b) (h : hgS a b m x y c) (hm : m ≤ 0) : m = 0 ∧ x = a ∧ y = b ∧ c = 0 := by
  rcases hgS_i h with h | ⟨rx, ry, c0, e, _⟩
  · exact h
  · have := hgE_b ha hb e; omega
/-- the answer -/
def hgA (a b t v : Int) : Prop := (v = -1 ∧ ∀ rx ry c, ¬ hgE a b t rx ry c) ∨ ((∃ rx ry, hgE a b t rx ry v) ∧ ∀ rx ry c, hgE a b t rx ry c → v ≤ c)
theorem hgA_u {a b t v v' : Int} (p : hgA a b t v) (q : hgA a b t v') : v = v' := by
  rcases p with ⟨p1, p2⟩ | ⟨⟨rx, ry, p1⟩, p2⟩ <;> rcases q with ⟨q1, q2⟩ | ⟨⟨rx', ry', q1⟩, q2⟩
  · omega
  · exact absurd q1 (p2 _ _ _)
  · exact absurd p1 (q2 _ _ _)
  · have := p2 _ _ _ q1; have := q2 _ _ _ p1; omega
/-- a place is lowered -/
def hgU (f f' : Int → Int) (j c : Int) : Prop := (f' j ≤ f j ∧ f' j ≤ c ∧ (f' j = f j ∨ f' j = c)) ∧ ∀ i, ¬ i = j → f' i = f i
theorem hgU_le {f f' : Int → Int} {j c : Int} (u : hgU f f' j c) (i : Int) : f' i ≤ f i := by
  by_cases q : i = j
  · rw [q]; exact u.1.1
  · rw [u.2 i q]; exact Int.le_refl _
/-- the reference: minute by minute, each x, each y -/
def hgi (m x y : Int) : Int := 961 * m + 31 * x + y
def hgSn (a b t : Int) (f : Int → Int) : Prop := ∀ m x y, (0 ≤ m ∧ m ≤ t) → (0 ≤ x ∧ x ≤ a) → (0 ≤ y ∧ y ≤ b) → ¬ f (hgi m x y) = 100000000 → hgS a b m x y (f (hgi m x y))
def hgCl (a b t : Int) (f : Int → Int) (best m x y : Int) : Prop := ¬ f (hgi m x y) = 100000000 → 1 ≤ hgr x y → m + hgr x y ≤ t → (∀ x' y' d, hgT a b (hgl x (hgr x y)) (hgl y (hgr x y)) (f (hgi m x y)) x' y' d → f (hgi (m + hgr x y) x' y') ≤ d) ∧ (m + hgr x y = t → best ≤ f (hgi m x y))
def hgG (a b t : Int) (f : Int → Int) (best M X Y : Int) : Prop := hgSn a b t f ∧ f (hgi 0 a b) ≤ 0 ∧ (∀ m x y, (0 ≤ m ∧ m < t) → (0 ≤ x ∧ x ≤ a) → (0 ≤ y ∧ y ≤ b) → (m < M ∨ (m = M ∧ (x < X ∨ (x = X ∧ y < Y)))) → hgCl a b t f best m x y) ∧ (best = 100000000 ∨ ∃ rx ry, hgE a b t rx ry best)
section HG
variable {a b t best M X Y : Int} {f : Int → Int}
theorem hgG_0 (hab : (1 ≤ a ∧ a ≤ 30) ∧ (1 ≤ b ∧ b ≤ 30)) (ht : 1 ≤ t) (h0 : f (hgi 0 a b) = 0) (hf : ∀ i, 0 ≤ i → i < 961 * (t + 1) → ¬ i = hgi 0 a b → f i = 100000000) : hgG a b t f 100000000 0 0 0 := by
  refine ⟨fun m x y hm hx hy n => ?_, by omega, fun m x y hm hx hy z => ?_, Or.inl rfl⟩
  · by_cases q : hgi m x y = hgi 0 a b
    · have e : m = 0 ∧ x = a ∧ y = b := by unfold hgi at q; omega
      rw [e.1, e.2.1, e.2.2, h0]; exact hgS_0
    · exact absurd (hf _ (by unfold hgi; omega) (by unfold hgi; omega) q) n
  · exact absurd z (by omega)
theorem hgG_m {M' X' Y' : Int} (G : hgG a b t f best M X Y) (h : ∀ m x y, (0 ≤ m ∧ m < t) → (0 ≤ x ∧ x ≤ a) → (0 ≤ y ∧ y ≤ b) → (m < M' ∨ (m = M' ∧ (x < X' ∨ (x = X' ∧ y < Y')))) → (m < M ∨ (m = M ∧ (x < X ∨ (x = X ∧ y < Y))))) : hgG a b t f best M' X' Y' := ⟨G.1, G.2.1, fun m x y hm hx hy z => G.2.2.1 m x y hm hx hy (h m x y hm hx hy z), G.2.2.2⟩
theorem hgG_y (G : hgG a b t f best M X Y) (h : b < Y) : hgG a b t f best M (X + 1) 0 := hgG_m G (fun m x y hm hx hy z => by omega)
theorem hgG_x (G : hgG a b t f best M X 0) (h : a < X) : hgG a b t f best (M + 1) 0 0 := hgG_m G (fun m x y hm hx hy z => by omega)
theorem hgG_k (G : hgG a b t f best M X Y) (h : f (hgi M X Y) = 100000000 ∨ hgr X Y < 1 ∨ t < M + hgr X Y) : hgG a b t f best M X (Y + 1) := by
  refine ⟨G.1, G.2.1, fun m x y hm hx hy z => ?_, G.2.2.2⟩
  by_cases q : m = M ∧ x = X ∧ y = Y
  · rw [q.1, q.2.1, q.2.2]
    intro n1 n2 n3
    rcases h with h | h | h
    · exact absurd h n1
    · omega
    · omega
  · exact G.2.2.1 m x y hm hx hy (by omega)
theorem hgU_sn {f' : Int → Int} {m' x' y' d : Int} (S : hgSn a b t f) (hab : a ≤ 30 ∧ b ≤ 30) (u : hgU f f' (hgi m' x' y') d) (s : hgS a b m' x' y' d) (hx : 0 ≤ x' ∧ x' ≤ a) (hy : 0 ≤ y' ∧ y' ≤ b) : hgSn a b t f' := by
  intro m x y hm hx1 hy1 n
  by_cases q : hgi m x y = hgi m' x' y'
  · have e : m = m' ∧ x = x' ∧ y = y' := by unfold hgi at q; omega
    rw [e.1, e.2.1, e.2.2] at n ⊢
    rcases u.1.2.2 with z | z
    · rw [z] at n ⊢
      have hm' : 0 ≤ m' ∧ m' ≤ t := by omega
      exact S m' x' y' hm' hx hy n
    · rw [z]; exact s
  · rw [u.2 _ q] at n ⊢
    exact S m x y hm hx1 hy1 n
theorem hgG_u {f1 f2 f3 f4 : Int → Int} {r rx ry c best' : Int} (G : hgG a b t f best M X Y) (hab : (1 ≤ a ∧ a ≤ 30) ∧ (1 ≤ b ∧ b ≤ 30)) (hM : 0 ≤ M ∧ M < t) (hX : 0 ≤ X ∧ X ≤ a) (hY : 0 ≤ Y ∧ Y ≤ b) (ec : f (hgi M X Y) = c) (hc : ¬ c = 100000000) (er : hgr X Y = r) (hr : 1 ≤ r) (ht : M + r ≤ t) (ex : hgl X r = rx) (ey : hgl Y r = ry)
    (u1 : hgU f f1 (hgi (M + r) rx ry) c) (u2 : hgU f1 f2 (hgi (M + r) (a - rx) ry) (c + 1)) (u3 : hgU f2 f3 (hgi (M + r) rx (b - ry)) (c + 1)) (u4 : hgU f3 f4 (hgi (M + r) (a - rx) (b - ry)) (c + 2)) (hb : (best' = best ∧ M + r < t) ∨ (best' ≤ best ∧ best' ≤ c ∧ (best' = best ∨ (best' = c ∧ M + r = t)))) : hgG a b t f4 best' M X (Y + 1) := by
  obtain ⟨G1, G2, G3, G4⟩ := G
  have sc : hgS a b M X Y c := by rw [← ec]; exact G1 M X Y (by omega) hX hY (by rw [ec]; exact hc)
  have E : hgE a b (M + r) rx ry c := ⟨M, X, Y, sc, by rw [er]; exact hr, by rw [er], by rw [er, ex], by rw [er, ey]⟩
  have eb := hgE_b (by omega) (by omega) E
  have le1 := hgU_le u1
  have le2 := hgU_le u2
  have le3 := hgU_le u3
  have le4 := hgU_le u4
  have le : ∀ i, f4 i ≤ f i := fun i => by have := le1 i; have := le2 i; have := le3 i; have := le4 i; omega
  have eqm : ∀ m x y, (0 ≤ x ∧ x ≤ a) → (0 ≤ y ∧ y ≤ b) → m ≤ M → f4 (hgi m x y) = f (hgi m x y) := by
    intro m x y hx hy hm
    have n : ∀ x' y', (0 ≤ x' ∧ x' ≤ a) → (0 ≤ y' ∧ y' ≤ b) → ¬ hgi m x y = hgi (M + r) x' y' := fun x' y' hx' hy' q => by unfold hgi at q; omega
    rw [u4.2 _ (n _ _ (by omega) (by omega)), u3.2 _ (n _ _ (by omega) (by omega)), u2.2 _ (n _ _ (by omega) (by omega)), u1.2 _ (n _ _ (by omega) (by omega))]
  have tgt : ∀ x' y' d, hgT a b rx ry c x' y' d → f4 (hgi (M + r) x' y') ≤ d := by
    intro x' y' d q
    unfold hgT at q
    rcases q with ⟨q1, q2, q3⟩ | ⟨q1, q2, q3⟩ | ⟨q1, q2, q3⟩ | ⟨q1, q2, q3⟩
    · rw [q1, q2, q3]
      have z1 := u1.1.2.1; have z2 := le2 (hgi (M + r) rx ry); have z3 := le3 (hgi (M + r) rx ry); have z4 := le4 (hgi (M + r) rx ry)
      omega
    · rw [q1, q2, q3]
      have z1 := u2.1.2.1; have z3 := le3 (hgi (M + r) (a - rx) ry); have z4 := le4 (hgi (M + r) (a - rx) ry)
      omega
    · rw [q1, q2, q3]
      have z1 := u3.1.2.1; have z4 := le4 (hgi (M + r) rx (b - ry))
      omega
    · rw [q1, q2, q3]; exact u4.1.2.1
  have hb1 : best' ≤ best := by omega
  refine ⟨?_, Int.le_trans (le _) G2, fun m x y hm hx hy z => ?_, ?_⟩
  · have S1 := hgU_sn G1 (by omega) u1 (hgE_S E (Or.inl ⟨rfl, rfl, rfl⟩)) (by omega) (by omega)
    have S2 := hgU_sn S1 (by omega) u2 (hgE_S E (Or.inr (Or.inl ⟨rfl, rfl, rfl⟩))) (by omega) (by omega)
    have S3 := hgU_sn S2 (by omega) u3 (hgE_S E (Or.inr (Or.inr (Or.inl ⟨rfl, rfl, rfl⟩)))) (by omega) (by omega)
    exact hgU_sn S3 (by omega) u4 (hgE_S E (Or.inr (Or.inr (Or.inr ⟨rfl, rfl, rfl⟩)))) (by omega) (by omega)
  · have em : f4 (hgi m x y) = f (hgi m x y) := eqm m x y hx hy (by omega)
    unfold hgCl
    rw [em]
    by_cases q : m = M ∧ x = X ∧ y = Y
    · rw [q.1, q.2.1, q.2.2, ec, er, ex, ey]
      intro _ _ _
      exact ⟨tgt, fun e => by omega⟩
    · intro n1 n2 n3
      have g := G3 m x y hm hx hy (by omega) n1 n2 n3
      exact ⟨fun x' y' d w => Int.le_trans (le _) (g.1 x' y' d w), fun e => Int.le_trans hb1 (g.2 e)⟩
  · rcases hb with ⟨hb, _⟩ | ⟨_, _, hb | ⟨hb, ht2⟩⟩
    · rw [hb]; exact G4
    · rw [hb]; exact G4
    · rw [hb]; exact Or.inr ⟨rx, ry, by rw [← ht2]; exact E⟩
theorem hgG_c (hab : (1 ≤ a ∧ a ≤ 30) ∧ (1 ≤ b ∧ b ≤ 30)) (ht : t ≤ 120) (G : hgG a b t f best M 0 0) (hM : t ≤ M) : ∀ (n : Nat) (m x y c : Int), hgP a b n m x y c → m ≤ t → f (hgi m x y) ≤ c
  | 0, m, x, y, c, h, _ => by
    obtain ⟨h1, h2, h3, h4⟩ := h
    rw [h1, h2, h3, h4]; exact G.2.1
  | n + 1, m, x, y, c, h, hm => by
    obtain ⟨m0, x0, y0, c0, h1, h2, h3, h4⟩ := h
    have ih := hgG_c hab ht G hM n m0 x0 y0 c0 h1 (by omega)
    have pb := hgP_b (by omega) (by omega) n m0 x0 y0 c0 h1
    have g := G.2.2.1 m0 x0 y0 (by omega) pb.2.1 pb.2.2.1 (by omega) (by omega) h2 (by omega)
    rw [h3]
    unfold hgT at h4
    rcases h4 with ⟨q1, q2, q3⟩ | ⟨q1, q2, q3⟩ | ⟨q1, q2, q3⟩ | ⟨q1, q2, q3⟩
    · have := g.1 x y _ (Or.inl ⟨q1, q2, rfl⟩); omega
    · have := g.1 x y _ (Or.inr (Or.inl ⟨q1, q2, rfl⟩)); omega
    · have := g.1 x y _ (Or.inr (Or.inr (Or.inl ⟨q1, q2, rfl⟩))); omega
    · have := g.1 x y _ (Or.inr (Or.inr (Or.inr ⟨q1, q2, rfl⟩))); omega
theorem hgG_e (hab : (1 ≤ a ∧ a ≤ 30) ∧ (1 ≤ b ∧ b ≤ 30)) (ht : t ≤ 120) (G : hgG a b t f best M 0 0) (hM : t ≤ M) {v : Int} (hv : (best = 100000000 ∧ v = -1) ∨ (¬ best = 100000000 ∧ v = best)) : hgA a b t v := by
  have key : ∀ rx ry c, hgE a b t rx ry c → best ≤ c ∧ c ≤ 240 := by
    intro rx ry c e
    have eb := hgE_b (by omega) (by omega) e
    obtain ⟨m0, x0, y0, ⟨n, s⟩, r, em, _, _⟩ := e
    have pb := hgP_b (by omega) (by omega) n m0 x0 y0 c s
    have cl := hgG_c hab ht G hM n m0 x0 y0 c s (by omega)
    have g := (G.2.2.1 m0 x0 y0 (by omega) pb.2.1 pb.2.2.1 (by omega) (by omega) r (by omega)).2 em.symm
    omega
  rcases hv with ⟨h1, h2⟩ | ⟨h1, h2⟩
  · exact Or.inl ⟨h2, fun rx ry c e => by have := key rx ry c e; omega⟩
  · rcases G.2.2.2 with z | z
    · exact absurd z h1
    · rw [h2]; exact Or.inr ⟨z, fun rx ry c e => (key rx ry c e).1⟩
end HG
/-- the class: the minutes at which one runs out, in a ring of 32 -/
def hgj (m e : Int) : Int := (m % 32) * 62 + e
def hgn (rx ry : Int) : Int := if rx = 0 then ry else 31 + rx
def hgx (e : Int) : Int := if e < 31 then 0 else e - 31
def hgy (e : Int) : Int := if e < 31 then e else 0
theorem hgn_f (rx ry : Int) : (rx = 0 ∧ hgn rx ry = ry) ∨ (¬ rx = 0 ∧ hgn rx ry = 31 + rx) := by
  unfold hgn
  by_cases h : rx = 0
  · rw [if_pos h]; omega
  · rw [if_neg h]; omega
theorem hgx_f (e : Int) : (e < 31 ∧ hgx e = 0 ∧ hgy e = e) ∨ (31 ≤ e ∧ hgx e = e - 31 ∧ hgy e = 0) := by
  unfold hgx hgy
  by_cases h : e < 31
  · rw [if_pos h, if_pos h]; omega
  · rw [if_neg h, if_neg h]; omega
theorem hgn_d {a b m rx ry c : Int} (hab : (1 ≤ a ∧ a ≤ 30) ∧ (1 ≤ b ∧ b ≤ 30)) (e : hgE a b m rx ry c) : (0 ≤ hgn rx ry ∧ hgn rx ry < 62) ∧ hgx (hgn rx ry) = rx ∧ hgy (hgn rx ry) = ry := by
  have eb := hgE_b (by omega) (by omega) e
  have f := hgn_f rx ry
  have d := hgx_f (hgn rx ry)
  omega
def hgC1 (a b : Int) (f : Int → Int) (M e : Int) : Prop := ∀ m k, M ≤ m → m ≤ M + 31 → 0 ≤ k → k < 62 → (m = M → e ≤ k) → ¬ f (hgj m k) = 2147483647 → hgE a b m (hgx k) (hgy k) (f (hgj m k))
def hgC3 (a b : Int) (f : Int → Int) (M e : Int) : Prop := ∀ m0 x y c, hgS a b m0 x y c → m0 < M → 1 ≤ hgr x y → M ≤ m0 + hgr x y → (m0 + hgr x y = M → e ≤ hgn (hgl x (hgr x y)) (hgl y (hgr x y))) → f (hgj (m0 + hgr x y) (hgn (hgl x (hgr x y)) (hgl y (hgr x y)))) ≤ c
def hgC4 (a b : Int) (f : Int → Int) (M e : Int) : Prop := ∀ rx ry c0 x y c, hgE a b M rx ry c0 → hgn rx ry < e → hgT a b rx ry c0 x y c → 1 ≤ hgr x y → f (hgj (M + hgr x y) (hgn (hgl x (hgr x y)) (hgl y (hgr x y)))) ≤ c
def hgC (a b t : Int) (f : Int → Int) (best M e : Int) : Prop := hgC1 a b f M e ∧ (∀ k, 0 ≤ k → k < e → f (hgj M k) = 2147483647) ∧ hgC3 a b f M e ∧ (M < t → hgC4 a b f M e) ∧ (best = 2147483647 ∨ ∃ rx ry, hgE a b t rx ry best) ∧ (M = t → ∀ rx ry c, hgE a b t rx ry c → hgn rx ry < e → best ≤ c)
/-- one is turned into: what is there is lowered -/
def hgV (f f' : Int → Int) (m x y c : Int) : Prop := (hgr x y < 1 → ∀ i, f' i = f i) ∧ (1 ≤ hgr x y → hgU f f' (hgj (m + hgr x y) (hgn (hgl x (hgr x y)) (hgl y (hgr x y)))) c)
theorem hgV_le {f f' : Int → Int} {m x y c : Int} (v : hgV f f' m x y c) (i : Int) : f' i ≤ f i := by
  by_cases q : hgr x y < 1
  · rw [v.1 q i]; exact Int.le_refl _
  · exact hgU_le (v.2 (by omega)) i
section HG2
variable {a b t best M e : Int} {f : Int → Int}
theorem hgr_30 {x y : Int} (hab : (1 ≤ a ∧ a ≤ 30) ∧ (1 ≤ b ∧ b ≤ 30)) (hx : 0 ≤ x ∧ x ≤ a) (hy : 0 ≤ y ∧ y ≤ b) : 0 ≤ hgr x y ∧ hgr x y ≤ 30 := by
  have := hgr_f x y; omega
theorem hgC_0 {f' : Int → Int} (hab : (1 ≤ a ∧ a ≤ 30) ∧ (1 ≤ b ∧ b ≤ 30)) (hf : ∀ i, 0 ≤ i → i < 1984 → f i = 2147483647) (v : hgV f f' 0 a b 0) : hgC a b t f' 2147483647 1 0 := by
  have r := hgr_30 (x := a) (y := b) hab (by omega) (by omega)
  have rf := hgr_f a b
  have u := v.2 (by omega)
  have E : hgE a b (0 + hgr a b) (hgl a (hgr a b)) (hgl b (hgr a b)) 0 := ⟨0, a, b, hgS_0, by omega, rfl, rfl, rfl⟩
  have d := hgn_d hab E
  generalize hgl a (hgr a b) = rx at u E d
  generalize hgl b (hgr a b) = ry at u E d
  refine ⟨fun m k m1 m2 k1 k2 _ n => ?_, fun k k1 k2 => absurd k1 (by omega), fun m0 x y c s hm hr h1 _ => ?_, fun _ rx' ry' c0 x y c E' hn => ?_, Or.inl rfl, fun _ rx' ry' c E' hn => ?_⟩
  · by_cases q : hgj m k = hgj (0 + hgr a b) (hgn rx ry)
    · have e1 : m = 0 + hgr a b ∧ k = hgn rx ry := by unfold hgj at q; omega
      rw [q] at n ⊢
      rw [e1.2, d.2.1, d.2.2, e1.1]
      rcases u.1.2.2 with z | z
      · rw [z] at n
        exact absurd (hf _ (by unfold hgj; omega) (by unfold hgj; omega)) n
      · rw [z]; exact E
    · rw [u.2 _ q] at n
      exact absurd (hf _ (by unfold hgj; omega) (by unfold hgj; omega)) n
  · have z := hgS_z (by omega) (by omega) s (by omega)
    obtain ⟨z1, z2, z3, z4⟩ := z
    subst z1; subst z2; subst z3; subst z4
    exact (v.2 (by omega)).1.2.1
  · have := (hgn_d hab E').1; omega
  · have := (hgn_d hab E').1; omega
theorem hgC_n (hab : (1 ≤ a ∧ a ≤ 30) ∧ (1 ≤ b ∧ b ≤ 30)) (C : hgC a b t f best M 62) (hM : 1 ≤ M ∧ M < t) : hgC a b t f best (M + 1) 0 := by
  obtain ⟨C1, C2, C3, C4, C5, C6⟩ := C
  refine ⟨fun m k m1 m2 k1 k2 _ n => ?_, fun k k1 k2 => absurd k1 (by omega), fun m0 x y c s hm hr h1 _ => ?_, fun _ rx' ry' c0 x y c E' hn => ?_, C5, fun _ rx' ry' c E' hn => ?_⟩
  · by_cases q : m = M + 32
    · have e : hgj m k = hgj M k := by unfold hgj; rw [q]; omega
      rw [e] at n
      exact absurd (C2 k k1 k2) n
    · exact C1 m k (by omega) (by omega) k1 k2 (by omega) n
  · by_cases q : m0 = M
    · rcases hgS_i s with z | ⟨rx, ry, c0, E, T⟩
      · omega
      · rw [q] at E ⊢
        exact C4 hM.2 rx ry c0 x y c E (hgn_d hab E).1.2 T hr
    · exact C3 m0 x y c s (by omega) hr (by omega) (by omega)
  · have := (hgn_d hab E').1; omega
  · have := (hgn_d hab E').1; omega
/-- an event of this minute is there at its cost or less -/
theorem hgC_c (C : hgC a b t f best M e) {rx ry c : Int} (E : hgE a b M rx ry c) (h : e ≤ hgn rx ry) : f (hgj M (hgn rx ry)) ≤ c := by
  obtain ⟨m0, x0, y0, s, r, em, e1, e2⟩ := E
  have := C.2.2.1 m0 x0 y0 c s (by omega) r (by omega) (fun _ => by rw [← e1, ← e2]; exact h)
  rw [← em, ← e1, ← e2] at this
  exact this
theorem hgC_k (hab : (1 ≤ a ∧ a ≤ 30) ∧ (1 ≤ b ∧ b ≤ 30)) (C : hgC a b t f best M e) (hM : 1 ≤ M ∧ M ≤ t) (ht : t ≤ 120) (he : 0 ≤ e ∧ e < 62) (h : f (hgj M e) = 2147483647) : hgC a b t f best M (e + 1) := by
  have key : ∀ rx ry c0, hgE a b M rx ry c0 → ¬ hgn rx ry = e := by
    intro rx ry c0 E q
    have eb := hgE_b (by omega) (by omega) E
    have := hgC_c C E (by omega)
    rw [q, h] at this
    omega
  obtain ⟨C1, C2, C3, C4, C5, C6⟩ := C
  refine ⟨fun m k m1 m2 k1 k2 z n => C1 m k m1 m2 k1 k2 (fun q => by have := z q; omega) n, fun k k1 k2 => ?_, fun m0 x y c s hm hr h1 z => C3 m0 x y c s hm hr h1 (fun q => by have := z q; omega), fun hh rx ry c0 x y c E hn T hr => ?_, C5, fun hh rx ry c E hn => ?_⟩
  · by_cases q : k = e
    · rw [q]; exact h
    · exact C2 k k1 (by omega)
  · have := key rx ry c0 E
    exact C4 hh rx ry c0 x y c E (by omega) T hr
  · rw [← hh] at E
    have := key rx ry c E
    rw [hh] at E
    exact C6 hh rx ry c E (by omega)
/-- the last minute: the least of all -/
theorem hgC_b {f' : Int → Int} {best' : Int} (hab : (1 ≤ a ∧ a ≤ 30) ∧ (1 ≤ b ∧ b ≤ 30)) (C : hgC a b t f best M e) (hM : 1 ≤ M ∧ M = t) (he : 0 ≤ e ∧ e < 62) {c : Int} (ec : f (hgj M e) = c) (hc : ¬ c = 2147483647) (f0 : f' (hgj M e) = 2147483647) (fo : ∀ i, ¬ i = hgj M e → f' i = f i) (hb : best' ≤ best ∧ best' ≤ c ∧ (best' = best ∨ best' = c)) : hgC a b t f' best' M (e + 1) := by
  have E : hgE a b M (hgx e) (hgy e) c := by rw [← ec]; exact C.1 M e (by omega) (by omega) he.1 he.2 (by omega) (by rw [ec]; exact hc)
  have cc := fun {rx ry c0 : Int} (E' : hgE a b M rx ry c0) (h : e ≤ hgn rx ry) => hgC_c C E' h
  obtain ⟨C1, C2, C3, C4, C5, C6⟩ := C
  have nj : ∀ m k, M ≤ m → m ≤ M + 31 → 0 ≤ k → k < 62 → ¬ (m = M ∧ k = e) → ¬ hgj m k = hgj M e := fun m k m1 m2 k1 k2 z q => by unfold hgj at q; omega
  refine ⟨fun m k m1 m2 k1 k2 z n => ?_, fun k k1 k2 => ?_, fun m0 x y c2 s hm hr h1 z => ?_, fun hh => absurd hh (by omega), ?_, fun hh rx ry c2 E2 hn => ?_⟩
  · rw [fo _ (nj m k m1 m2 k1 k2 (fun q => by have := z q.1; omega))] at n ⊢
    exact C1 m k m1 m2 k1 k2 (fun q => by have := z q; omega) n
  · by_cases q : k = e
    · rw [q]; exact f0
    · rw [fo _ (nj M k (by omega) (by omega) k1 (by omega) (by omega))]; exact C2 k k1 (by omega)
  · have sb := hgS_b (by omega) (by omega) s
    have r30 := hgr_30 hab sb.2.1 sb.2.2.1
    have E3 : hgE a b (m0 + hgr x y) (hgl x (hgr x y)) (hgl y (hgr x y)) c2 := ⟨m0, x, y, s, hr, rfl, rfl, rfl⟩
    have d := (hgn_d hab E3).1
    rw [fo _ (nj _ _ h1 (by omega) d.1 d.2 (fun q => by have := z q.1; omega))]
    exact C3 m0 x y c2 s hm hr h1 (fun q => by have := z q; omega)
  · rcases hb.2.2 with q | q
    · rw [q]; exact C5
    · rw [q]; exact Or.inr ⟨_, _, by rw [← hM.2]; exact E⟩
  · by_cases q : hgn rx ry = e
    · rw [← hh] at E2
      have := cc E2 (by omega)
      rw [q, ec] at this
      omega
    · have := C6 hh rx ry c2 E2 (by omega); omega
theorem hgV_1 {f' : Int → Int} {x y d : Int} (hab : (1 ≤ a ∧ a ≤ 30) ∧ (1 ≤ b ∧ b ≤ 30)) (S : hgC1 a b f M (e + 1)) (v : hgV f f' M x y d) (s : hgS a b M x y d) : hgC1 a b f' M (e + 1) := by
  have sb := hgS_b (by omega) (by omega) s
  have r30 := hgr_30 hab sb.2.1 sb.2.2.1
  intro m k m1 m2 k1 k2 z n
  by_cases q : hgr x y < 1
  · rw [v.1 q] at n ⊢; exact S m k m1 m2 k1 k2 z n
  · have u := v.2 (by omega)
    have E : hgE a b (M + hgr x y) (hgl x (hgr x y)) (hgl y (hgr x y)) d := ⟨M, x, y, s, by omega, rfl, rfl, rfl⟩
    have dd := hgn_d hab E
    by_cases w : hgj m k = hgj (M + hgr x y) (hgn (hgl x (hgr x y)) (hgl y (hgr x y)))
    · have e1 : m = M + hgr x y ∧ k = hgn (hgl x (hgr x y)) (hgl y (hgr x y)) := by unfold hgj at w; omega
      rcases u.1.2.2 with y1 | y1
      · rw [w, y1, ← w] at n ⊢
        exact S m k m1 m2 k1 k2 z n
      · rw [w, y1, e1.2, dd.2.1, dd.2.2, e1.1]; exact E
    · rw [u.2 _ w] at n ⊢; exact S m k m1 m2 k1 k2 z n
theorem hgV_j {f' : Int → Int} {x y d k : Int} (hab : (1 ≤ a ∧ a ≤ 30) ∧ (1 ≤ b ∧ b ≤ 30)) (v : hgV f f' M x y d) (s : hgS a b M x y d) (hk : 0 ≤ k ∧ k < 62) : f' (hgj M k) = f (hgj M k) := by
  have sb := hgS_b (by omega) (by omega) s
  have r30 := hgr_30 hab sb.2.1 sb.2.2.1
  by_cases q : hgr x y < 1
  · exact v.1 q _
  · have E : hgE a b (M + hgr x y) (hgl x (hgr x y)) (hgl y (hgr x y)) d := ⟨M, x, y, s, by omega, rfl, rfl, rfl⟩
    have dd := (hgn_d hab E).1
    exact (v.2 (by omega)).2 _ (fun w => by unfold hgj at w; omega)
theorem hgC_u {f0 f1 f2 f3 f4 : Int → Int} (hab : (1 ≤ a ∧ a ≤ 30) ∧ (1 ≤ b ∧ b ≤ 30)) (C : hgC a b t f best M e) (hM : 1 ≤ M ∧ M < t) (he : 0 ≤ e ∧ e < 62) {c x y : Int} (ec : f (hgj M e) = c) (hc : ¬ c = 2147483647) (ex : hgx e = x) (ey : hgy e = y) (z0 : f0 (hgj M e) = 2147483647) (zo : ∀ i, ¬ i = hgj M e → f0 i = f i)
    (v1 : hgV f0 f1 M x y c) (v2 : hgV f1 f2 M (a - x) y (c + 1)) (v3 : hgV f2 f3 M x (b - y) (c + 1)) (v4 : hgV f3 f4 M (a - x) (b - y) (c + 2)) : hgC a b t f4 best M (e + 1) := by
  have E : hgE a b M x y c := by rw [← ec, ← ex, ← ey]; exact C.1 M e (by omega) (by omega) he.1 he.2 (by omega) (by rw [ec]; exact hc)
  have cc := fun {rx ry c0 : Int} (E' : hgE a b M rx ry c0) (h : e ≤ hgn rx ry) => hgC_c C E' h
  obtain ⟨C1, C2, C3, C4, C5, C6⟩ := C
  have s1 := hgE_S E (Or.inl ⟨rfl, rfl, rfl⟩)
  have s2 := hgE_S E (Or.inr (Or.inl ⟨rfl, rfl, rfl⟩))
  have s3 := hgE_S E (Or.inr (Or.inr (Or.inl ⟨rfl, rfl, rfl⟩)))
  have s4 := hgE_S E (Or.inr (Or.inr (Or.inr ⟨rfl, rfl, rfl⟩)))
  have nj : ∀ m k, M ≤ m → m ≤ M + 31 → 0 ≤ k → k < 62 → ¬ (m = M ∧ k = e) → ¬ hgj m k = hgj M e := fun m k m1 m2 k1 k2 z q => by unfold hgj at q; omega
  have l1 := hgV_le v1
  have l2 := hgV_le v2
  have l3 := hgV_le v3
  have l4 := hgV_le v4
  have le : ∀ i, f4 i ≤ f0 i := fun i => by have := l1 i; have := l2 i; have := l3 i; have := l4 i; omega
  have S0 : hgC1 a b f0 M (e + 1) := fun m k m1 m2 k1 k2 z n => by
    rw [zo _ (nj m k m1 m2 k1 k2 (fun q => by have := z q.1; omega))] at n ⊢
    exact C1 m k m1 m2 k1 k2 (fun q => by have := z q; omega) n
  refine ⟨hgV_1 hab (hgV_1 hab (hgV_1 hab (hgV_1 hab S0 v1 s1) v2 s2) v3 s3) v4 s4, fun k k1 k2 => ?_, fun m0 x' y' c2 s hm hr h1 z => ?_, fun hh rx ry c0 x' y' c2 E2 hn T hr => ?_, C5, fun hh => absurd hh (by omega)⟩
  · rw [hgV_j hab v4 s4 (by omega), hgV_j hab v3 s3 (by omega), hgV_j hab v2 s2 (by omega), hgV_j hab v1 s1 (by omega)]
    by_cases q : k = e
    · rw [q]; exact z0
    · rw [zo _ (nj M k (by omega) (by omega) k1 (by omega) (by omega))]; exact C2 k k1 (by omega)
  · have sb := hgS_b (by omega) (by omega) s
    have r30 := hgr_30 hab sb.2.1 sb.2.2.1
    have E3 : hgE a b (m0 + hgr x' y') (hgl x' (hgr x' y')) (hgl y' (hgr x' y')) c2 := ⟨m0, x', y', s, hr, rfl, rfl, rfl⟩
    have d := (hgn_d hab E3).1
    have w := le (hgj (m0 + hgr x' y') (hgn (hgl x' (hgr x' y')) (hgl y' (hgr x' y'))))
    rw [zo _ (nj _ _ h1 (by omega) d.1 d.2 (fun q => by have := z q.1; omega))] at w
    exact Int.le_trans w (C3 m0 x' y' c2 s hm hr h1 (fun q => by have := z q; omega))
  · have s := hgE_S E2 T
    have sb := hgS_b (by omega) (by omega) s
    have r30 := hgr_30 hab sb.2.1 sb.2.2.1
    by_cases q : hgn rx ry = e
    · have dd := hgn_d hab E2
      have h0 := cc E2 (by omega)
      rw [q, ec] at h0
      rw [q, ex, ey] at dd
      rw [← dd.2.1, ← dd.2.2] at T
      unfold hgT at T
      rcases T with ⟨t1, t2, t3⟩ | ⟨t1, t2, t3⟩ | ⟨t1, t2, t3⟩ | ⟨t1, t2, t3⟩
      · rw [t1, t2] at hr ⊢
        have w1 := (v1.2 hr).1.2.1
        have w2 := l2 (hgj (M + hgr x y) (hgn (hgl x (hgr x y)) (hgl y (hgr x y)))); have w3 := l3 (hgj (M + hgr x y) (hgn (hgl x (hgr x y)) (hgl y (hgr x y)))); have w4 := l4 (hgj (M + hgr x y) (hgn (hgl x (hgr x y)) (hgl y (hgr x y))))
        omega
      · rw [t1, t2] at hr ⊢
        have w1 := (v2.2 hr).1.2.1
        have w3 := l3 (hgj (M + hgr (a - x) y) (hgn (hgl (a - x) (hgr (a - x) y)) (hgl y (hgr (a - x) y)))); have w4 := l4 (hgj (M + hgr (a - x) y) (hgn (hgl (a - x) (hgr (a - x) y)) (hgl y (hgr (a - x) y))))
        omega
      · rw [t1, t2] at hr ⊢
        have w1 := (v3.2 hr).1.2.1
        have w4 := l4 (hgj (M + hgr x (b - y)) (hgn (hgl x (hgr x (b - y))) (hgl (b - y) (hgr x (b - y)))))
        omega
      · rw [t1, t2] at hr ⊢
        have w1 := (v4.2 hr).1.2.1
        omega
    · have E3 : hgE a b (M + hgr x' y') (hgl x' (hgr x' y')) (hgl y' (hgr x' y')) c2 := ⟨M, x', y', s, hr, rfl, rfl, rfl⟩
      have d := (hgn_d hab E3).1
      have w := le (hgj (M + hgr x' y') (hgn (hgl x' (hgr x' y')) (hgl y' (hgr x' y'))))
      rw [zo _ (nj _ _ (by omega) (by omega) d.1 d.2 (by omega))] at w
      exact Int.le_trans w (C4 hh rx ry c0 x' y' c2 E2 (by omega) T hr)
theorem hgC_e (hab : (1 ≤ a ∧ a ≤ 30) ∧ (1 ≤ b ∧ b ≤ 30)) (C : hgC a b t f best t 62) (ht : t ≤ 120) {v : Int} (hv : (best = 2147483647 ∧ v = -1) ∨ (¬ best = 2147483647 ∧ v = best)) : hgA a b t v := by
  have key : ∀ rx ry c, hgE a b t rx ry c → best ≤ c ∧ c ≤ 240 := fun rx ry c E => by
    have eb := hgE_b (by omega) (by omega) E
    have := C.2.2.2.2.2 rfl rx ry c E (hgn_d hab E).1.2
    omega
  rcases hv with ⟨h1, h2⟩ | ⟨h1, h2⟩
  · exact Or.inl ⟨h2, fun rx ry c E => by have := key rx ry c E; omega⟩
  · rcases C.2.2.2.2.1 with z | z
    · exact absurd z h1
    · rw [h2]; exact Or.inr ⟨z, fun rx ry c E => (key rx ry c E).1⟩
end HG2
def hgd (a b t v : Int) : Prop := (((1 ≤ a ∧ a ≤ 30) ∧ (1 ≤ b ∧ b ≤ 30) ∧ (1 ≤ t ∧ t ≤ 120)) → hgA a b t v) ∧ (¬ ((1 ≤ a ∧ a ≤ 30) ∧ (1 ≤ b ∧ b ≤ 30) ∧ (1 ≤ t ∧ t ≤ 120)) → v = -1)
theorem hgd_u {a b t v v' : Int} (p : hgd a b t v) (q : hgd a b t v') : v = v' := by
  by_cases g : ((1 ≤ a ∧ a ≤ 30) ∧ (1 ≤ b ∧ b ≤ 30) ∧ (1 ≤ t ∧ t ≤ 120))
  · exact hgA_u (p.1 g) (q.1 g)
  · rw [p.2 g, q.2 g]
theorem hgV_w {h h' : zM} {m x y c R EV j v : Int} (er : hgr x y = R) (hR : 1 ≤ R) (ee : hgn (hgl x R) (hgl y R) = EV) (ej : j = ((m + R) % 32) * 62 + EV) (e : h' = zwr h 113 j v) (hv : v ≤ h.2 113 j ∧ v ≤ c ∧ (v = h.2 113 j ∨ v = c)) : hgV (h.2 113) (h'.2 113) m x y c := by
  refine ⟨fun z => absurd z (by omega), fun _ => ?_⟩
  rw [er, ee, show hgj (m + R) EV = j from ej.symm]
  have ev : h'.2 113 j = v := zwr_v e
  exact ⟨by rw [ev]; exact hv, fun i q => zwr_r e (fun z => q z.2)⟩
theorem hgV_n {f : Int → Int} {m x y c : Int} (h : hgr x y < 1) : hgV f f m x y c := ⟨fun _ _ => rfl, fun z => absurd z (by omega)⟩
theorem hgU_w {h h' : zM} {c j k v : Int} (ej : k = j) (e : h' = zwr h 27 j v) (hv : v ≤ h.2 27 j ∧ v ≤ c ∧ (v = h.2 27 j ∨ v = c)) : hgU (h.2 27) (h'.2 27) k c := by
  rw [ej]
  have ev : h'.2 27 j = v := zwr_v e
  exact ⟨by rw [ev]; exact hv, fun i q => zwr_r e (fun z => q z.2)⟩

abbrev q2_X8_turnInto (h : zM) (p1 : Int) (p2 : Int) (p3 : Int) (p4 : Int) : Option zV → zM → Prop := zqv fun h' => okC h' ∧ (hgV (h.2 113) (h'.2 113) p1 p2 p3 p4)
set_option maxRecDepth 100000 in
set_option maxHeartbeats 4000000 in
theorem s2_X8_turnInto (l : Launch) (h : zM) (p1 : Int) (p2 : Int) (p3 : Int) (p4 : Int) (s0 : okC h) (b_p1 : 0 ≤ p1 ∧ p1 ≤ 120) (b_p2 : 0 ≤ p2 ∧ p2 ≤ 30) (b_p3 : 0 ≤ p3 ∧ p3 ≤ 30) (b_p4 : (-2147483648) ≤ p4 ∧ p4 ≤ 2147483647) : zT shC l yX8_turnInto cX8_turnInto 10 none (rmL 2) 0 0 [.inr 108, .inl p1, .inl p2, .inl p3, .inl p4] h (q2_X8_turnInto h p1 p2 p3 p4) := by
  refine zT_of (by decide +kernel) (L0 := [some (.inr 108), some (.inl p1), some (.inl p2), some (.inl p3), some (.inl p4), none, none, none, none, none]) rfl (Nat.le_of_ble_eq_true rfl) ?_
  refine zj_iload_n (zdk ttX8_turnInto 0 rfl rfl) rfl ?_
  refine zj_if_eq (t := 8) (zdk ttX8_turnInto 1 rfl rfl) (by decide) (by omega) (fun c1 => ?_) (fun c1 => ?_)
  · refine zj_iload_n (zdk ttX8_turnInto 4 rfl rfl) rfl ?_
    refine zj_iload_n (zdk ttX8_turnInto 5 rfl rfl) rfl ?_
    refine zj_max (zdk ttX8_turnInto 6 rfl rfl) mx_RX8_37 (by omega) (by omega) (Nat.le_of_ble_eq_true rfl) (rm_m (by decide)) ?_
    have b2 := zm_max_f p2 p3
    refine zj_goto (t := 21) (zdk ttX8_turnInto 7 rfl rfl) (by decide) ?_
    refine zj_istore (L' := [some (.inr 108), some (.inl p1), some (.inl p2), some (.inl p3), some (.inl p4), some (.inl (zm_max p2 p3)), none, none, none, none]) (zdk ttX8_turnInto 11 rfl rfl) (by decide) rfl ?_
    refine zj_iload (zdk ttX8_turnInto 12 rfl rfl) rfl ?_
    refine zj_if_le (t := 35) (zdk ttX8_turnInto 13 rfl rfl) (by decide) (by omega) (fun c3 => ?_) (fun c3 => ?_)
    · exact zj_vret rfl (zdk ttX8_turnInto 17 rfl rfl) (Nat.le_refl _) (Nat.le_refl _) ⟨rfl, s0, (hgV_n (by have r9 := hgr_f p2 p3; omega))⟩
    · refine zj_iload (zdk ttX8_turnInto 14 rfl rfl) rfl ?_
      refine zj_bipush (zdk ttX8_turnInto 15 rfl rfl) (by decide) ?_
      refine zj_icmp_lt (t := 36) (zdk ttX8_turnInto 16 rfl rfl) (by decide) (by omega) (by decide) (fun c4 => ?_) (fun c4 => ?_)
      · refine zj_iconst (zdk ttX8_turnInto 18 rfl rfl) ?_
        refine zj_iload_n (zdk ttX8_turnInto 19 rfl rfl) rfl ?_
        refine zj_iload (zdk ttX8_turnInto 20 rfl rfl) rfl ?_
        refine zj_isub (zdk ttX8_turnInto 21 rfl rfl) ?_
        refine zj_max (zdk ttX8_turnInto 22 rfl rfl) mx_RX8_37 (by decide) (by omega) (Nat.le_of_ble_eq_true rfl) (rm_m (by decide)) ?_
        have b5 := zm_max_f 0 (p2 - (zm_max p2 p3))
        refine zj_istore (L' := [some (.inr 108), some (.inl p1), some (.inl p2), some (.inl p3), some (.inl p4), some (.inl (zm_max p2 p3)), some (.inl (zm_max 0 (p2 - (zm_max p2 p3)))), none, none, none]) (zdk ttX8_turnInto 23 rfl rfl) (by decide) rfl ?_
        refine zj_iconst (zdk ttX8_turnInto 24 rfl rfl) ?_
        refine zj_iload_n (zdk ttX8_turnInto 25 rfl rfl) rfl ?_
        refine zj_iload (zdk ttX8_turnInto 26 rfl rfl) rfl ?_
        refine zj_isub (zdk ttX8_turnInto 27 rfl rfl) ?_
        refine zj_max (zdk ttX8_turnInto 28 rfl rfl) mx_RX8_37 (by decide) (by omega) (Nat.le_of_ble_eq_true rfl) (rm_m (by decide)) ?_
        have b6 := zm_max_f 0 (p3 - (zm_max p2 p3))
        refine zj_istore (L' := [some (.inr 108), some (.inl p1), some (.inl p2), some (.inl p3), some (.inl p4), some (.inl (zm_max p2 p3)), some (.inl (zm_max 0 (p2 - (zm_max p2 p3)))), some (.inl (zm_max 0 (p3 - (zm_max p2 p3)))), none, none]) (zdk ttX8_turnInto 29 rfl rfl) (by decide) rfl ?_
        refine zj_iload (zdk ttX8_turnInto 30 rfl rfl) rfl ?_
        refine zj_if_ne (t := 66) (zdk ttX8_turnInto 31 rfl rfl) (by decide) (by omega) (fun c7 => ?_) (fun c7 => ?_)
        · exact absurd c7 (by omega)
        · refine zj_iload (zdk ttX8_turnInto 32 rfl rfl) rfl ?_
          refine zj_goto (t := 71) (zdk ttX8_turnInto 33 rfl rfl) (by decide) ?_
          refine zj_istore (L' := [some (.inr 108), some (.inl p1), some (.inl p2), some (.inl p3), some (.inl p4), some (.inl (zm_max p2 p3)), some (.inl (zm_max 0 (p2 - (zm_max p2 p3)))), some (.inl (zm_max 0 (p3 - (zm_max p2 p3)))), some (.inl (zm_max 0 (p3 - (zm_max p2 p3)))), none]) (zdk ttX8_turnInto 37 rfl rfl) (by decide) rfl ?_
          refine zj_iload_n (zdk ttX8_turnInto 38 rfl rfl) rfl ?_
          refine zj_iload (zdk ttX8_turnInto 39 rfl rfl) rfl ?_
          refine zj_iadd (zdk ttX8_turnInto 40 rfl rfl) ?_
          refine zj_bipush (zdk ttX8_turnInto 41 rfl rfl) (by decide) ?_
          refine zj_iremP (zdk ttX8_turnInto 42 rfl rfl) (by omega) (by omega) ?_
          refine zj_bipush (zdk ttX8_turnInto 43 rfl rfl) (by decide) ?_
          refine zj_imul (zdk ttX8_turnInto 44 rfl rfl) ?_
          refine zj_iload (zdk ttX8_turnInto 45 rfl rfl) rfl ?_
          refine zj_iadd (zdk ttX8_turnInto 46 rfl rfl) ?_
          refine zj_istore (L' := [some (.inr 108), some (.inl p1), some (.inl p2), some (.inl p3), some (.inl p4), some (.inl (zm_max p2 p3)), some (.inl (zm_max 0 (p2 - (zm_max p2 p3)))), some (.inl (zm_max 0 (p3 - (zm_max p2 p3)))), some (.inl (zm_max 0 (p3 - (zm_max p2 p3)))), some (.inl ((((p1 + (zm_max p2 p3)) % 32) * 62) + (zm_max 0 (p3 - (zm_max p2 p3)))))]) (zdk ttX8_turnInto 47 rfl rfl) (by decide) rfl ?_
          refine zj_iload (zdk ttX8_turnInto 48 rfl rfl) rfl ?_
          refine zj_bipush (zdk ttX8_turnInto 49 rfl rfl) (by decide) ?_
          refine zj_icmp_ge (t := 114) (zdk ttX8_turnInto 50 rfl rfl) (by decide) (by omega) (by decide) (fun c8 => ?_) (fun c8 => ?_)
          · exact absurd c8 (by omega)
          · refine zj_aload_n (zdk ttX8_turnInto 51 rfl rfl) rfl (by decide) ?_
            refine zj_getr (r := 113) (zdk ttX8_turnInto 52 rfl rfl) zf_RX8_24 rfl (k_L108 s0) (rf_L108_4 s0) ?_
            refine zj_iload (zdk ttX8_turnInto 53 rfl rfl) rfl ?_
            refine zj_aload_n (zdk ttX8_turnInto 54 rfl rfl) rfl (by decide) ?_
            refine zj_getr (r := 113) (zdk ttX8_turnInto 55 rfl rfl) zf_RX8_24 rfl (k_L108 s0) (rf_L108_4 s0) ?_
            refine zj_iload (zdk ttX8_turnInto 56 rfl rfl) rfl ?_
            have b9 : -2147483648 ≤ (h.2 113 ((((p1 + (zm_max p2 p3)) % 32) * 62) + (zm_max 0 (p3 - (zm_max p2 p3))))) ∧ (h.2 113 ((((p1 + (zm_max p2 p3)) % 32) * 62) + (zm_max 0 (p3 - (zm_max p2 p3))))) ≤ 2147483647 := ab_L108_4 s0 ((((p1 + (zm_max p2 p3)) % 32) * 62) + (zm_max 0 (p3 - (zm_max p2 p3))))
            refine zj_iald (v := (h.2 113 ((((p1 + (zm_max p2 p3)) % 32) * 62) + (zm_max 0 (p3 - (zm_max p2 p3)))))) (zdk ttX8_turnInto 57 rfl rfl) (ka_L108_4 s0) (by decide) (by omega) rfl ?_
            refine zj_iload (zdk ttX8_turnInto 58 rfl rfl) rfl ?_
            refine zj_min (zdk ttX8_turnInto 59 rfl rfl) mx_RX8_27 (by omega) (by omega) (Nat.le_of_ble_eq_true rfl) (rm_m (by decide)) ?_
            have b10 := zm_min_f (h.2 113 ((((p1 + (zm_max p2 p3)) % 32) * 62) + (zm_max 0 (p3 - (zm_max p2 p3))))) p4
            refine zj_iast (zdk ttX8_turnInto 60 rfl rfl) (ka_L108_4 s0) (by decide) (by omega) (fun h11 e12 => ?_)
            have s13 : okC h11 := aw_L108_4 s0 e12 (by omega)
            exact zj_vret rfl (zdk ttX8_turnInto 61 rfl rfl) (Nat.le_refl _) (Nat.le_refl _) ⟨rfl, s13, (hgV_w (R := (zm_max p2 p3)) (EV := (zm_max 0 (p3 - (zm_max p2 p3)))) (by have r9 := hgr_f p2 p3; omega) (by omega) (by have l1 := hgl_f p2 (zm_max p2 p3); have l2 := hgl_f p3 (zm_max p2 p3); have n9 := hgn_f (hgl p2 (zm_max p2 p3)) (hgl p3 (zm_max p2 p3)); omega) (by omega) e12 (by omega))⟩
      · exact absurd c4 (by omega)
  · refine zj_iload_n (zdk ttX8_turnInto 2 rfl rfl) rfl ?_
    refine zj_if_ne (t := 16) (zdk ttX8_turnInto 3 rfl rfl) (by decide) (by omega) (fun c14 => ?_) (fun c14 => ?_)
    · refine zj_iload_n (zdk ttX8_turnInto 8 rfl rfl) rfl ?_
      refine zj_iload_n (zdk ttX8_turnInto 9 rfl rfl) rfl ?_
      refine zj_min (zdk ttX8_turnInto 10 rfl rfl) mx_RX8_27 (by omega) (by omega) (Nat.le_of_ble_eq_true rfl) (rm_m (by decide)) ?_
      have b15 := zm_min_f p2 p3
      refine zj_istore (L' := [some (.inr 108), some (.inl p1), some (.inl p2), some (.inl p3), some (.inl p4), some (.inl (zm_min p2 p3)), none, none, none, none]) (zdk ttX8_turnInto 11 rfl rfl) (by decide) rfl ?_
      refine zj_iload (zdk ttX8_turnInto 12 rfl rfl) rfl ?_
      refine zj_if_le (t := 35) (zdk ttX8_turnInto 13 rfl rfl) (by decide) (by omega) (fun c16 => ?_) (fun c16 => ?_)
      · exact absurd c16 (by omega)
      · refine zj_iload (zdk ttX8_turnInto 14 rfl rfl) rfl ?_
        refine zj_bipush (zdk ttX8_turnInto 15 rfl rfl) (by decide) ?_
        refine zj_icmp_lt (t := 36) (zdk ttX8_turnInto 16 rfl rfl) (by decide) (by omega) (by decide) (fun c17 => ?_) (fun c17 => ?_)
        · refine zj_iconst (zdk ttX8_turnInto 18 rfl rfl) ?_
          refine zj_iload_n (zdk ttX8_turnInto 19 rfl rfl) rfl ?_
          refine zj_iload (zdk ttX8_turnInto 20 rfl rfl) rfl ?_
          refine zj_isub (zdk ttX8_turnInto 21 rfl rfl) ?_
          refine zj_max (zdk ttX8_turnInto 22 rfl rfl) mx_RX8_37 (by decide) (by omega) (Nat.le_of_ble_eq_true rfl) (rm_m (by decide)) ?_
          have b18 := zm_max_f 0 (p2 - (zm_min p2 p3))
          refine zj_istore (L' := [some (.inr 108), some (.inl p1), some (.inl p2), some (.inl p3), some (.inl p4), some (.inl (zm_min p2 p3)), some (.inl (zm_max 0 (p2 - (zm_min p2 p3)))), none, none, none]) (zdk ttX8_turnInto 23 rfl rfl) (by decide) rfl ?_
          refine zj_iconst (zdk ttX8_turnInto 24 rfl rfl) ?_
          refine zj_iload_n (zdk ttX8_turnInto 25 rfl rfl) rfl ?_
          refine zj_iload (zdk ttX8_turnInto 26 rfl rfl) rfl ?_
          refine zj_isub (zdk ttX8_turnInto 27 rfl rfl) ?_
          refine zj_max (zdk ttX8_turnInto 28 rfl rfl) mx_RX8_37 (by decide) (by omega) (Nat.le_of_ble_eq_true rfl) (rm_m (by decide)) ?_
          have b19 := zm_max_f 0 (p3 - (zm_min p2 p3))
          refine zj_istore (L' := [some (.inr 108), some (.inl p1), some (.inl p2), some (.inl p3), some (.inl p4), some (.inl (zm_min p2 p3)), some (.inl (zm_max 0 (p2 - (zm_min p2 p3)))), some (.inl (zm_max 0 (p3 - (zm_min p2 p3)))), none, none]) (zdk ttX8_turnInto 29 rfl rfl) (by decide) rfl ?_
          refine zj_iload (zdk ttX8_turnInto 30 rfl rfl) rfl ?_
          refine zj_if_ne (t := 66) (zdk ttX8_turnInto 31 rfl rfl) (by decide) (by omega) (fun c20 => ?_) (fun c20 => ?_)
          · refine zj_bipush (zdk ttX8_turnInto 34 rfl rfl) (by decide) ?_
            refine zj_iload (zdk ttX8_turnInto 35 rfl rfl) rfl ?_
            refine zj_iadd (zdk ttX8_turnInto 36 rfl rfl) ?_
            refine zj_istore (L' := [some (.inr 108), some (.inl p1), some (.inl p2), some (.inl p3), some (.inl p4), some (.inl (zm_min p2 p3)), some (.inl (zm_max 0 (p2 - (zm_min p2 p3)))), some (.inl (zm_max 0 (p3 - (zm_min p2 p3)))), some (.inl (31 + (zm_max 0 (p2 - (zm_min p2 p3))))), none]) (zdk ttX8_turnInto 37 rfl rfl) (by decide) rfl ?_
            refine zj_iload_n (zdk ttX8_turnInto 38 rfl rfl) rfl ?_
            refine zj_iload (zdk ttX8_turnInto 39 rfl rfl) rfl ?_
            refine zj_iadd (zdk ttX8_turnInto 40 rfl rfl) ?_
            refine zj_bipush (zdk ttX8_turnInto 41 rfl rfl) (by decide) ?_
            refine zj_iremP (zdk ttX8_turnInto 42 rfl rfl) (by omega) (by omega) ?_
            refine zj_bipush (zdk ttX8_turnInto 43 rfl rfl) (by decide) ?_
            refine zj_imul (zdk ttX8_turnInto 44 rfl rfl) ?_
            refine zj_iload (zdk ttX8_turnInto 45 rfl rfl) rfl ?_
            refine zj_iadd (zdk ttX8_turnInto 46 rfl rfl) ?_
            refine zj_istore (L' := [some (.inr 108), some (.inl p1), some (.inl p2), some (.inl p3), some (.inl p4), some (.inl (zm_min p2 p3)), some (.inl (zm_max 0 (p2 - (zm_min p2 p3)))), some (.inl (zm_max 0 (p3 - (zm_min p2 p3)))), some (.inl (31 + (zm_max 0 (p2 - (zm_min p2 p3))))), some (.inl ((((p1 + (zm_min p2 p3)) % 32) * 62) + (31 + (zm_max 0 (p2 - (zm_min p2 p3))))))]) (zdk ttX8_turnInto 47 rfl rfl) (by decide) rfl ?_
            refine zj_iload (zdk ttX8_turnInto 48 rfl rfl) rfl ?_
            refine zj_bipush (zdk ttX8_turnInto 49 rfl rfl) (by decide) ?_
            refine zj_icmp_ge (t := 114) (zdk ttX8_turnInto 50 rfl rfl) (by decide) (by omega) (by decide) (fun c21 => ?_) (fun c21 => ?_)
            · exact absurd c21 (by omega)
            · refine zj_aload_n (zdk ttX8_turnInto 51 rfl rfl) rfl (by decide) ?_
              refine zj_getr (r := 113) (zdk ttX8_turnInto 52 rfl rfl) zf_RX8_24 rfl (k_L108 s0) (rf_L108_4 s0) ?_
              refine zj_iload (zdk ttX8_turnInto 53 rfl rfl) rfl ?_
              refine zj_aload_n (zdk ttX8_turnInto 54 rfl rfl) rfl (by decide) ?_
              refine zj_getr (r := 113) (zdk ttX8_turnInto 55 rfl rfl) zf_RX8_24 rfl (k_L108 s0) (rf_L108_4 s0) ?_
              refine zj_iload (zdk ttX8_turnInto 56 rfl rfl) rfl ?_
              have b22 : -2147483648 ≤ (h.2 113 ((((p1 + (zm_min p2 p3)) % 32) * 62) + (31 + (zm_max 0 (p2 - (zm_min p2 p3)))))) ∧ (h.2 113 ((((p1 + (zm_min p2 p3)) % 32) * 62) + (31 + (zm_max 0 (p2 - (zm_min p2 p3)))))) ≤ 2147483647 := ab_L108_4 s0 ((((p1 + (zm_min p2 p3)) % 32) * 62) + (31 + (zm_max 0 (p2 - (zm_min p2 p3)))))
              refine zj_iald (v := (h.2 113 ((((p1 + (zm_min p2 p3)) % 32) * 62) + (31 + (zm_max 0 (p2 - (zm_min p2 p3))))))) (zdk ttX8_turnInto 57 rfl rfl) (ka_L108_4 s0) (by decide) (by omega) rfl ?_
              refine zj_iload (zdk ttX8_turnInto 58 rfl rfl) rfl ?_
              refine zj_min (zdk ttX8_turnInto 59 rfl rfl) mx_RX8_27 (by omega) (by omega) (Nat.le_of_ble_eq_true rfl) (rm_m (by decide)) ?_
              have b23 := zm_min_f (h.2 113 ((((p1 + (zm_min p2 p3)) % 32) * 62) + (31 + (zm_max 0 (p2 - (zm_min p2 p3)))))) p4
              refine zj_iast (zdk ttX8_turnInto 60 rfl rfl) (ka_L108_4 s0) (by decide) (by omega) (fun h24 e25 => ?_)
              have s26 : okC h24 := aw_L108_4 s0 e25 (by omega)
              exact zj_vret rfl (zdk ttX8_turnInto 61 rfl rfl) (Nat.le_refl _) (Nat.le_refl _) ⟨rfl, s26, (hgV_w (R := (zm_min p2 p3)) (EV := (31 + (zm_max 0 (p2 - (zm_min p2 p3))))) (by have r9 := hgr_f p2 p3; omega) (by omega) (by have l1 := hgl_f p2 (zm_min p2 p3); have l2 := hgl_f p3 (zm_min p2 p3); have n9 := hgn_f (hgl p2 (zm_min p2 p3)) (hgl p3 (zm_min p2 p3)); omega) (by omega) e25 (by omega))⟩
          · refine zj_iload (zdk ttX8_turnInto 32 rfl rfl) rfl ?_
            refine zj_goto (t := 71) (zdk ttX8_turnInto 33 rfl rfl) (by decide) ?_
            refine zj_istore (L' := [some (.inr 108), some (.inl p1), some (.inl p2), some (.inl p3), some (.inl p4), some (.inl (zm_min p2 p3)), some (.inl (zm_max 0 (p2 - (zm_min p2 p3)))), some (.inl (zm_max 0 (p3 - (zm_min p2 p3)))), some (.inl (zm_max 0 (p3 - (zm_min p2 p3)))), none]) (zdk ttX8_turnInto 37 rfl rfl) (by decide) rfl ?_
            refine zj_iload_n (zdk ttX8_turnInto 38 rfl rfl) rfl ?_
            refine zj_iload (zdk ttX8_turnInto 39 rfl rfl) rfl ?_
            refine zj_iadd (zdk ttX8_turnInto 40 rfl rfl) ?_
            refine zj_bipush (zdk ttX8_turnInto 41 rfl rfl) (by decide) ?_
            refine zj_iremP (zdk ttX8_turnInto 42 rfl rfl) (by omega) (by omega) ?_
            refine zj_bipush (zdk ttX8_turnInto 43 rfl rfl) (by decide) ?_
            refine zj_imul (zdk ttX8_turnInto 44 rfl rfl) ?_
            refine zj_iload (zdk ttX8_turnInto 45 rfl rfl) rfl ?_
            refine zj_iadd (zdk ttX8_turnInto 46 rfl rfl) ?_
            refine zj_istore (L' := [some (.inr 108), some (.inl p1), some (.inl p2), some (.inl p3), some (.inl p4), some (.inl (zm_min p2 p3)), some (.inl (zm_max 0 (p2 - (zm_min p2 p3)))), some (.inl (zm_max 0 (p3 - (zm_min p2 p3)))), some (.inl (zm_max 0 (p3 - (zm_min p2 p3)))), some (.inl ((((p1 + (zm_min p2 p3)) % 32) * 62) + (zm_max 0 (p3 - (zm_min p2 p3)))))]) (zdk ttX8_turnInto 47 rfl rfl) (by decide) rfl ?_
            refine zj_iload (zdk ttX8_turnInto 48 rfl rfl) rfl ?_
            refine zj_bipush (zdk ttX8_turnInto 49 rfl rfl) (by decide) ?_
            refine zj_icmp_ge (t := 114) (zdk ttX8_turnInto 50 rfl rfl) (by decide) (by omega) (by decide) (fun c27 => ?_) (fun c27 => ?_)
            · exact absurd c27 (by omega)
            · refine zj_aload_n (zdk ttX8_turnInto 51 rfl rfl) rfl (by decide) ?_
              refine zj_getr (r := 113) (zdk ttX8_turnInto 52 rfl rfl) zf_RX8_24 rfl (k_L108 s0) (rf_L108_4 s0) ?_
              refine zj_iload (zdk ttX8_turnInto 53 rfl rfl) rfl ?_
              refine zj_aload_n (zdk ttX8_turnInto 54 rfl rfl) rfl (by decide) ?_
              refine zj_getr (r := 113) (zdk ttX8_turnInto 55 rfl rfl) zf_RX8_24 rfl (k_L108 s0) (rf_L108_4 s0) ?_
              refine zj_iload (zdk ttX8_turnInto 56 rfl rfl) rfl ?_
              have b28 : -2147483648 ≤ (h.2 113 ((((p1 + (zm_min p2 p3)) % 32) * 62) + (zm_max 0 (p3 - (zm_min p2 p3))))) ∧ (h.2 113 ((((p1 + (zm_min p2 p3)) % 32) * 62) + (zm_max 0 (p3 - (zm_min p2 p3))))) ≤ 2147483647 := ab_L108_4 s0 ((((p1 + (zm_min p2 p3)) % 32) * 62) + (zm_max 0 (p3 - (zm_min p2 p3))))
              refine zj_iald (v := (h.2 113 ((((p1 + (zm_min p2 p3)) % 32) * 62) + (zm_max 0 (p3 - (zm_min p2 p3)))))) (zdk ttX8_turnInto 57 rfl rfl) (ka_L108_4 s0) (by decide) (by omega) rfl ?_
              refine zj_iload (zdk ttX8_turnInto 58 rfl rfl) rfl ?_
              refine zj_min (zdk ttX8_turnInto 59 rfl rfl) mx_RX8_27 (by omega) (by omega) (Nat.le_of_ble_eq_true rfl) (rm_m (by decide)) ?_
              have b29 := zm_min_f (h.2 113 ((((p1 + (zm_min p2 p3)) % 32) * 62) + (zm_max 0 (p3 - (zm_min p2 p3))))) p4
              refine zj_iast (zdk ttX8_turnInto 60 rfl rfl) (ka_L108_4 s0) (by decide) (by omega) (fun h30 e31 => ?_)
              have s32 : okC h30 := aw_L108_4 s0 e31 (by omega)
              exact zj_vret rfl (zdk ttX8_turnInto 61 rfl rfl) (Nat.le_refl _) (Nat.le_refl _) ⟨rfl, s32, (hgV_w (R := (zm_min p2 p3)) (EV := (zm_max 0 (p3 - (zm_min p2 p3)))) (by have r9 := hgr_f p2 p3; omega) (by omega) (by have l1 := hgl_f p2 (zm_min p2 p3); have l2 := hgl_f p3 (zm_min p2 p3); have n9 := hgn_f (hgl p2 (zm_min p2 p3)) (hgl p3 (zm_min p2 p3)); omega) (by omega) e31 (by omega))⟩
        · exact absurd c17 (by omega)
    · refine zj_iload_n (zdk ttX8_turnInto 4 rfl rfl) rfl ?_
      refine zj_iload_n (zdk ttX8_turnInto 5 rfl rfl) rfl ?_
      refine zj_max (zdk ttX8_turnInto 6 rfl rfl) mx_RX8_37 (by omega) (by omega) (Nat.le_of_ble_eq_true rfl) (rm_m (by decide)) ?_
      have b33 := zm_max_f p2 p3
      refine zj_goto (t := 21) (zdk ttX8_turnInto 7 rfl rfl) (by decide) ?_
      refine zj_istore (L' := [some (.inr 108), some (.inl p1), some (.inl p2), some (.inl p3), some (.inl p4), some (.inl (zm_max p2 p3)), none, none, none, none]) (zdk ttX8_turnInto 11 rfl rfl) (by decide) rfl ?_
      refine zj_iload (zdk ttX8_turnInto 12 rfl rfl) rfl ?_
      refine zj_if_le (t := 35) (zdk ttX8_turnInto 13 rfl rfl) (by decide) (by omega) (fun c34 => ?_) (fun c34 => ?_)
      · exact absurd c34 (by omega)
      · refine zj_iload (zdk ttX8_turnInto 14 rfl rfl) rfl ?_
        refine zj_bipush (zdk ttX8_turnInto 15 rfl rfl) (by decide) ?_
        refine zj_icmp_lt (t := 36) (zdk ttX8_turnInto 16 rfl rfl) (by decide) (by omega) (by decide) (fun c35 => ?_) (fun c35 => ?_)
        · refine zj_iconst (zdk ttX8_turnInto 18 rfl rfl) ?_
          refine zj_iload_n (zdk ttX8_turnInto 19 rfl rfl) rfl ?_
          refine zj_iload (zdk ttX8_turnInto 20 rfl rfl) rfl ?_
          refine zj_isub (zdk ttX8_turnInto 21 rfl rfl) ?_
          refine zj_max (zdk ttX8_turnInto 22 rfl rfl) mx_RX8_37 (by decide) (by omega) (Nat.le_of_ble_eq_true rfl) (rm_m (by decide)) ?_
          have b36 := zm_max_f 0 (p2 - (zm_max p2 p3))
          refine zj_istore (L' := [some (.inr 108), some (.inl p1), some (.inl p2), some (.inl p3), some (.inl p4), some (.inl (zm_max p2 p3)), some (.inl (zm_max 0 (p2 - (zm_max p2 p3)))), none, none, none]) (zdk ttX8_turnInto 23 rfl rfl) (by decide) rfl ?_
          refine zj_iconst (zdk ttX8_turnInto 24 rfl rfl) ?_
          refine zj_iload_n (zdk ttX8_turnInto 25 rfl rfl) rfl ?_
          refine zj_iload (zdk ttX8_turnInto 26 rfl rfl) rfl ?_
          refine zj_isub (zdk ttX8_turnInto 27 rfl rfl) ?_
          refine zj_max (zdk ttX8_turnInto 28 rfl rfl) mx_RX8_37 (by decide) (by omega) (Nat.le_of_ble_eq_true rfl) (rm_m (by decide)) ?_
          have b37 := zm_max_f 0 (p3 - (zm_max p2 p3))
          refine zj_istore (L' := [some (.inr 108), some (.inl p1), some (.inl p2), some (.inl p3), some (.inl p4), some (.inl (zm_max p2 p3)), some (.inl (zm_max 0 (p2 - (zm_max p2 p3)))), some (.inl (zm_max 0 (p3 - (zm_max p2 p3)))), none, none]) (zdk ttX8_turnInto 29 rfl rfl) (by decide) rfl ?_
          refine zj_iload (zdk ttX8_turnInto 30 rfl rfl) rfl ?_
          refine zj_if_ne (t := 66) (zdk ttX8_turnInto 31 rfl rfl) (by decide) (by omega) (fun c38 => ?_) (fun c38 => ?_)
          · refine zj_bipush (zdk ttX8_turnInto 34 rfl rfl) (by decide) ?_
            refine zj_iload (zdk ttX8_turnInto 35 rfl rfl) rfl ?_
            refine zj_iadd (zdk ttX8_turnInto 36 rfl rfl) ?_
            refine zj_istore (L' := [some (.inr 108), some (.inl p1), some (.inl p2), some (.inl p3), some (.inl p4), some (.inl (zm_max p2 p3)), some (.inl (zm_max 0 (p2 - (zm_max p2 p3)))), some (.inl (zm_max 0 (p3 - (zm_max p2 p3)))), some (.inl (31 + (zm_max 0 (p2 - (zm_max p2 p3))))), none]) (zdk ttX8_turnInto 37 rfl rfl) (by decide) rfl ?_
            refine zj_iload_n (zdk ttX8_turnInto 38 rfl rfl) rfl ?_
            refine zj_iload (zdk ttX8_turnInto 39 rfl rfl) rfl ?_
            refine zj_iadd (zdk ttX8_turnInto 40 rfl rfl) ?_
            refine zj_bipush (zdk ttX8_turnInto 41 rfl rfl) (by decide) ?_
            refine zj_iremP (zdk ttX8_turnInto 42 rfl rfl) (by omega) (by omega) ?_
            refine zj_bipush (zdk ttX8_turnInto 43 rfl rfl) (by decide) ?_
            refine zj_imul (zdk ttX8_turnInto 44 rfl rfl) ?_
            refine zj_iload (zdk ttX8_turnInto 45 rfl rfl) rfl ?_
            refine zj_iadd (zdk ttX8_turnInto 46 rfl rfl) ?_
            refine zj_istore (L' := [some (.inr 108), some (.inl p1), some (.inl p2), some (.inl p3), some (.inl p4), some (.inl (zm_max p2 p3)), some (.inl (zm_max 0 (p2 - (zm_max p2 p3)))), some (.inl (zm_max 0 (p3 - (zm_max p2 p3)))), some (.inl (31 + (zm_max 0 (p2 - (zm_max p2 p3))))), some (.inl ((((p1 + (zm_max p2 p3)) % 32) * 62) + (31 + (zm_max 0 (p2 - (zm_max p2 p3))))))]) (zdk ttX8_turnInto 47 rfl rfl) (by decide) rfl ?_
            refine zj_iload (zdk ttX8_turnInto 48 rfl rfl) rfl ?_
            refine zj_bipush (zdk ttX8_turnInto 49 rfl rfl) (by decide) ?_
            refine zj_icmp_ge (t := 114) (zdk ttX8_turnInto 50 rfl rfl) (by decide) (by omega) (by decide) (fun c39 => ?_) (fun c39 => ?_)
            · exact absurd c39 (by omega)
            · refine zj_aload_n (zdk ttX8_turnInto 51 rfl rfl) rfl (by decide) ?_
              refine zj_getr (r := 113) (zdk ttX8_turnInto 52 rfl rfl) zf_RX8_24 rfl (k_L108 s0) (rf_L108_4 s0) ?_
              refine zj_iload (zdk ttX8_turnInto 53 rfl rfl) rfl ?_
              refine zj_aload_n (zdk ttX8_turnInto 54 rfl rfl) rfl (by decide) ?_
              refine zj_getr (r := 113) (zdk ttX8_turnInto 55 rfl rfl) zf_RX8_24 rfl (k_L108 s0) (rf_L108_4 s0) ?_
              refine zj_iload (zdk ttX8_turnInto 56 rfl rfl) rfl ?_
              have b40 : -2147483648 ≤ (h.2 113 ((((p1 + (zm_max p2 p3)) % 32) * 62) + (31 + (zm_max 0 (p2 - (zm_max p2 p3)))))) ∧ (h.2 113 ((((p1 + (zm_max p2 p3)) % 32) * 62) + (31 + (zm_max 0 (p2 - (zm_max p2 p3)))))) ≤ 2147483647 := ab_L108_4 s0 ((((p1 + (zm_max p2 p3)) % 32) * 62) + (31 + (zm_max 0 (p2 - (zm_max p2 p3)))))
              refine zj_iald (v := (h.2 113 ((((p1 + (zm_max p2 p3)) % 32) * 62) + (31 + (zm_max 0 (p2 - (zm_max p2 p3))))))) (zdk ttX8_turnInto 57 rfl rfl) (ka_L108_4 s0) (by decide) (by omega) rfl ?_
              refine zj_iload (zdk ttX8_turnInto 58 rfl rfl) rfl ?_
              refine zj_min (zdk ttX8_turnInto 59 rfl rfl) mx_RX8_27 (by omega) (by omega) (Nat.le_of_ble_eq_true rfl) (rm_m (by decide)) ?_
              have b41 := zm_min_f (h.2 113 ((((p1 + (zm_max p2 p3)) % 32) * 62) + (31 + (zm_max 0 (p2 - (zm_max p2 p3)))))) p4
              refine zj_iast (zdk ttX8_turnInto 60 rfl rfl) (ka_L108_4 s0) (by decide) (by omega) (fun h42 e43 => ?_)
              have s44 : okC h42 := aw_L108_4 s0 e43 (by omega)
              exact zj_vret rfl (zdk ttX8_turnInto 61 rfl rfl) (Nat.le_refl _) (Nat.le_refl _) ⟨rfl, s44, (hgV_w (R := (zm_max p2 p3)) (EV := (31 + (zm_max 0 (p2 - (zm_max p2 p3))))) (by have r9 := hgr_f p2 p3; omega) (by omega) (by have l1 := hgl_f p2 (zm_max p2 p3); have l2 := hgl_f p3 (zm_max p2 p3); have n9 := hgn_f (hgl p2 (zm_max p2 p3)) (hgl p3 (zm_max p2 p3)); omega) (by omega) e43 (by omega))⟩
          · refine zj_iload (zdk ttX8_turnInto 32 rfl rfl) rfl ?_
            refine zj_goto (t := 71) (zdk ttX8_turnInto 33 rfl rfl) (by decide) ?_
            refine zj_istore (L' := [some (.inr 108), some (.inl p1), some (.inl p2), some (.inl p3), some (.inl p4), some (.inl (zm_max p2 p3)), some (.inl (zm_max 0 (p2 - (zm_max p2 p3)))), some (.inl (zm_max 0 (p3 - (zm_max p2 p3)))), some (.inl (zm_max 0 (p3 - (zm_max p2 p3)))), none]) (zdk ttX8_turnInto 37 rfl rfl) (by decide) rfl ?_
            refine zj_iload_n (zdk ttX8_turnInto 38 rfl rfl) rfl ?_
            refine zj_iload (zdk ttX8_turnInto 39 rfl rfl) rfl ?_
            refine zj_iadd (zdk ttX8_turnInto 40 rfl rfl) ?_
            refine zj_bipush (zdk ttX8_turnInto 41 rfl rfl) (by decide) ?_
            refine zj_iremP (zdk ttX8_turnInto 42 rfl rfl) (by omega) (by omega) ?_
            refine zj_bipush (zdk ttX8_turnInto 43 rfl rfl) (by decide) ?_
            refine zj_imul (zdk ttX8_turnInto 44 rfl rfl) ?_
            refine zj_iload (zdk ttX8_turnInto 45 rfl rfl) rfl ?_
            refine zj_iadd (zdk ttX8_turnInto 46 rfl rfl) ?_
            refine zj_istore (L' := [some (.inr 108), some (.inl p1), some (.inl p2), some (.inl p3), some (.inl p4), some (.inl (zm_max p2 p3)), some (.inl (zm_max 0 (p2 - (zm_max p2 p3)))), some (.inl (zm_max 0 (p3 - (zm_max p2 p3)))), some (.inl (zm_max 0 (p3 - (zm_max p2 p3)))), some (.inl ((((p1 + (zm_max p2 p3)) % 32) * 62) + (zm_max 0 (p3 - (zm_max p2 p3)))))]) (zdk ttX8_turnInto 47 rfl rfl) (by decide) rfl ?_
            refine zj_iload (zdk ttX8_turnInto 48 rfl rfl) rfl ?_
            refine zj_bipush (zdk ttX8_turnInto 49 rfl rfl) (by decide) ?_
            refine zj_icmp_ge (t := 114) (zdk ttX8_turnInto 50 rfl rfl) (by decide) (by omega) (by decide) (fun c45 => ?_) (fun c45 => ?_)
            · exact absurd c45 (by omega)
            · refine zj_aload_n (zdk ttX8_turnInto 51 rfl rfl) rfl (by decide) ?_
              refine zj_getr (r := 113) (zdk ttX8_turnInto 52 rfl rfl) zf_RX8_24 rfl (k_L108 s0) (rf_L108_4 s0) ?_
              refine zj_iload (zdk ttX8_turnInto 53 rfl rfl) rfl ?_
              refine zj_aload_n (zdk ttX8_turnInto 54 rfl rfl) rfl (by decide) ?_
              refine zj_getr (r := 113) (zdk ttX8_turnInto 55 rfl rfl) zf_RX8_24 rfl (k_L108 s0) (rf_L108_4 s0) ?_
              refine zj_iload (zdk ttX8_turnInto 56 rfl rfl) rfl ?_
              have b46 : -2147483648 ≤ (h.2 113 ((((p1 + (zm_max p2 p3)) % 32) * 62) + (zm_max 0 (p3 - (zm_max p2 p3))))) ∧ (h.2 113 ((((p1 + (zm_max p2 p3)) % 32) * 62) + (zm_max 0 (p3 - (zm_max p2 p3))))) ≤ 2147483647 := ab_L108_4 s0 ((((p1 + (zm_max p2 p3)) % 32) * 62) + (zm_max 0 (p3 - (zm_max p2 p3))))
              refine zj_iald (v := (h.2 113 ((((p1 + (zm_max p2 p3)) % 32) * 62) + (zm_max 0 (p3 - (zm_max p2 p3)))))) (zdk ttX8_turnInto 57 rfl rfl) (ka_L108_4 s0) (by decide) (by omega) rfl ?_
              refine zj_iload (zdk ttX8_turnInto 58 rfl rfl) rfl ?_
              refine zj_min (zdk ttX8_turnInto 59 rfl rfl) mx_RX8_27 (by omega) (by omega) (Nat.le_of_ble_eq_true rfl) (rm_m (by decide)) ?_
              have b47 := zm_min_f (h.2 113 ((((p1 + (zm_max p2 p3)) % 32) * 62) + (zm_max 0 (p3 - (zm_max p2 p3))))) p4
              refine zj_iast (zdk ttX8_turnInto 60 rfl rfl) (ka_L108_4 s0) (by decide) (by omega) (fun h48 e49 => ?_)
              have s50 : okC h48 := aw_L108_4 s0 e49 (by omega)
              exact zj_vret rfl (zdk ttX8_turnInto 61 rfl rfl) (Nat.le_refl _) (Nat.le_refl _) ⟨rfl, s50, (hgV_w (R := (zm_max p2 p3)) (EV := (zm_max 0 (p3 - (zm_max p2 p3)))) (by have r9 := hgr_f p2 p3; omega) (by omega) (by have l1 := hgl_f p2 (zm_max p2 p3); have l2 := hgl_f p3 (zm_max p2 p3); have n9 := hgn_f (hgl p2 (zm_max p2 p3)) (hgl p3 (zm_max p2 p3)); omega) (by omega) e49 (by omega))⟩
        · exact absurd c35 (by omega)

abbrev q2_X8_fewestTurnings (h : zM) (p1 : Int) (p2 : Int) (p3 : Int) : Option zV → zM → Prop := zqi fun v h' => ((-2147483648) ≤ v ∧ v ≤ 2147483647) ∧ okC h' ∧ (hgA p1 p2 p3 v)
set_option maxRecDepth 100000 in
set_option maxHeartbeats 4000000 in
theorem s2_X8_fewestTurnings (l : Launch) (h : zM) (p1 : Int) (p2 : Int) (p3 : Int) (s0 : okC h) (b_p1 : 1 ≤ p1 ∧ p1 ≤ 30) (b_p2 : 1 ≤ p2 ∧ p2 ≤ 30) (b_p3 : 1 ≤ p3 ∧ p3 ≤ 120) : zT shC l yX8_fewestTurnings cX8_fewestTurnings 11 (some .int) (rmL 3) 0 0 [.inr 108, .inl p1, .inl p2, .inl p3] h (q2_X8_fewestTurnings h p1 p2 p3) := by
  refine zT_of (by decide +kernel) (L0 := [some (.inr 108), some (.inl p1), some (.inl p2), some (.inl p3), none, none, none, none, none, none, none]) rfl (Nat.le_of_ble_eq_true rfl) ?_
  refine zj_aload_n (zdk ttX8_fewestTurnings 0 rfl rfl) rfl (by decide) ?_
  refine zj_getr (r := 113) (zdk ttX8_fewestTurnings 1 rfl rfl) zf_RX8_24 rfl (k_L108 s0) (rf_L108_4 s0) ?_
  refine zj_ldc (z := 2147483647) (zdk ttX8_fewestTurnings 2 rfl rfl) wc_RX8_57 ?_
  refine zj_callS (av := [.inr 113, .inl 2147483647]) (st := []) (zdk ttX8_fewestTurnings 3 rfl rfl) mb_J7_fill_53178 ms_RX8_40 rfl rfl (Nat.le_of_ble_eq_true rfl) (s_J7_fill_53178 shC l h 113 2147483647 (ka_L108_4 s0) (by decide)) (rm_ok (by decide) (by decide)) (zq_v fun h1 e2 => ?_)
  refine zj_aload_n (zdk ttX8_fewestTurnings 4 rfl rfl) rfl (by decide) ?_
  refine zj_iconst (zdk ttX8_fewestTurnings 5 rfl rfl) ?_
  refine zj_iload_n (zdk ttX8_fewestTurnings 6 rfl rfl) rfl ?_
  refine zj_iload_n (zdk ttX8_fewestTurnings 7 rfl rfl) rfl ?_
  refine zj_iconst (zdk ttX8_fewestTurnings 8 rfl rfl) ?_
  have s3 : okC h1 := okC_fill s0 e2 (fun j => pa_L108_4 (v := 2147483647) (by omega) j) (na_L108_4).1 (na_L108_4).2
  refine zj_callV (av := [.inl 0, .inl p1, .inl p2, .inl 0]) (st := []) (zdk ttX8_fewestTurnings 9 rfl rfl) mb_X8_turnInto mv_RX8_58 (ci := 8) rfl rfl (k_L108 s3) rfl rfl (Nat.le_of_ble_eq_true rfl) (s2_X8_turnInto l h1 0 p1 p2 0 s3 (by omega) (by omega) (by omega) (by omega)) (rm_ok (by decide) (by decide)) (zq_v fun h6 q4 => ?_)
  obtain ⟨s8, u9⟩ := q4
  refine zj_ldc (z := 2147483647) (zdk ttX8_fewestTurnings 10 rfl rfl) wc_RX8_57 ?_
  refine zj_istore (L' := [some (.inr 108), some (.inl p1), some (.inl p2), some (.inl p3), some (.inl 2147483647), none, none, none, none, none, none]) (zdk ttX8_fewestTurnings 11 rfl rfl) (by decide) rfl ?_
  refine zj_iconst (zdk ttX8_fewestTurnings 12 rfl rfl) ?_
  refine zj_istore (L' := [some (.inr 108), some (.inl p1), some (.inl p2), some (.inl p3), some (.inl 2147483647), some (.inl 1), none, none, none, none, none]) (zdk ttX8_fewestTurnings 13 rfl rfl) (by decide) rfl ?_
  have lp145 : ∀ (n : Nat) (x10 x11 : Int) (h12 : zM), (-2147483648 ≤ x10 ∧ x10 ≤ 2147483647) → (1 ≤ x11 ∧ x11 ≤ 121) → okC h12 → (x11 ≤ p3 → hgC p1 p2 p3 (h12.2 113) x10 x11 0) → (p3 < x11 → hgC p1 p2 p3 (h12.2 113) x10 p3 62) → (x11 ≤ p3 + 1) → (122 - x11).toNat < n → zJ shC l yX8_fewestTurnings cX8_fewestTurnings 11 (some .int) (rmL 3) 0 0 (q2_X8_fewestTurnings h p1 p2 p3) 0 0 24 [some (.inr 108), some (.inl p1), some (.inl p2), some (.inl p3), some (.inl x10), some (.inl x11), none, none, none, none, none] [] h12 := by
    intro n
    induction n with
    | zero => intro x10 x11 h12 b146 b147 s13 u148 u149 u150 m151; exact absurd m151 (Nat.not_lt_zero _)
    | succ n ih152 =>
      intro x10 x11 h12 b146 b147 s13 u148 u149 u150 m151
      refine zj_iload (zdk ttX8_fewestTurnings 14 rfl rfl) rfl ?_
      refine zj_iload_n (zdk ttX8_fewestTurnings 15 rfl rfl) rfl ?_
      refine zj_icmp_gt (t := 209) (zdk ttX8_fewestTurnings 16 rfl rfl) (by decide) (by omega) (by omega) (fun c153 => ?_) (fun c153 => ?_)
      · refine zj_iload (zdk ttX8_fewestTurnings 112 rfl rfl) rfl ?_
        refine zj_ldc (z := 2147483647) (zdk ttX8_fewestTurnings 113 rfl rfl) wc_RX8_57 ?_
        refine zj_icmp_ne (t := 220) (zdk ttX8_fewestTurnings 114 rfl rfl) (by decide) (by omega) (by decide) (fun c154 => ?_) (fun c154 => ?_)
        · refine zj_iload (zdk ttX8_fewestTurnings 117 rfl rfl) rfl ?_
          exact zj_iret rfl (zdk ttX8_fewestTurnings 118 rfl rfl) (Nat.le_refl _) (Nat.le_refl _) ⟨x10, rfl, by omega, s13, (hgC_e (show (1 ≤ p1 ∧ p1 ≤ 30) ∧ (1 ≤ p2 ∧ p2 ≤ 30) by omega) (u149 (by omega)) (by omega) (by omega))⟩
        · refine zj_iconst (zdk ttX8_fewestTurnings 115 rfl rfl) ?_
          refine zj_goto (t := 222) (zdk ttX8_fewestTurnings 116 rfl rfl) (by decide) ?_
          exact zj_iret rfl (zdk ttX8_fewestTurnings 118 rfl rfl) (Nat.le_refl _) (Nat.le_refl _) ⟨(-1), rfl, by omega, s13, (hgC_e (show (1 ≤ p1 ∧ p1 ≤ 30) ∧ (1 ≤ p2 ∧ p2 ≤ 30) by omega) (u149 (by omega)) (by omega) (by omega))⟩
      · refine zj_iload (zdk ttX8_fewestTurnings 17 rfl rfl) rfl ?_
        refine zj_bipush (zdk ttX8_fewestTurnings 18 rfl rfl) (by decide) ?_
        refine zj_iremP (zdk ttX8_fewestTurnings 19 rfl rfl) (by omega) (by omega) ?_
        refine zj_bipush (zdk ttX8_fewestTurnings 20 rfl rfl) (by decide) ?_
        refine zj_imul (zdk ttX8_fewestTurnings 21 rfl rfl) ?_
        refine zj_istore (L' := [some (.inr 108), some (.inl p1), some (.inl p2), some (.inl p3), some (.inl x10), some (.inl x11), some (.inl ((x11 % 32) * 62)), none, none, none, none]) (zdk ttX8_fewestTurnings 22 rfl rfl) (by decide) rfl ?_
        refine zj_iconst (zdk ttX8_fewestTurnings 23 rfl rfl) ?_
        refine zj_istore (L' := [some (.inr 108), some (.inl p1), some (.inl p2), some (.inl p3), some (.inl x10), some (.inl x11), some (.inl ((x11 % 32) * 62)), some (.inl 0), none, none, none]) (zdk ttX8_fewestTurnings 24 rfl rfl) (by decide) rfl ?_
        have lp219 : ∀ (n : Nat) (x155 x156 : Int) (h157 : zM), (-2147483648 ≤ x155 ∧ x155 ≤ 2147483647) → (0 ≤ x156 ∧ x156 ≤ 62) → okC h157 → (hgC p1 p2 p3 (h157.2 113) x155 x11 x156) → (63 - x156).toNat < n → zJ shC l yX8_fewestTurnings cX8_fewestTurnings 11 (some .int) (rmL 3) 0 0 (q2_X8_fewestTurnings h p1 p2 p3) 0 0 43 [some (.inr 108), some (.inl p1), some (.inl p2), some (.inl p3), some (.inl x155), some (.inl x11), some (.inl ((x11 % 32) * 62)), some (.inl x156), none, none, none] [] h157 := by
          intro n
          induction n with
          | zero => intro x155 x156 h157 b220 b221 s158 u222 m223; exact absurd m223 (Nat.not_lt_zero _)
          | succ n ih224 =>
            intro x155 x156 h157 b220 b221 s158 u222 m223
            refine zj_iload (zdk ttX8_fewestTurnings 25 rfl rfl) rfl ?_
            refine zj_bipush (zdk ttX8_fewestTurnings 26 rfl rfl) (by decide) ?_
            refine zj_icmp_ge (t := 203) (zdk ttX8_fewestTurnings 27 rfl rfl) (by decide) (by omega) (by decide) (fun c225 => ?_) (fun c225 => ?_)
            · refine zj_iinc (L' := [some (.inr 108), some (.inl p1), some (.inl p2), some (.inl p3), some (.inl x155), some (.inl (x11 + 1)), some (.inl ((x11 % 32) * 62)), some (.inl x156), none, none, none]) (zdk ttX8_fewestTurnings 110 rfl rfl) rfl (by decide) rfl ?_
              refine zj_goto (t := 24) (zdk ttX8_fewestTurnings 111 rfl rfl) (by decide) ?_
              refine zj_kill (k := 6) (L' := [some (.inr 108), some (.inl p1), some (.inl p2), some (.inl p3), some (.inl x155), some (.inl (x11 + 1)), none, some (.inl x156), none, none, none]) rfl ?_
              refine zj_kill (k := 7) (L' := [some (.inr 108), some (.inl p1), some (.inl p2), some (.inl p3), some (.inl x155), some (.inl (x11 + 1)), none, none, none, none, none]) rfl ?_
              exact ih152  x155 (x11 + 1) h157 (by omega) (by omega) s158 (fun z => by have e9 : x156 = 62 := (by omega); have c9 := u222; rw [e9] at c9; exact hgC_n (show (1 ≤ p1 ∧ p1 ≤ 30) ∧ (1 ≤ p2 ∧ p2 ≤ 30) by omega) c9 (by omega)) (fun z => by have e9 : x156 = 62 := (by omega); have d9 : x11 = p3 := (by omega); have c9 := u222; rw [e9, d9] at c9; exact c9) (by omega) (by omega)
            · refine zj_aload_n (zdk ttX8_fewestTurnings 28 rfl rfl) rfl (by decide) ?_
              refine zj_getr (r := 113) (zdk ttX8_fewestTurnings 29 rfl rfl) zf_RX8_24 rfl (k_L108 s158) (rf_L108_4 s158) ?_
              refine zj_iload (zdk ttX8_fewestTurnings 30 rfl rfl) rfl ?_
              refine zj_iload (zdk ttX8_fewestTurnings 31 rfl rfl) rfl ?_
              refine zj_iadd (zdk ttX8_fewestTurnings 32 rfl rfl) ?_
              have b226 : -2147483648 ≤ (h157.2 113 (((x11 % 32) * 62) + x156)) ∧ (h157.2 113 (((x11 % 32) * 62) + x156)) ≤ 2147483647 := ab_L108_4 s158 (((x11 % 32) * 62) + x156)
              refine zj_iald (v := (h157.2 113 (((x11 % 32) * 62) + x156))) (zdk ttX8_fewestTurnings 33 rfl rfl) (ka_L108_4 s158) (by decide) (by omega) rfl ?_
              refine zj_istore (L' := [some (.inr 108), some (.inl p1), some (.inl p2), some (.inl p3), some (.inl x155), some (.inl x11), some (.inl ((x11 % 32) * 62)), some (.inl x156), some (.inl (h157.2 113 (((x11 % 32) * 62) + x156))), none, none]) (zdk ttX8_fewestTurnings 34 rfl rfl) (by decide) rfl ?_
              refine zj_iload (zdk ttX8_fewestTurnings 35 rfl rfl) rfl ?_
              refine zj_ldc (z := 2147483647) (zdk ttX8_fewestTurnings 36 rfl rfl) wc_RX8_57 ?_
              refine zj_icmp_ne (t := 72) (zdk ttX8_fewestTurnings 37 rfl rfl) (by decide) (by omega) (by decide) (fun c227 => ?_) (fun c227 => ?_)
              · refine zj_aload_n (zdk ttX8_fewestTurnings 39 rfl rfl) rfl (by decide) ?_
                refine zj_getr (r := 113) (zdk ttX8_fewestTurnings 40 rfl rfl) zf_RX8_24 rfl (k_L108 s158) (rf_L108_4 s158) ?_
                refine zj_iload (zdk ttX8_fewestTurnings 41 rfl rfl) rfl ?_
                refine zj_iload (zdk ttX8_fewestTurnings 42 rfl rfl) rfl ?_
                refine zj_iadd (zdk ttX8_fewestTurnings 43 rfl rfl) ?_
                refine zj_ldc (z := 2147483647) (zdk ttX8_fewestTurnings 44 rfl rfl) wc_RX8_57 ?_
                refine zj_iast (zdk ttX8_fewestTurnings 45 rfl rfl) (ka_L108_4 s158) (by decide) (by omega) (fun h228 e229 => ?_)
                refine zj_iload (zdk ttX8_fewestTurnings 46 rfl rfl) rfl ?_
                refine zj_iload_n (zdk ttX8_fewestTurnings 47 rfl rfl) rfl ?_
                refine zj_icmp_ne (t := 102) (zdk ttX8_fewestTurnings 48 rfl rfl) (by decide) (by omega) (by omega) (fun c230 => ?_) (fun c230 => ?_)
                · refine zj_iload (zdk ttX8_fewestTurnings 54 rfl rfl) rfl ?_
                  refine zj_bipush (zdk ttX8_fewestTurnings 55 rfl rfl) (by decide) ?_
                  refine zj_icmp_ge (t := 113) (zdk ttX8_fewestTurnings 56 rfl rfl) (by decide) (by omega) (by decide) (fun c231 => ?_) (fun c231 => ?_)
                  · refine zj_iload (zdk ttX8_fewestTurnings 59 rfl rfl) rfl ?_
                    refine zj_bipush (zdk ttX8_fewestTurnings 60 rfl rfl) (by decide) ?_
                    refine zj_isub (zdk ttX8_fewestTurnings 61 rfl rfl) ?_
                    refine zj_istore (L' := [some (.inr 108), some (.inl p1), some (.inl p2), some (.inl p3), some (.inl x155), some (.inl x11), some (.inl ((x11 % 32) * 62)), some (.inl x156), some (.inl (h157.2 113 (((x11 % 32) * 62) + x156))), some (.inl (x156 - 31)), none]) (zdk ttX8_fewestTurnings 62 rfl rfl) (by decide) rfl ?_
                    refine zj_iload (zdk ttX8_fewestTurnings 63 rfl rfl) rfl ?_
                    refine zj_bipush (zdk ttX8_fewestTurnings 64 rfl rfl) (by decide) ?_
                    refine zj_icmp_ge (t := 132) (zdk ttX8_fewestTurnings 65 rfl rfl) (by decide) (by omega) (by decide) (fun c232 => ?_) (fun c232 => ?_)
                    · refine zj_iconst (zdk ttX8_fewestTurnings 68 rfl rfl) ?_
                      refine zj_istore (L' := [some (.inr 108), some (.inl p1), some (.inl p2), some (.inl p3), some (.inl x155), some (.inl x11), some (.inl ((x11 % 32) * 62)), some (.inl x156), some (.inl (h157.2 113 (((x11 % 32) * 62) + x156))), some (.inl (x156 - 31)), some (.inl 0)]) (zdk ttX8_fewestTurnings 69 rfl rfl) (by decide) rfl ?_
                      have b233 := hgE_b (by omega) (by omega) (u222.1 x11 x156 (by omega) (by omega) (by omega) (by omega) (by omega) (show ¬ (h157.2 113 (((x11 % 32) * 62) + x156)) = 2147483647 by omega))
                      have b233x := hgx_f x156
                      have b233c : 0 ≤ (h157.2 113 (((x11 % 32) * 62) + x156)) ∧ (h157.2 113 (((x11 % 32) * 62) + x156)) ≤ 240 := by have z9 := b233.2.2.2; exact ⟨z9.1, by have z8 := z9.2.1; have z7 : (h157.2 113 (((x11 % 32) * 62) + x156)) ≤ 2 * x11 := z8; omega⟩
                      refine zj_aload_n (zdk ttX8_fewestTurnings 70 rfl rfl) rfl (by decide) ?_
                      refine zj_iload (zdk ttX8_fewestTurnings 71 rfl rfl) rfl ?_
                      refine zj_iload (zdk ttX8_fewestTurnings 72 rfl rfl) rfl ?_
                      refine zj_iload (zdk ttX8_fewestTurnings 73 rfl rfl) rfl ?_
                      refine zj_iload (zdk ttX8_fewestTurnings 74 rfl rfl) rfl ?_
                      have s234 : okC h228 := aw_L108_4 s158 e229 (by omega)
                      refine zj_callV (av := [.inl x11, .inl (x156 - 31), .inl 0, .inl (h157.2 113 (((x11 % 32) * 62) + x156))]) (st := []) (zdk ttX8_fewestTurnings 75 rfl rfl) mb_X8_turnInto mv_RX8_58 (ci := 8) rfl rfl (k_L108 s234) rfl rfl (Nat.le_of_ble_eq_true rfl) (s2_X8_turnInto l h228 x11 (x156 - 31) 0 (h157.2 113 (((x11 % 32) * 62) + x156)) s234 (by omega) (by omega) (by omega) (by omega)) (rm_ok (by decide) (by decide)) (zq_v fun h237 q235 => ?_)
                      obtain ⟨s239, u240⟩ := q235
                      refine zj_aload_n (zdk ttX8_fewestTurnings 76 rfl rfl) rfl (by decide) ?_
                      refine zj_iload (zdk ttX8_fewestTurnings 77 rfl rfl) rfl ?_
                      refine zj_iload_n (zdk ttX8_fewestTurnings 78 rfl rfl) rfl ?_
                      refine zj_iload (zdk ttX8_fewestTurnings 79 rfl rfl) rfl ?_
                      refine zj_isub (zdk ttX8_fewestTurnings 80 rfl rfl) ?_
                      refine zj_iload (zdk ttX8_fewestTurnings 81 rfl rfl) rfl ?_
                      refine zj_iload (zdk ttX8_fewestTurnings 82 rfl rfl) rfl ?_
                      refine zj_iconst (zdk ttX8_fewestTurnings 83 rfl rfl) ?_
                      refine zj_iadd (zdk ttX8_fewestTurnings 84 rfl rfl) ?_
                      refine zj_callV (av := [.inl x11, .inl (p1 - (x156 - 31)), .inl 0, .inl ((h157.2 113 (((x11 % 32) * 62) + x156)) + 1)]) (st := []) (zdk ttX8_fewestTurnings 85 rfl rfl) mb_X8_turnInto mv_RX8_58 (ci := 8) rfl rfl (k_L108 s239) rfl rfl (Nat.le_of_ble_eq_true rfl) (s2_X8_turnInto l h237 x11 (p1 - (x156 - 31)) 0 ((h157.2 113 (((x11 % 32) * 62) + x156)) + 1) s239 (by omega) (by omega) (by omega) (by omega)) (rm_ok (by decide) (by decide)) (zq_v fun h243 q241 => ?_)
                      obtain ⟨s245, u246⟩ := q241
                      refine zj_aload_n (zdk ttX8_fewestTurnings 86 rfl rfl) rfl (by decide) ?_
                      refine zj_iload (zdk ttX8_fewestTurnings 87 rfl rfl) rfl ?_
                      refine zj_iload (zdk ttX8_fewestTurnings 88 rfl rfl) rfl ?_
                      refine zj_iload_n (zdk ttX8_fewestTurnings 89 rfl rfl) rfl ?_
                      refine zj_iload (zdk ttX8_fewestTurnings 90 rfl rfl) rfl ?_
                      refine zj_isub (zdk ttX8_fewestTurnings 91 rfl rfl) ?_
                      refine zj_iload (zdk ttX8_fewestTurnings 92 rfl rfl) rfl ?_
                      refine zj_iconst (zdk ttX8_fewestTurnings 93 rfl rfl) ?_
                      refine zj_iadd (zdk ttX8_fewestTurnings 94 rfl rfl) ?_
                      refine zj_callV (av := [.inl x11, .inl (x156 - 31), .inl (p2 - 0), .inl ((h157.2 113 (((x11 % 32) * 62) + x156)) + 1)]) (st := []) (zdk ttX8_fewestTurnings 95 rfl rfl) mb_X8_turnInto mv_RX8_58 (ci := 8) rfl rfl (k_L108 s245) rfl rfl (Nat.le_of_ble_eq_true rfl) (s2_X8_turnInto l h243 x11 (x156 - 31) (p2 - 0) ((h157.2 113 (((x11 % 32) * 62) + x156)) + 1) s245 (by omega) (by omega) (by omega) (by omega)) (rm_ok (by decide) (by decide)) (zq_v fun h249 q247 => ?_)
                      obtain ⟨s251, u252⟩ := q247
                      refine zj_aload_n (zdk ttX8_fewestTurnings 96 rfl rfl) rfl (by decide) ?_
                      refine zj_iload (zdk ttX8_fewestTurnings 97 rfl rfl) rfl ?_
                      refine zj_iload_n (zdk ttX8_fewestTurnings 98 rfl rfl) rfl ?_
                      refine zj_iload (zdk ttX8_fewestTurnings 99 rfl rfl) rfl ?_
                      refine zj_isub (zdk ttX8_fewestTurnings 100 rfl rfl) ?_
                      refine zj_iload_n (zdk ttX8_fewestTurnings 101 rfl rfl) rfl ?_
                      refine zj_iload (zdk ttX8_fewestTurnings 102 rfl rfl) rfl ?_
                      refine zj_isub (zdk ttX8_fewestTurnings 103 rfl rfl) ?_
                      refine zj_iload (zdk ttX8_fewestTurnings 104 rfl rfl) rfl ?_
                      refine zj_iconst (zdk ttX8_fewestTurnings 105 rfl rfl) ?_
                      refine zj_iadd (zdk ttX8_fewestTurnings 106 rfl rfl) ?_
                      refine zj_callV (av := [.inl x11, .inl (p1 - (x156 - 31)), .inl (p2 - 0), .inl ((h157.2 113 (((x11 % 32) * 62) + x156)) + 2)]) (st := []) (zdk ttX8_fewestTurnings 107 rfl rfl) mb_X8_turnInto mv_RX8_58 (ci := 8) rfl rfl (k_L108 s251) rfl rfl (Nat.le_of_ble_eq_true rfl) (s2_X8_turnInto l h249 x11 (p1 - (x156 - 31)) (p2 - 0) ((h157.2 113 (((x11 % 32) * 62) + x156)) + 2) s251 (by omega) (by omega) (by omega) (by omega)) (rm_ok (by decide) (by decide)) (zq_v fun h255 q253 => ?_)
                      obtain ⟨s257, u258⟩ := q253
                      refine zj_iinc (L' := [some (.inr 108), some (.inl p1), some (.inl p2), some (.inl p3), some (.inl x155), some (.inl x11), some (.inl ((x11 % 32) * 62)), some (.inl (x156 + 1)), some (.inl (h157.2 113 (((x11 % 32) * 62) + x156))), some (.inl (x156 - 31)), some (.inl 0)]) (zdk ttX8_fewestTurnings 108 rfl rfl) rfl (by decide) rfl ?_
                      refine zj_goto (t := 43) (zdk ttX8_fewestTurnings 109 rfl rfl) (by decide) ?_
                      refine zj_kill (k := 8) (L' := [some (.inr 108), some (.inl p1), some (.inl p2), some (.inl p3), some (.inl x155), some (.inl x11), some (.inl ((x11 % 32) * 62)), some (.inl (x156 + 1)), none, some (.inl (x156 - 31)), some (.inl 0)]) rfl ?_
                      refine zj_kill (k := 9) (L' := [some (.inr 108), some (.inl p1), some (.inl p2), some (.inl p3), some (.inl x155), some (.inl x11), some (.inl ((x11 % 32) * 62)), some (.inl (x156 + 1)), none, none, some (.inl 0)]) rfl ?_
                      refine zj_kill (k := 10) (L' := [some (.inr 108), some (.inl p1), some (.inl p2), some (.inl p3), some (.inl x155), some (.inl x11), some (.inl ((x11 % 32) * 62)), some (.inl (x156 + 1)), none, none, none]) rfl ?_
                      exact ih224  x155 (x156 + 1) h255 (by omega) (by omega) s257 (hgC_u (show (1 ≤ p1 ∧ p1 ≤ 30) ∧ (1 ≤ p2 ∧ p2 ≤ 30) by omega) u222 (by omega) (by omega) (c := (h157.2 113 (((x11 % 32) * 62) + x156))) (x := (x156 - 31)) (y := 0) rfl (show ¬ (h157.2 113 (((x11 % 32) * 62) + x156)) = 2147483647 by omega) (by have x9 := hgx_f x156; omega) (by have x9 := hgx_f x156; omega) (zwr_v e229) (fun i q => zwr_r e229 (fun z => q z.2)) u240 u246 u252 u258) (by omega)
                    · exact absurd c232 (by omega)
                  · refine zj_iconst (zdk ttX8_fewestTurnings 57 rfl rfl) ?_
                    refine zj_goto (t := 118) (zdk ttX8_fewestTurnings 58 rfl rfl) (by decide) ?_
                    refine zj_istore (L' := [some (.inr 108), some (.inl p1), some (.inl p2), some (.inl p3), some (.inl x155), some (.inl x11), some (.inl ((x11 % 32) * 62)), some (.inl x156), some (.inl (h157.2 113 (((x11 % 32) * 62) + x156))), some (.inl 0), none]) (zdk ttX8_fewestTurnings 62 rfl rfl) (by decide) rfl ?_
                    refine zj_iload (zdk ttX8_fewestTurnings 63 rfl rfl) rfl ?_
                    refine zj_bipush (zdk ttX8_fewestTurnings 64 rfl rfl) (by decide) ?_
                    refine zj_icmp_ge (t := 132) (zdk ttX8_fewestTurnings 65 rfl rfl) (by decide) (by omega) (by decide) (fun c259 => ?_) (fun c259 => ?_)
                    · exact absurd c259 (by omega)
                    · refine zj_iload (zdk ttX8_fewestTurnings 66 rfl rfl) rfl ?_
                      refine zj_goto (t := 133) (zdk ttX8_fewestTurnings 67 rfl rfl) (by decide) ?_
                      refine zj_istore (L' := [some (.inr 108), some (.inl p1), some (.inl p2), some (.inl p3), some (.inl x155), some (.inl x11), some (.inl ((x11 % 32) * 62)), some (.inl x156), some (.inl (h157.2 113 (((x11 % 32) * 62) + x156))), some (.inl 0), some (.inl x156)]) (zdk ttX8_fewestTurnings 69 rfl rfl) (by decide) rfl ?_
                      have b260 := hgE_b (by omega) (by omega) (u222.1 x11 x156 (by omega) (by omega) (by omega) (by omega) (by omega) (show ¬ (h157.2 113 (((x11 % 32) * 62) + x156)) = 2147483647 by omega))
                      have b260x := hgx_f x156
                      have b260c : 0 ≤ (h157.2 113 (((x11 % 32) * 62) + x156)) ∧ (h157.2 113 (((x11 % 32) * 62) + x156)) ≤ 240 := by have z9 := b260.2.2.2; exact ⟨z9.1, by have z8 := z9.2.1; have z7 : (h157.2 113 (((x11 % 32) * 62) + x156)) ≤ 2 * x11 := z8; omega⟩
                      refine zj_aload_n (zdk ttX8_fewestTurnings 70 rfl rfl) rfl (by decide) ?_
                      refine zj_iload (zdk ttX8_fewestTurnings 71 rfl rfl) rfl ?_
                      refine zj_iload (zdk ttX8_fewestTurnings 72 rfl rfl) rfl ?_
                      refine zj_iload (zdk ttX8_fewestTurnings 73 rfl rfl) rfl ?_
                      refine zj_iload (zdk ttX8_fewestTurnings 74 rfl rfl) rfl ?_
                      have s261 : okC h228 := aw_L108_4 s158 e229 (by omega)
                      refine zj_callV (av := [.inl x11, .inl 0, .inl x156, .inl (h157.2 113 (((x11 % 32) * 62) + x156))]) (st := []) (zdk ttX8_fewestTurnings 75 rfl rfl) mb_X8_turnInto mv_RX8_58 (ci := 8) rfl rfl (k_L108 s261) rfl rfl (Nat.le_of_ble_eq_true rfl) (s2_X8_turnInto l h228 x11 0 x156 (h157.2 113 (((x11 % 32) * 62) + x156)) s261 (by omega) (by omega) (by omega) (by omega)) (rm_ok (by decide) (by decide)) (zq_v fun h264 q262 => ?_)
                      obtain ⟨s266, u267⟩ := q262
                      refine zj_aload_n (zdk ttX8_fewestTurnings 76 rfl rfl) rfl (by decide) ?_
                      refine zj_iload (zdk ttX8_fewestTurnings 77 rfl rfl) rfl ?_
                      refine zj_iload_n (zdk ttX8_fewestTurnings 78 rfl rfl) rfl ?_
                      refine zj_iload (zdk ttX8_fewestTurnings 79 rfl rfl) rfl ?_
                      refine zj_isub (zdk ttX8_fewestTurnings 80 rfl rfl) ?_
                      refine zj_iload (zdk ttX8_fewestTurnings 81 rfl rfl) rfl ?_
                      refine zj_iload (zdk ttX8_fewestTurnings 82 rfl rfl) rfl ?_
                      refine zj_iconst (zdk ttX8_fewestTurnings 83 rfl rfl) ?_
                      refine zj_iadd (zdk ttX8_fewestTurnings 84 rfl rfl) ?_
                      refine zj_callV (av := [.inl x11, .inl (p1 - 0), .inl x156, .inl ((h157.2 113 (((x11 % 32) * 62) + x156)) + 1)]) (st := []) (zdk ttX8_fewestTurnings 85 rfl rfl) mb_X8_turnInto mv_RX8_58 (ci := 8) rfl rfl (k_L108 s266) rfl rfl (Nat.le_of_ble_eq_true rfl) (s2_X8_turnInto l h264 x11 (p1 - 0) x156 ((h157.2 113 (((x11 % 32) * 62) + x156)) + 1) s266 (by omega) (by omega) (by omega) (by omega)) (rm_ok (by decide) (by decide)) (zq_v fun h270 q268 => ?_)
                      obtain ⟨s272, u273⟩ := q268
                      refine zj_aload_n (zdk ttX8_fewestTurnings 86 rfl rfl) rfl (by decide) ?_
                      refine zj_iload (zdk ttX8_fewestTurnings 87 rfl rfl) rfl ?_
                      refine zj_iload (zdk ttX8_fewestTurnings 88 rfl rfl) rfl ?_
                      refine zj_iload_n (zdk ttX8_fewestTurnings 89 rfl rfl) rfl ?_
                      refine zj_iload (zdk ttX8_fewestTurnings 90 rfl rfl) rfl ?_
                      refine zj_isub (zdk ttX8_fewestTurnings 91 rfl rfl) ?_
                      refine zj_iload (zdk ttX8_fewestTurnings 92 rfl rfl) rfl ?_
                      refine zj_iconst (zdk ttX8_fewestTurnings 93 rfl rfl) ?_
                      refine zj_iadd (zdk ttX8_fewestTurnings 94 rfl rfl) ?_
                      refine zj_callV (av := [.inl x11, .inl 0, .inl (p2 - x156), .inl ((h157.2 113 (((x11 % 32) * 62) + x156)) + 1)]) (st := []) (zdk ttX8_fewestTurnings 95 rfl rfl) mb_X8_turnInto mv_RX8_58 (ci := 8) rfl rfl (k_L108 s272) rfl rfl (Nat.le_of_ble_eq_true rfl) (s2_X8_turnInto l h270 x11 0 (p2 - x156) ((h157.2 113 (((x11 % 32) * 62) + x156)) + 1) s272 (by omega) (by omega) (by omega) (by omega)) (rm_ok (by decide) (by decide)) (zq_v fun h276 q274 => ?_)
                      obtain ⟨s278, u279⟩ := q274
                      refine zj_aload_n (zdk ttX8_fewestTurnings 96 rfl rfl) rfl (by decide) ?_
                      refine zj_iload (zdk ttX8_fewestTurnings 97 rfl rfl) rfl ?_
                      refine zj_iload_n (zdk ttX8_fewestTurnings 98 rfl rfl) rfl ?_
                      refine zj_iload (zdk ttX8_fewestTurnings 99 rfl rfl) rfl ?_
                      refine zj_isub (zdk ttX8_fewestTurnings 100 rfl rfl) ?_
                      refine zj_iload_n (zdk ttX8_fewestTurnings 101 rfl rfl) rfl ?_
                      refine zj_iload (zdk ttX8_fewestTurnings 102 rfl rfl) rfl ?_
                      refine zj_isub (zdk ttX8_fewestTurnings 103 rfl rfl) ?_
                      refine zj_iload (zdk ttX8_fewestTurnings 104 rfl rfl) rfl ?_
                      refine zj_iconst (zdk ttX8_fewestTurnings 105 rfl rfl) ?_
                      refine zj_iadd (zdk ttX8_fewestTurnings 106 rfl rfl) ?_
                      refine zj_callV (av := [.inl x11, .inl (p1 - 0), .inl (p2 - x156), .inl ((h157.2 113 (((x11 % 32) * 62) + x156)) + 2)]) (st := []) (zdk ttX8_fewestTurnings 107 rfl rfl) mb_X8_turnInto mv_RX8_58 (ci := 8) rfl rfl (k_L108 s278) rfl rfl (Nat.le_of_ble_eq_true rfl) (s2_X8_turnInto l h276 x11 (p1 - 0) (p2 - x156) ((h157.2 113 (((x11 % 32) * 62) + x156)) + 2) s278 (by omega) (by omega) (by omega) (by omega)) (rm_ok (by decide) (by decide)) (zq_v fun h282 q280 => ?_)
                      obtain ⟨s284, u285⟩ := q280
                      refine zj_iinc (L' := [some (.inr 108), some (.inl p1), some (.inl p2), some (.inl p3), some (.inl x155), some (.inl x11), some (.inl ((x11 % 32) * 62)), some (.inl (x156 + 1)), some (.inl (h157.2 113 (((x11 % 32) * 62) + x156))), some (.inl 0), some (.inl x156)]) (zdk ttX8_fewestTurnings 108 rfl rfl) rfl (by decide) rfl ?_
                      refine zj_goto (t := 43) (zdk ttX8_fewestTurnings 109 rfl rfl) (by decide) ?_
                      refine zj_kill (k := 8) (L' := [some (.inr 108), some (.inl p1), some (.inl p2), some (.inl p3), some (.inl x155), some (.inl x11), some (.inl ((x11 % 32) * 62)), some (.inl (x156 + 1)), none, some (.inl 0), some (.inl x156)]) rfl ?_
                      refine zj_kill (k := 9) (L' := [some (.inr 108), some (.inl p1), some (.inl p2), some (.inl p3), some (.inl x155), some (.inl x11), some (.inl ((x11 % 32) * 62)), some (.inl (x156 + 1)), none, none, some (.inl x156)]) rfl ?_
                      refine zj_kill (k := 10) (L' := [some (.inr 108), some (.inl p1), some (.inl p2), some (.inl p3), some (.inl x155), some (.inl x11), some (.inl ((x11 % 32) * 62)), some (.inl (x156 + 1)), none, none, none]) rfl ?_
                      exact ih224  x155 (x156 + 1) h282 (by omega) (by omega) s284 (hgC_u (show (1 ≤ p1 ∧ p1 ≤ 30) ∧ (1 ≤ p2 ∧ p2 ≤ 30) by omega) u222 (by omega) (by omega) (c := (h157.2 113 (((x11 % 32) * 62) + x156))) (x := 0) (y := x156) rfl (show ¬ (h157.2 113 (((x11 % 32) * 62) + x156)) = 2147483647 by omega) (by have x9 := hgx_f x156; omega) (by have x9 := hgx_f x156; omega) (zwr_v e229) (fun i q => zwr_r e229 (fun z => q z.2)) u267 u273 u279 u285) (by omega)
                · refine zj_iload (zdk ttX8_fewestTurnings 49 rfl rfl) rfl ?_
                  refine zj_iload (zdk ttX8_fewestTurnings 50 rfl rfl) rfl ?_
                  refine zj_min (zdk ttX8_fewestTurnings 51 rfl rfl) mx_RX8_27 (by omega) (by omega) (Nat.le_of_ble_eq_true rfl) (rm_m (by decide)) ?_
                  have b286 := zm_min_f x155 (h157.2 113 (((x11 % 32) * 62) + x156))
                  refine zj_istore (L' := [some (.inr 108), some (.inl p1), some (.inl p2), some (.inl p3), some (.inl (zm_min x155 (h157.2 113 (((x11 % 32) * 62) + x156)))), some (.inl x11), some (.inl ((x11 % 32) * 62)), some (.inl x156), some (.inl (h157.2 113 (((x11 % 32) * 62) + x156))), none, none]) (zdk ttX8_fewestTurnings 52 rfl rfl) (by decide) rfl ?_
                  refine zj_goto (t := 197) (zdk ttX8_fewestTurnings 53 rfl rfl) (by decide) ?_
                  refine zj_iinc (L' := [some (.inr 108), some (.inl p1), some (.inl p2), some (.inl p3), some (.inl (zm_min x155 (h157.2 113 (((x11 % 32) * 62) + x156)))), some (.inl x11), some (.inl ((x11 % 32) * 62)), some (.inl (x156 + 1)), some (.inl (h157.2 113 (((x11 % 32) * 62) + x156))), none, none]) (zdk ttX8_fewestTurnings 108 rfl rfl) rfl (by decide) rfl ?_
                  refine zj_goto (t := 43) (zdk ttX8_fewestTurnings 109 rfl rfl) (by decide) ?_
                  refine zj_kill (k := 8) (L' := [some (.inr 108), some (.inl p1), some (.inl p2), some (.inl p3), some (.inl (zm_min x155 (h157.2 113 (((x11 % 32) * 62) + x156)))), some (.inl x11), some (.inl ((x11 % 32) * 62)), some (.inl (x156 + 1)), none, none, none]) rfl ?_
                  have s287 : okC h228 := aw_L108_4 s158 e229 (by omega)
                  exact ih224  (zm_min x155 (h157.2 113 (((x11 % 32) * 62) + x156))) (x156 + 1) h228 (by omega) (by omega) s287 (hgC_b (show (1 ≤ p1 ∧ p1 ≤ 30) ∧ (1 ≤ p2 ∧ p2 ≤ 30) by omega) u222 (by omega) (by omega) (c := (h157.2 113 (((x11 % 32) * 62) + x156))) rfl (show ¬ (h157.2 113 (((x11 % 32) * 62) + x156)) = 2147483647 by omega) (zwr_v e229) (fun i q => zwr_r e229 (fun z => q z.2)) (by omega)) (by omega)
              · refine zj_goto (t := 197) (zdk ttX8_fewestTurnings 38 rfl rfl) (by decide) ?_
                refine zj_iinc (L' := [some (.inr 108), some (.inl p1), some (.inl p2), some (.inl p3), some (.inl x155), some (.inl x11), some (.inl ((x11 % 32) * 62)), some (.inl (x156 + 1)), some (.inl (h157.2 113 (((x11 % 32) * 62) + x156))), none, none]) (zdk ttX8_fewestTurnings 108 rfl rfl) rfl (by decide) rfl ?_
                refine zj_goto (t := 43) (zdk ttX8_fewestTurnings 109 rfl rfl) (by decide) ?_
                refine zj_kill (k := 8) (L' := [some (.inr 108), some (.inl p1), some (.inl p2), some (.inl p3), some (.inl x155), some (.inl x11), some (.inl ((x11 % 32) * 62)), some (.inl (x156 + 1)), none, none, none]) rfl ?_
                exact ih224  x155 (x156 + 1) h157 (by omega) (by omega) s158 (hgC_k (show (1 ≤ p1 ∧ p1 ≤ 30) ∧ (1 ≤ p2 ∧ p2 ≤ 30) by omega) u222 (by omega) (by omega) (by omega) (by show (h157.2 113 (((x11 % 32) * 62) + x156)) = 2147483647; omega)) (by omega)
        exact lp219 _ x10 0 h12 (by omega) (by omega) s13 (u148 (by omega)) (Nat.lt_succ_self _)
  exact lp145 _ 2147483647 1 h6 (by omega) (by omega) s8 (fun _ => hgC_0 (show (1 ≤ p1 ∧ p1 ≤ 30) ∧ (1 ≤ p2 ∧ p2 ≤ 30) by omega) (fun i a b => by rw [e2]; exact if_pos ⟨rfl, a, by omega⟩) u9) (fun z => absurd z (by omega)) (by omega) (Nat.lt_succ_self _)

abbrev q2_X10_glasses (h : zM) (p1 : Int) (p2 : Int) (p3 : Int) : Option zV → zM → Prop := zqi fun v h' => ((-2147483648) ≤ v ∧ v ≤ 2147483647) ∧ okC h' ∧ (hgd p1 p2 p3 v)
set_option maxRecDepth 100000 in
set_option maxHeartbeats 4000000 in
theorem s2_X10_glasses (l : Launch) (h : zM) (p1 : Int) (p2 : Int) (p3 : Int) (s0 : okC h) (b_p1 : (-2147483648) ≤ p1 ∧ p1 ≤ 2147483647) (b_p2 : (-2147483648) ≤ p2 ∧ p2 ≤ 2147483647) (b_p3 : (-2147483648) ≤ p3 ∧ p3 ≤ 2147483647) : zT shC l yX10_glasses cX10_glasses 4 (some .int) (rmL 4) 0 0 [.inr 0, .inl p1, .inl p2, .inl p3] h (q2_X10_glasses h p1 p2 p3) := by
  refine zT_of (by decide +kernel) (L0 := [some (.inr 0), some (.inl p1), some (.inl p2), some (.inl p3)]) rfl (Nat.le_of_ble_eq_true rfl) ?_
  refine zj_iload_n (zdk ttX10_glasses 0 rfl rfl) rfl ?_
  refine zj_iconst (zdk ttX10_glasses 1 rfl rfl) ?_
  refine zj_bipush (zdk ttX10_glasses 2 rfl rfl) (by decide) ?_
  refine zj_callS (av := [.inl p1, .inl 1, .inl 30]) (st := []) (zdk ttX10_glasses 3 rfl rfl) mb_X10_within ms_RX10_77 rfl rfl (Nat.le_of_ble_eq_true rfl) (s_X10_within l h p1 1 30 s0 (by omega) (by omega) (by omega)) (rm_ok (by decide) (by decide)) (zq_i fun v2 h3 q1 => ?_)
  obtain ⟨rfl, ⟨rfl, b4⟩ | ⟨rfl, b4⟩⟩ := q1
  · refine zj_if_eq (t := 30) (zdk ttX10_glasses 4 rfl rfl) (by decide) (by decide) (fun c5 => ?_) (fun c5 => ?_)
    · refine zj_iconst (zdk ttX10_glasses 15 rfl rfl) ?_
      exact zj_iret rfl (zdk ttX10_glasses 16 rfl rfl) (Nat.le_refl _) (Nat.le_refl _) ⟨(-1), rfl, by omega, s0, ⟨fun z => absurd z (by omega), fun _ => by omega⟩⟩
    · exact absurd c5 (by omega)
  · refine zj_if_eq (t := 30) (zdk ttX10_glasses 4 rfl rfl) (by decide) (by decide) (fun c6 => ?_) (fun c6 => ?_)
    · exact absurd c6 (by omega)
    · refine zj_iload_n (zdk ttX10_glasses 5 rfl rfl) rfl ?_
      refine zj_iconst (zdk ttX10_glasses 6 rfl rfl) ?_
      refine zj_bipush (zdk ttX10_glasses 7 rfl rfl) (by decide) ?_
      refine zj_callS (av := [.inl p2, .inl 1, .inl 30]) (st := []) (zdk ttX10_glasses 8 rfl rfl) mb_X10_within ms_RX10_77 rfl rfl (Nat.le_of_ble_eq_true rfl) (s_X10_within l h p2 1 30 s0 (by omega) (by omega) (by omega)) (rm_ok (by decide) (by decide)) (zq_i fun v8 h9 q7 => ?_)
      obtain ⟨rfl, ⟨rfl, b10⟩ | ⟨rfl, b10⟩⟩ := q7
      · refine zj_if_eq (t := 30) (zdk ttX10_glasses 9 rfl rfl) (by decide) (by decide) (fun c11 => ?_) (fun c11 => ?_)
        · refine zj_iconst (zdk ttX10_glasses 15 rfl rfl) ?_
          exact zj_iret rfl (zdk ttX10_glasses 16 rfl rfl) (Nat.le_refl _) (Nat.le_refl _) ⟨(-1), rfl, by omega, s0, ⟨fun z => absurd z (by omega), fun _ => by omega⟩⟩
        · exact absurd c11 (by omega)
      · refine zj_if_eq (t := 30) (zdk ttX10_glasses 9 rfl rfl) (by decide) (by decide) (fun c12 => ?_) (fun c12 => ?_)
        · exact absurd c12 (by omega)
        · refine zj_iload_n (zdk ttX10_glasses 10 rfl rfl) rfl ?_
          refine zj_iconst (zdk ttX10_glasses 11 rfl rfl) ?_
          refine zj_bipush (zdk ttX10_glasses 12 rfl rfl) (by decide) ?_
          refine zj_callS (av := [.inl p3, .inl 1, .inl 120]) (st := []) (zdk ttX10_glasses 13 rfl rfl) mb_X10_within ms_RX10_77 rfl rfl (Nat.le_of_ble_eq_true rfl) (s_X10_within l h p3 1 120 s0 (by omega) (by omega) (by omega)) (rm_ok (by decide) (by decide)) (zq_i fun v14 h15 q13 => ?_)
          obtain ⟨rfl, ⟨rfl, b16⟩ | ⟨rfl, b16⟩⟩ := q13
          · refine zj_if_ne (t := 32) (zdk ttX10_glasses 14 rfl rfl) (by decide) (by decide) (fun c17 => ?_) (fun c17 => ?_)
            · exact absurd c17 (by omega)
            · refine zj_iconst (zdk ttX10_glasses 15 rfl rfl) ?_
              exact zj_iret rfl (zdk ttX10_glasses 16 rfl rfl) (Nat.le_refl _) (Nat.le_refl _) ⟨(-1), rfl, by omega, s0, ⟨fun z => absurd z (by omega), fun _ => by omega⟩⟩
          · refine zj_if_ne (t := 32) (zdk ttX10_glasses 14 rfl rfl) (by decide) (by decide) (fun c18 => ?_) (fun c18 => ?_)
            · refine zj_aload_n (zdk ttX10_glasses 17 rfl rfl) rfl (by decide) ?_
              refine zj_getr (r := 108) (zdk ttX10_glasses 18 rfl rfl) zf_RX10_41 rfl (k_L0 s0) (rf_L0_5 s0) ?_
              refine zj_iload_n (zdk ttX10_glasses 19 rfl rfl) rfl ?_
              refine zj_iload_n (zdk ttX10_glasses 20 rfl rfl) rfl ?_
              refine zj_iload_n (zdk ttX10_glasses 21 rfl rfl) rfl ?_
              refine zj_callV (av := [.inl p1, .inl p2, .inl p3]) (st := []) (zdk ttX10_glasses 22 rfl rfl) mb_X8_fewestTurnings mv_RX10_284 (ci := 8) rfl rfl (k_L108 s0) rfl rfl (Nat.le_of_ble_eq_true rfl) (s2_X8_fewestTurnings l h p1 p2 p3 s0 (by omega) (by omega) (by omega)) (rm_ok (by decide) (by decide)) (zq_i fun v20 h21 q19 => ?_)
              obtain ⟨b22, s23, u24⟩ := q19
              exact zj_iret rfl (zdk ttX10_glasses 23 rfl rfl) (Nat.le_refl _) (Nat.le_refl _) ⟨v20, rfl, by omega, s23, ⟨fun _ => u24, fun z => absurd z (by omega)⟩⟩
            · exact absurd c18 (by omega)

abbrev q2_X11_turns (h : zM) (p1 : Int) (p2 : Int) (p3 : Int) (p4 : Int) : Option zV → zM → Prop := zqv fun h' => okM h' ∧ zfr [] [27] h h' ∧ (hgU (h.2 27) (h'.2 27) (hgi p1 p2 p3) p4)
set_option maxRecDepth 100000 in
set_option maxHeartbeats 4000000 in
theorem s2_X11_turns (l : Launch) (h : zM) (p1 : Int) (p2 : Int) (p3 : Int) (p4 : Int) (s0 : okM h) (b_p1 : 0 ≤ p1 ∧ p1 ≤ 120) (b_p2 : 0 ≤ p2 ∧ p2 ≤ 30) (b_p3 : 0 ≤ p3 ∧ p3 ≤ 30) (b_p4 : (-2147483648) ≤ p4 ∧ p4 ≤ 2147483647) : zT shM l yX11_turns cX11_turns 5 none (rmL 2) 0 0 [.inr 0, .inl p1, .inl p2, .inl p3, .inl p4] h (q2_X11_turns h p1 p2 p3 p4) := by
  refine zT_of (by decide +kernel) (L0 := [some (.inr 0), some (.inl p1), some (.inl p2), some (.inl p3), some (.inl p4)]) rfl (Nat.le_of_ble_eq_true rfl) ?_
  refine zj_aload_n (zdk ttX11_turns 0 rfl rfl) rfl (by decide) ?_
  refine zj_getr (r := 27) (zdk ttX11_turns 1 rfl rfl) zf_RX11_93 rfl (k_M s0) (rfM_48 s0) ?_
  refine zj_aload_n (zdk ttX11_turns 2 rfl rfl) rfl (by decide) ?_
  refine zj_iload_n (zdk ttX11_turns 3 rfl rfl) rfl ?_
  refine zj_iload_n (zdk ttX11_turns 4 rfl rfl) rfl ?_
  refine zj_iload_n (zdk ttX11_turns 5 rfl rfl) rfl ?_
  refine zj_callV (av := [.inl p1, .inl p2, .inl p3]) (st := [.inr 27]) (zdk ttX11_turns 6 rfl rfl) mb_X11_glassAt mv_RX11_415 (ci := 11) rfl rfl (k_M s0) rfl rfl (Nat.le_of_ble_eq_true rfl) (s_X11_glassAt l h p1 p2 p3 s0 (by omega) (by omega) (by omega)) (rm_ok (by decide) (by decide)) (zq_i fun v2 h3 q1 => ?_)
  obtain ⟨rfl, rfl, b4⟩ := q1
  refine zj_aload_n (zdk ttX11_turns 7 rfl rfl) rfl (by decide) ?_
  refine zj_aload_n (zdk ttX11_turns 8 rfl rfl) rfl (by decide) ?_
  refine zj_getr (r := 27) (zdk ttX11_turns 9 rfl rfl) zf_RX11_93 rfl (k_M s0) (rfM_48 s0) ?_
  refine zj_aload_n (zdk ttX11_turns 10 rfl rfl) rfl (by decide) ?_
  refine zj_iload_n (zdk ttX11_turns 11 rfl rfl) rfl ?_
  refine zj_iload_n (zdk ttX11_turns 12 rfl rfl) rfl ?_
  refine zj_iload_n (zdk ttX11_turns 13 rfl rfl) rfl ?_
  refine zj_callV (av := [.inl p1, .inl p2, .inl p3]) (st := [.inr 27, .inr 0, .inl (((961 * p1) + (31 * p2)) + p3), .inr 27]) (zdk ttX11_turns 14 rfl rfl) mb_X11_glassAt mv_RX11_415 (ci := 11) rfl rfl (k_M s0) rfl rfl (Nat.le_of_ble_eq_true rfl) (s_X11_glassAt l h p1 p2 p3 s0 (by omega) (by omega) (by omega)) (rm_ok (by decide) (by decide)) (zq_i fun v6 h7 q5 => ?_)
  obtain ⟨rfl, rfl, b8⟩ := q5
  have b9 : -2147483648 ≤ (h.2 27 (((961 * p1) + (31 * p2)) + p3)) ∧ (h.2 27 (((961 * p1) + (31 * p2)) + p3)) ≤ 2147483647 := abM_27 s0 (((961 * p1) + (31 * p2)) + p3)
  refine zj_iald (v := (h.2 27 (((961 * p1) + (31 * p2)) + p3))) (zdk ttX11_turns 15 rfl rfl) (kaM_27 s0) (by decide) (by omega) rfl ?_
  refine zj_iload (zdk ttX11_turns 16 rfl rfl) rfl ?_
  refine zj_callV (av := [.inl (h.2 27 (((961 * p1) + (31 * p2)) + p3)), .inl p4]) (st := [.inl (((961 * p1) + (31 * p2)) + p3), .inr 27]) (zdk ttX11_turns 17 rfl rfl) mb_X11_lesser mv_RX11_371 (ci := 11) rfl rfl (k_M s0) rfl rfl (Nat.le_of_ble_eq_true rfl) (s_X11_lesser l h (h.2 27 (((961 * p1) + (31 * p2)) + p3)) p4 s0 (by omega) (by omega)) (rm_ok (by decide) (by decide)) (zq_i fun v11 h12 q10 => ?_)
  obtain ⟨rfl, b13⟩ := q10
  have b14 : -2147483648 ≤ v11 ∧ v11 ≤ 2147483647 := by omega
  refine zj_iast (zdk ttX11_turns 18 rfl rfl) (kaM_27 s0) (by decide) (by omega) (fun h15 e16 => ?_)
  have s17 : okM h15 := awM_27 s0 e16 (by omega) (by unfold nsp; omega)
  have f18 : zfr [] [27] h h15 := zfr_wa (zfr_r _ _ _) e16 rfl
  exact zj_vret rfl (zdk ttX11_turns 19 rfl rfl) (Nat.le_refl _) (Nat.le_refl _) ⟨rfl, s17, f18, (hgU_w (by unfold hgi; omega) e16 (by omega))⟩

abbrev q2_X11_glasses (h : zM) (p1 : Int) (p2 : Int) (p3 : Int) : Option zV → zM → Prop := zqi fun v h' => ((-2147483648) ≤ v ∧ v ≤ 2147483647) ∧ okM h' ∧ zfr [0] [27] h h' ∧ (hgd p1 p2 p3 v)
set_option maxRecDepth 100000 in
set_option maxHeartbeats 4000000 in
theorem s2_X11_glasses (l : Launch) (h : zM) (p1 : Int) (p2 : Int) (p3 : Int) (s0 : okM h) (b_p1 : (-2147483648) ≤ p1 ∧ p1 ≤ 2147483647) (b_p2 : (-2147483648) ≤ p2 ∧ p2 ≤ 2147483647) (b_p3 : (-2147483648) ≤ p3 ∧ p3 ≤ 2147483647) : zT shM l yX11_glasses cX11_glasses 12 (some .int) (rmL 3) 0 0 [.inr 0, .inl p1, .inl p2, .inl p3] h (q2_X11_glasses h p1 p2 p3) := by
  refine zT_of (by decide +kernel) (L0 := [some (.inr 0), some (.inl p1), some (.inl p2), some (.inl p3), none, none, none, none, none, none, none, none]) rfl (Nat.le_of_ble_eq_true rfl) ?_
  refine zj_aload_n (zdk ttX11_glasses 0 rfl rfl) rfl (by decide) ?_
  refine zj_iconst (zdk ttX11_glasses 1 rfl rfl) ?_
  refine zj_puti (zdk ttX11_glasses 2 rfl rfl) zf_RX11_120 rfl (k_M s0) (Or.inl zw_RX11_120) (k2 := 0) rfl (fun h1 e2 => ?_)
  refine zj_aload_n (zdk ttX11_glasses 3 rfl rfl) rfl (by decide) ?_
  refine zj_iload_n (zdk ttX11_glasses 4 rfl rfl) rfl ?_
  refine zj_iconst (zdk ttX11_glasses 5 rfl rfl) ?_
  refine zj_bipush (zdk ttX11_glasses 6 rfl rfl) (by decide) ?_
  have s3 : okM h1 := fwM_0 s0 e2 (by omega)
  refine zj_callV (av := [.inl p1, .inl 1, .inl 30]) (st := []) (zdk ttX11_glasses 7 rfl rfl) mb_X11_isIn mv_RX11_139 (ci := 11) rfl rfl (k_M s3) rfl rfl (Nat.le_of_ble_eq_true rfl) (s_X11_isIn l h1 p1 1 30 s3 (by omega) (by omega) (by omega)) (rm_ok (by decide) (by decide)) (zq_i fun v5 h6 q4 => ?_)
  obtain ⟨rfl, ⟨rfl, b7⟩ | ⟨rfl, b7⟩⟩ := q4
  · refine zj_if_eq (t := 38) (zdk ttX11_glasses 8 rfl rfl) (by decide) (by decide) (fun c8 => ?_) (fun c8 => ?_)
    · refine zj_iconst (zdk ttX11_glasses 21 rfl rfl) ?_
      have f9 : zfr [0] [27] h h1 := zfr_wf (zfr_r _ _ _) e2 rfl
      exact zj_iret rfl (zdk ttX11_glasses 22 rfl rfl) (Nat.le_refl _) (Nat.le_refl _) ⟨(-1), rfl, by omega, s3, f9, ⟨fun z => absurd z (by omega), fun _ => by omega⟩⟩
    · exact absurd c8 (by omega)
  · refine zj_if_eq (t := 38) (zdk ttX11_glasses 8 rfl rfl) (by decide) (by decide) (fun c10 => ?_) (fun c10 => ?_)
    · exact absurd c10 (by omega)
    · refine zj_aload_n (zdk ttX11_glasses 9 rfl rfl) rfl (by decide) ?_
      refine zj_iload_n (zdk ttX11_glasses 10 rfl rfl) rfl ?_
      refine zj_iconst (zdk ttX11_glasses 11 rfl rfl) ?_
      refine zj_bipush (zdk ttX11_glasses 12 rfl rfl) (by decide) ?_
      refine zj_callV (av := [.inl p2, .inl 1, .inl 30]) (st := []) (zdk ttX11_glasses 13 rfl rfl) mb_X11_isIn mv_RX11_139 (ci := 11) rfl rfl (k_M s3) rfl rfl (Nat.le_of_ble_eq_true rfl) (s_X11_isIn l h1 p2 1 30 s3 (by omega) (by omega) (by omega)) (rm_ok (by decide) (by decide)) (zq_i fun v12 h13 q11 => ?_)
      obtain ⟨rfl, ⟨rfl, b14⟩ | ⟨rfl, b14⟩⟩ := q11
      · refine zj_if_eq (t := 38) (zdk ttX11_glasses 14 rfl rfl) (by decide) (by decide) (fun c15 => ?_) (fun c15 => ?_)
        · refine zj_iconst (zdk ttX11_glasses 21 rfl rfl) ?_
          have f16 : zfr [0] [27] h h1 := zfr_wf (zfr_r _ _ _) e2 rfl
          exact zj_iret rfl (zdk ttX11_glasses 22 rfl rfl) (Nat.le_refl _) (Nat.le_refl _) ⟨(-1), rfl, by omega, s3, f16, ⟨fun z => absurd z (by omega), fun _ => by omega⟩⟩
        · exact absurd c15 (by omega)
      · refine zj_if_eq (t := 38) (zdk ttX11_glasses 14 rfl rfl) (by decide) (by decide) (fun c17 => ?_) (fun c17 => ?_)
        · exact absurd c17 (by omega)
        · refine zj_aload_n (zdk ttX11_glasses 15 rfl rfl) rfl (by decide) ?_
          refine zj_iload_n (zdk ttX11_glasses 16 rfl rfl) rfl ?_
          refine zj_iconst (zdk ttX11_glasses 17 rfl rfl) ?_
          refine zj_bipush (zdk ttX11_glasses 18 rfl rfl) (by decide) ?_
          refine zj_callV (av := [.inl p3, .inl 1, .inl 120]) (st := []) (zdk ttX11_glasses 19 rfl rfl) mb_X11_isIn mv_RX11_139 (ci := 11) rfl rfl (k_M s3) rfl rfl (Nat.le_of_ble_eq_true rfl) (s_X11_isIn l h1 p3 1 120 s3 (by omega) (by omega) (by omega)) (rm_ok (by decide) (by decide)) (zq_i fun v19 h20 q18 => ?_)
          obtain ⟨rfl, ⟨rfl, b21⟩ | ⟨rfl, b21⟩⟩ := q18
          · refine zj_if_ne (t := 40) (zdk ttX11_glasses 20 rfl rfl) (by decide) (by decide) (fun c22 => ?_) (fun c22 => ?_)
            · exact absurd c22 (by omega)
            · refine zj_iconst (zdk ttX11_glasses 21 rfl rfl) ?_
              have f23 : zfr [0] [27] h h1 := zfr_wf (zfr_r _ _ _) e2 rfl
              exact zj_iret rfl (zdk ttX11_glasses 22 rfl rfl) (Nat.le_refl _) (Nat.le_refl _) ⟨(-1), rfl, by omega, s3, f23, ⟨fun z => absurd z (by omega), fun _ => by omega⟩⟩
          · refine zj_if_ne (t := 40) (zdk ttX11_glasses 20 rfl rfl) (by decide) (by decide) (fun c24 => ?_) (fun c24 => ?_)
            · refine zj_iconst (zdk ttX11_glasses 23 rfl rfl) ?_
              refine zj_istore (L' := [some (.inr 0), some (.inl p1), some (.inl p2), some (.inl p3), some (.inl 0), none, none, none, none, none, none, none]) (zdk ttX11_glasses 24 rfl rfl) (by decide) rfl ?_
              have lp62 : ∀ (n43 : Nat) (x25 : Int) (h26 : zM), (0 ≤ x25 ∧ x25 ≤ 116281) → okM h26 → zfr [0] [27] h h26 → (∀ i, 0 ≤ i → i < x25 → h26.2 27 i = 100000000) → (x25 ≤ 961 * (p3 + 1)) → (116282 - x25).toNat < n43 → zJ shM l yX11_glasses cX11_glasses 12 (some .int) (rmL 3) 0 0 (q2_X11_glasses h p1 p2 p3) 0 0 43 [some (.inr 0), some (.inl p1), some (.inl p2), some (.inl p3), some (.inl x25), none, none, none, none, none, none, none] [] h26 := by
                intro n43
                induction n43 with
                | zero => intro x25 h26 b63 s27 f28 u64 u65 m66; exact absurd m66 (Nat.not_lt_zero _)
                | succ n43 ih67 =>
                  intro x25 h26 b63 s27 f28 u64 u65 m66
                  refine zj_iload (zdk ttX11_glasses 25 rfl rfl) rfl ?_
                  refine zj_sipush (zdk ttX11_glasses 26 rfl rfl) (by decide) ?_
                  refine zj_iload_n (zdk ttX11_glasses 27 rfl rfl) rfl ?_
                  refine zj_iconst (zdk ttX11_glasses 28 rfl rfl) ?_
                  refine zj_iadd (zdk ttX11_glasses 29 rfl rfl) ?_
                  refine zj_imul (zdk ttX11_glasses 30 rfl rfl) ?_
                  refine zj_icmp_ge (t := 71) (zdk ttX11_glasses 31 rfl rfl) (by decide) (by omega) (by omega) (fun c68 => ?_) (fun c68 => ?_)
                  · refine zj_aload_n (zdk ttX11_glasses 39 rfl rfl) rfl (by decide) ?_
                    refine zj_getr (r := 27) (zdk ttX11_glasses 40 rfl rfl) zf_RX11_93 rfl (k_M s27) (rfM_48 s27) ?_
                    refine zj_aload_n (zdk ttX11_glasses 41 rfl rfl) rfl (by decide) ?_
                    refine zj_iconst (zdk ttX11_glasses 42 rfl rfl) ?_
                    refine zj_iload_n (zdk ttX11_glasses 43 rfl rfl) rfl ?_
                    refine zj_iload_n (zdk ttX11_glasses 44 rfl rfl) rfl ?_
                    refine zj_callV (av := [.inl 0, .inl p1, .inl p2]) (st := [.inr 27]) (zdk ttX11_glasses 45 rfl rfl) mb_X11_glassAt mv_RX11_415 (ci := 11) rfl rfl (k_M s27) rfl rfl (Nat.le_of_ble_eq_true rfl) (s_X11_glassAt l h26 0 p1 p2 s27 (by omega) (by omega) (by omega)) (rm_ok (by decide) (by decide)) (zq_i fun v70 h71 q69 => ?_)
                    obtain ⟨rfl, rfl, b72⟩ := q69
                    refine zj_iconst (zdk ttX11_glasses 46 rfl rfl) ?_
                    refine zj_iast (zdk ttX11_glasses 47 rfl rfl) (kaM_27 s27) (by decide) (by omega) (fun h73 e74 => ?_)
                    refine zj_ldc_w (z := 100000000) (zdk ttX11_glasses 48 rfl rfl) wc_RX11_411 ?_
                    refine zj_istore (L' := [some (.inr 0), some (.inl p1), some (.inl p2), some (.inl p3), some (.inl 100000000), none, none, none, none, none, none, none]) (zdk ttX11_glasses 49 rfl rfl) (by decide) rfl ?_
                    refine zj_iconst (zdk ttX11_glasses 50 rfl rfl) ?_
                    refine zj_istore (L' := [some (.inr 0), some (.inl p1), some (.inl p2), some (.inl p3), some (.inl 100000000), some (.inl 0), none, none, none, none, none, none]) (zdk ttX11_glasses 51 rfl rfl) (by decide) rfl ?_
                    have lp1191 : ∀ (n92 : Nat) (x75 x76 : Int) (h77 : zM), (-2147483648 ≤ x75 ∧ x75 ≤ 2147483647) → (0 ≤ x76 ∧ x76 ≤ 120) → okM h77 → zfr [0] [27] h h77 → (hgG p1 p2 p3 (h77.2 27) x75 x76 0 0) → (x76 ≤ p3) → (121 - x76).toNat < n92 → zJ shM l yX11_glasses cX11_glasses 12 (some .int) (rmL 3) 0 0 (q2_X11_glasses h p1 p2 p3) 0 0 92 [some (.inr 0), some (.inl p1), some (.inl p2), some (.inl p3), some (.inl x75), some (.inl x76), none, none, none, none, none, none] [] h77 := by
                      intro n92
                      induction n92 with
                      | zero => intro x75 x76 h77 b1192 b1193 s78 f79 u1194 u1195 m1196; exact absurd m1196 (Nat.not_lt_zero _)
                      | succ n92 ih1197 =>
                        intro x75 x76 h77 b1192 b1193 s78 f79 u1194 u1195 m1196
                        refine zj_iload (zdk ttX11_glasses 52 rfl rfl) rfl ?_
                        refine zj_iload_n (zdk ttX11_glasses 53 rfl rfl) rfl ?_
                        refine zj_icmp_ge (t := 323) (zdk ttX11_glasses 54 rfl rfl) (by decide) (by omega) (by omega) (fun c1198 => ?_) (fun c1198 => ?_)
                        · refine zj_iload (zdk ttX11_glasses 174 rfl rfl) rfl ?_
                          refine zj_ldc_w (z := 100000000) (zdk ttX11_glasses 175 rfl rfl) wc_RX11_411 ?_
                          refine zj_icmp_ne (t := 335) (zdk ttX11_glasses 176 rfl rfl) (by decide) (by omega) (by decide) (fun c1199 => ?_) (fun c1199 => ?_)
                          · refine zj_iload (zdk ttX11_glasses 179 rfl rfl) rfl ?_
                            exact zj_iret rfl (zdk ttX11_glasses 180 rfl rfl) (Nat.le_refl _) (Nat.le_refl _) ⟨x75, rfl, by omega, s78, f79, ⟨fun _ => hgG_e (show (1 ≤ p1 ∧ p1 ≤ 30) ∧ (1 ≤ p2 ∧ p2 ≤ 30) by omega) (by omega) u1194 (by omega) (by omega), fun z => absurd z (by omega)⟩⟩
                          · refine zj_iconst (zdk ttX11_glasses 177 rfl rfl) ?_
                            refine zj_goto (t := 337) (zdk ttX11_glasses 178 rfl rfl) (by decide) ?_
                            exact zj_iret rfl (zdk ttX11_glasses 180 rfl rfl) (Nat.le_refl _) (Nat.le_refl _) ⟨(-1), rfl, by omega, s78, f79, ⟨fun _ => hgG_e (show (1 ≤ p1 ∧ p1 ≤ 30) ∧ (1 ≤ p2 ∧ p2 ≤ 30) by omega) (by omega) u1194 (by omega) (by omega), fun z => absurd z (by omega)⟩⟩
                        · refine zj_iconst (zdk ttX11_glasses 55 rfl rfl) ?_
                          refine zj_istore (L' := [some (.inr 0), some (.inl p1), some (.inl p2), some (.inl p3), some (.inl x75), some (.inl x76), some (.inl 0), none, none, none, none, none]) (zdk ttX11_glasses 56 rfl rfl) (by decide) rfl ?_
                          have lp1754 : ∀ (n101 : Nat) (x1200 x1201 : Int) (h1202 : zM), (-2147483648 ≤ x1200 ∧ x1200 ≤ 2147483647) → (0 ≤ x1201 ∧ x1201 ≤ 31) → okM h1202 → zfr [0] [27] h h1202 → (hgG p1 p2 p3 (h1202.2 27) x1200 x76 x1201 0) → (x1201 ≤ p1 + 1) → (32 - x1201).toNat < n101 → zJ shM l yX11_glasses cX11_glasses 12 (some .int) (rmL 3) 0 0 (q2_X11_glasses h p1 p2 p3) 0 0 101 [some (.inr 0), some (.inl p1), some (.inl p2), some (.inl p3), some (.inl x1200), some (.inl x76), some (.inl x1201), none, none, none, none, none] [] h1202 := by
                            intro n101
                            induction n101 with
                            | zero => intro x1200 x1201 h1202 b1755 b1756 s1203 f1204 u1757 u1758 m1759; exact absurd m1759 (Nat.not_lt_zero _)
                            | succ n101 ih1760 =>
                              intro x1200 x1201 h1202 b1755 b1756 s1203 f1204 u1757 u1758 m1759
                              refine zj_iload (zdk ttX11_glasses 57 rfl rfl) rfl ?_
                              refine zj_iload_n (zdk ttX11_glasses 58 rfl rfl) rfl ?_
                              refine zj_icmp_gt (t := 317) (zdk ttX11_glasses 59 rfl rfl) (by decide) (by omega) (by omega) (fun c1761 => ?_) (fun c1761 => ?_)
                              · refine zj_iinc (L' := [some (.inr 0), some (.inl p1), some (.inl p2), some (.inl p3), some (.inl x1200), some (.inl (x76 + 1)), some (.inl x1201), none, none, none, none, none]) (zdk ttX11_glasses 172 rfl rfl) rfl (by decide) rfl ?_
                                refine zj_goto (t := 92) (zdk ttX11_glasses 173 rfl rfl) (by decide) ?_
                                refine zj_kill (k := 6) (L' := [some (.inr 0), some (.inl p1), some (.inl p2), some (.inl p3), some (.inl x1200), some (.inl (x76 + 1)), none, none, none, none, none, none]) rfl ?_
                                exact ih1197  x1200 (x76 + 1) h1202 (by omega) (by omega) s1203 f1204 (hgG_x u1757 (by omega)) (by omega) (by omega)
                              · refine zj_iconst (zdk ttX11_glasses 60 rfl rfl) ?_
                                refine zj_istore (L' := [some (.inr 0), some (.inl p1), some (.inl p2), some (.inl p3), some (.inl x1200), some (.inl x76), some (.inl x1201), some (.inl 0), none, none, none, none]) (zdk ttX11_glasses 61 rfl rfl) (by decide) rfl ?_
                                have lp2035 : ∀ (n110 : Nat) (x1762 x1763 : Int) (h1764 : zM), (-2147483648 ≤ x1762 ∧ x1762 ≤ 2147483647) → (0 ≤ x1763 ∧ x1763 ≤ 31) → okM h1764 → zfr [0] [27] h h1764 → (hgG p1 p2 p3 (h1764.2 27) x1762 x76 x1201 x1763) → (x1763 ≤ p2 + 1) → (32 - x1763).toNat < n110 → zJ shM l yX11_glasses cX11_glasses 12 (some .int) (rmL 3) 0 0 (q2_X11_glasses h p1 p2 p3) 0 0 110 [some (.inr 0), some (.inl p1), some (.inl p2), some (.inl p3), some (.inl x1762), some (.inl x76), some (.inl x1201), some (.inl x1763), none, none, none, none] [] h1764 := by
                                  intro n110
                                  induction n110 with
                                  | zero => intro x1762 x1763 h1764 b2036 b2037 s1765 f1766 u2038 u2039 m2040; exact absurd m2040 (Nat.not_lt_zero _)
                                  | succ n110 ih2041 =>
                                    intro x1762 x1763 h1764 b2036 b2037 s1765 f1766 u2038 u2039 m2040
                                    refine zj_iload (zdk ttX11_glasses 62 rfl rfl) rfl ?_
                                    refine zj_iload_n (zdk ttX11_glasses 63 rfl rfl) rfl ?_
                                    refine zj_icmp_gt (t := 311) (zdk ttX11_glasses 64 rfl rfl) (by decide) (by omega) (by omega) (fun c2042 => ?_) (fun c2042 => ?_)
                                    · refine zj_iinc (L' := [some (.inr 0), some (.inl p1), some (.inl p2), some (.inl p3), some (.inl x1762), some (.inl x76), some (.inl (x1201 + 1)), some (.inl x1763), none, none, none, none]) (zdk ttX11_glasses 170 rfl rfl) rfl (by decide) rfl ?_
                                      refine zj_goto (t := 101) (zdk ttX11_glasses 171 rfl rfl) (by decide) ?_
                                      refine zj_kill (k := 7) (L' := [some (.inr 0), some (.inl p1), some (.inl p2), some (.inl p3), some (.inl x1762), some (.inl x76), some (.inl (x1201 + 1)), none, none, none, none, none]) rfl ?_
                                      exact ih1760  x1762 (x1201 + 1) h1764 (by omega) (by omega) s1765 f1766 (hgG_y u2038 (by omega)) (by omega) (by omega)
                                    · refine zj_aload_n (zdk ttX11_glasses 65 rfl rfl) rfl (by decide) ?_
                                      refine zj_getr (r := 27) (zdk ttX11_glasses 66 rfl rfl) zf_RX11_93 rfl (k_M s1765) (rfM_48 s1765) ?_
                                      refine zj_aload_n (zdk ttX11_glasses 67 rfl rfl) rfl (by decide) ?_
                                      refine zj_iload (zdk ttX11_glasses 68 rfl rfl) rfl ?_
                                      refine zj_iload (zdk ttX11_glasses 69 rfl rfl) rfl ?_
                                      refine zj_iload (zdk ttX11_glasses 70 rfl rfl) rfl ?_
                                      refine zj_callV (av := [.inl x76, .inl x1201, .inl x1763]) (st := [.inr 27]) (zdk ttX11_glasses 71 rfl rfl) mb_X11_glassAt mv_RX11_415 (ci := 11) rfl rfl (k_M s1765) rfl rfl (Nat.le_of_ble_eq_true rfl) (s_X11_glassAt l h1764 x76 x1201 x1763 s1765 (by omega) (by omega) (by omega)) (rm_ok (by decide) (by decide)) (zq_i fun v2044 h2045 q2043 => ?_)
                                      obtain ⟨rfl, rfl, b2046⟩ := q2043
                                      have b2047 : -2147483648 ≤ (h1764.2 27 (((961 * x76) + (31 * x1201)) + x1763)) ∧ (h1764.2 27 (((961 * x76) + (31 * x1201)) + x1763)) ≤ 2147483647 := abM_27 s1765 (((961 * x76) + (31 * x1201)) + x1763)
                                      refine zj_iald (v := (h1764.2 27 (((961 * x76) + (31 * x1201)) + x1763))) (zdk ttX11_glasses 72 rfl rfl) (kaM_27 s1765) (by decide) (by omega) rfl ?_
                                      have b2048 : h1764.2 27 (hgi x76 x1201 x1763) = (h1764.2 27 (((961 * x76) + (31 * x1201)) + x1763)) := rfl
                                      refine zj_istore (L' := [some (.inr 0), some (.inl p1), some (.inl p2), some (.inl p3), some (.inl x1762), some (.inl x76), some (.inl x1201), some (.inl x1763), some (.inl (h1764.2 27 (((961 * x76) + (31 * x1201)) + x1763))), none, none, none]) (zdk ttX11_glasses 73 rfl rfl) (by decide) rfl ?_
                                      refine zj_iload (zdk ttX11_glasses 74 rfl rfl) rfl ?_
                                      refine zj_if_ne (t := 143) (zdk ttX11_glasses 75 rfl rfl) (by decide) (by omega) (fun c2049 => ?_) (fun c2049 => ?_)
                                      · refine zj_iload (zdk ttX11_glasses 78 rfl rfl) rfl ?_
                                        refine zj_if_ne (t := 153) (zdk ttX11_glasses 79 rfl rfl) (by decide) (by omega) (fun c2050 => ?_) (fun c2050 => ?_)
                                        · refine zj_aload_n (zdk ttX11_glasses 82 rfl rfl) rfl (by decide) ?_
                                          refine zj_iload (zdk ttX11_glasses 83 rfl rfl) rfl ?_
                                          refine zj_iload (zdk ttX11_glasses 84 rfl rfl) rfl ?_
                                          refine zj_callV (av := [.inl x1201, .inl x1763]) (st := []) (zdk ttX11_glasses 85 rfl rfl) mb_X11_lesser mv_RX11_371 (ci := 11) rfl rfl (k_M s1765) rfl rfl (Nat.le_of_ble_eq_true rfl) (s_X11_lesser l h1764 x1201 x1763 s1765 (by omega) (by omega)) (rm_ok (by decide) (by decide)) (zq_i fun v2052 h2053 q2051 => ?_)
                                          obtain ⟨rfl, b2054⟩ := q2051
                                          have b2055 : 1 ≤ v2052 ∧ v2052 ≤ 30 := by omega
                                          refine zj_istore (L' := [some (.inr 0), some (.inl p1), some (.inl p2), some (.inl p3), some (.inl x1762), some (.inl x76), some (.inl x1201), some (.inl x1763), some (.inl (h1764.2 27 (((961 * x76) + (31 * x1201)) + x1763))), some (.inl v2052), none, none]) (zdk ttX11_glasses 86 rfl rfl) (by decide) rfl ?_
                                          refine zj_iload (zdk ttX11_glasses 87 rfl rfl) rfl ?_
                                          refine zj_ldc_w (z := 100000000) (zdk ttX11_glasses 88 rfl rfl) wc_RX11_411 ?_
                                          refine zj_icmp_eq (t := 305) (zdk ttX11_glasses 89 rfl rfl) (by decide) (by omega) (by decide) (fun c2056 => ?_) (fun c2056 => ?_)
                                          · refine zj_iinc (L' := [some (.inr 0), some (.inl p1), some (.inl p2), some (.inl p3), some (.inl x1762), some (.inl x76), some (.inl x1201), some (.inl (x1763 + 1)), some (.inl (h1764.2 27 (((961 * x76) + (31 * x1201)) + x1763))), some (.inl v2052), none, none]) (zdk ttX11_glasses 168 rfl rfl) rfl (by decide) rfl ?_
                                            refine zj_goto (t := 110) (zdk ttX11_glasses 169 rfl rfl) (by decide) ?_
                                            refine zj_kill (k := 8) (L' := [some (.inr 0), some (.inl p1), some (.inl p2), some (.inl p3), some (.inl x1762), some (.inl x76), some (.inl x1201), some (.inl (x1763 + 1)), none, some (.inl v2052), none, none]) rfl ?_
                                            refine zj_kill (k := 9) (L' := [some (.inr 0), some (.inl p1), some (.inl p2), some (.inl p3), some (.inl x1762), some (.inl x76), some (.inl x1201), some (.inl (x1763 + 1)), none, none, none, none]) rfl ?_
                                            exact ih2041  x1762 (x1763 + 1) h1764 (by omega) (by omega) s1765 f1766 (hgG_k u2038 (by have r9 := hgr_f x1201 x1763; omega)) (by omega) (by omega)
                                          · refine zj_iload (zdk ttX11_glasses 90 rfl rfl) rfl ?_
                                            refine zj_if_eq (t := 305) (zdk ttX11_glasses 91 rfl rfl) (by decide) (by omega) (fun c2057 => ?_) (fun c2057 => ?_)
                                            · exact absurd c2057 (by omega)
                                            · refine zj_iload (zdk ttX11_glasses 92 rfl rfl) rfl ?_
                                              refine zj_iload (zdk ttX11_glasses 93 rfl rfl) rfl ?_
                                              refine zj_iadd (zdk ttX11_glasses 94 rfl rfl) ?_
                                              refine zj_iload_n (zdk ttX11_glasses 95 rfl rfl) rfl ?_
                                              refine zj_icmp_le (t := 188) (zdk ttX11_glasses 96 rfl rfl) (by decide) (by omega) (by omega) (fun c2058 => ?_) (fun c2058 => ?_)
                                              · have b2059 := hgS_b (by omega) (by omega) (u2038.1 x76 x1201 x1763 (by omega) (by omega) (by omega) (show ¬ (h1764.2 27 (((961 * x76) + (31 * x1201)) + x1763)) = 100000000 by omega))
                                                have b2059c : 0 ≤ (h1764.2 27 (((961 * x76) + (31 * x1201)) + x1763)) ∧ (h1764.2 27 (((961 * x76) + (31 * x1201)) + x1763)) ≤ 240 := by have z9 : 0 ≤ (h1764.2 27 (((961 * x76) + (31 * x1201)) + x1763)) ∧ (h1764.2 27 (((961 * x76) + (31 * x1201)) + x1763)) ≤ 2 * x76 := b2059.2.2.2; omega
                                                refine zj_iload (zdk ttX11_glasses 98 rfl rfl) rfl ?_
                                                refine zj_iload (zdk ttX11_glasses 99 rfl rfl) rfl ?_
                                                refine zj_iadd (zdk ttX11_glasses 100 rfl rfl) ?_
                                                refine zj_iload_n (zdk ttX11_glasses 101 rfl rfl) rfl ?_
                                                refine zj_icmp_ne (t := 207) (zdk ttX11_glasses 102 rfl rfl) (by decide) (by omega) (by omega) (fun c2060 => ?_) (fun c2060 => ?_)
                                                · refine zj_aload_n (zdk ttX11_glasses 108 rfl rfl) rfl (by decide) ?_
                                                  refine zj_iconst (zdk ttX11_glasses 109 rfl rfl) ?_
                                                  refine zj_iload (zdk ttX11_glasses 110 rfl rfl) rfl ?_
                                                  refine zj_iload (zdk ttX11_glasses 111 rfl rfl) rfl ?_
                                                  refine zj_isub (zdk ttX11_glasses 112 rfl rfl) ?_
                                                  refine zj_callV (av := [.inl 0, .inl (x1201 - v2052)]) (st := []) (zdk ttX11_glasses 113 rfl rfl) mb_X11_greater mv_RX11_418 (ci := 11) rfl rfl (k_M s1765) rfl rfl (Nat.le_of_ble_eq_true rfl) (s_X11_greater l h1764 0 (x1201 - v2052) s1765 (by omega) (by omega)) (rm_ok (by decide) (by decide)) (zq_i fun v2062 h2063 q2061 => ?_)
                                                  obtain ⟨rfl, b2064⟩ := q2061
                                                  have b2065 : -29 ≤ v2062 ∧ v2062 ≤ 29 := by omega
                                                  refine zj_istore (L' := [some (.inr 0), some (.inl p1), some (.inl p2), some (.inl p3), some (.inl x1762), some (.inl x76), some (.inl x1201), some (.inl x1763), some (.inl (h1764.2 27 (((961 * x76) + (31 * x1201)) + x1763))), some (.inl v2052), some (.inl v2062), none]) (zdk ttX11_glasses 114 rfl rfl) (by decide) rfl ?_
                                                  refine zj_aload_n (zdk ttX11_glasses 115 rfl rfl) rfl (by decide) ?_
                                                  refine zj_iconst (zdk ttX11_glasses 116 rfl rfl) ?_
                                                  refine zj_iload (zdk ttX11_glasses 117 rfl rfl) rfl ?_
                                                  refine zj_iload (zdk ttX11_glasses 118 rfl rfl) rfl ?_
                                                  refine zj_isub (zdk ttX11_glasses 119 rfl rfl) ?_
                                                  refine zj_callV (av := [.inl 0, .inl (x1763 - v2052)]) (st := []) (zdk ttX11_glasses 120 rfl rfl) mb_X11_greater mv_RX11_418 (ci := 11) rfl rfl (k_M s1765) rfl rfl (Nat.le_of_ble_eq_true rfl) (s_X11_greater l h1764 0 (x1763 - v2052) s1765 (by omega) (by omega)) (rm_ok (by decide) (by decide)) (zq_i fun v2067 h2068 q2066 => ?_)
                                                  obtain ⟨rfl, b2069⟩ := q2066
                                                  have b2070 : -29 ≤ v2067 ∧ v2067 ≤ 29 := by omega
                                                  refine zj_istore (L' := [some (.inr 0), some (.inl p1), some (.inl p2), some (.inl p3), some (.inl x1762), some (.inl x76), some (.inl x1201), some (.inl x1763), some (.inl (h1764.2 27 (((961 * x76) + (31 * x1201)) + x1763))), some (.inl v2052), some (.inl v2062), some (.inl v2067)]) (zdk ttX11_glasses 121 rfl rfl) (by decide) rfl ?_
                                                  refine zj_aload_n (zdk ttX11_glasses 122 rfl rfl) rfl (by decide) ?_
                                                  refine zj_iload (zdk ttX11_glasses 123 rfl rfl) rfl ?_
                                                  refine zj_iload (zdk ttX11_glasses 124 rfl rfl) rfl ?_
                                                  refine zj_iadd (zdk ttX11_glasses 125 rfl rfl) ?_
                                                  refine zj_iload (zdk ttX11_glasses 126 rfl rfl) rfl ?_
                                                  refine zj_iload (zdk ttX11_glasses 127 rfl rfl) rfl ?_
                                                  refine zj_iload (zdk ttX11_glasses 128 rfl rfl) rfl ?_
                                                  refine zj_callV (av := [.inl (x76 + v2052), .inl v2062, .inl v2067, .inl (h1764.2 27 (((961 * x76) + (31 * x1201)) + x1763))]) (st := []) (zdk ttX11_glasses 129 rfl rfl) mb_X11_turns mv_RX11_421 (ci := 11) rfl rfl (k_M s1765) rfl rfl (Nat.le_of_ble_eq_true rfl) (s2_X11_turns l h1764 (x76 + v2052) v2062 v2067 (h1764.2 27 (((961 * x76) + (31 * x1201)) + x1763)) s1765 (by omega) (by omega) (by omega) (by omega)) (rm_ok (by decide) (by decide)) (zq_v fun h2073 q2071 => ?_)
                                                  obtain ⟨s2075, f2077, u2076⟩ := q2071
                                                  refine zj_aload_n (zdk ttX11_glasses 130 rfl rfl) rfl (by decide) ?_
                                                  refine zj_iload (zdk ttX11_glasses 131 rfl rfl) rfl ?_
                                                  refine zj_iload (zdk ttX11_glasses 132 rfl rfl) rfl ?_
                                                  refine zj_iadd (zdk ttX11_glasses 133 rfl rfl) ?_
                                                  refine zj_iload_n (zdk ttX11_glasses 134 rfl rfl) rfl ?_
                                                  refine zj_iload (zdk ttX11_glasses 135 rfl rfl) rfl ?_
                                                  refine zj_isub (zdk ttX11_glasses 136 rfl rfl) ?_
                                                  refine zj_iload (zdk ttX11_glasses 137 rfl rfl) rfl ?_
                                                  refine zj_iload (zdk ttX11_glasses 138 rfl rfl) rfl ?_
                                                  refine zj_iconst (zdk ttX11_glasses 139 rfl rfl) ?_
                                                  refine zj_iadd (zdk ttX11_glasses 140 rfl rfl) ?_
                                                  refine zj_callV (av := [.inl (x76 + v2052), .inl (p1 - v2062), .inl v2067, .inl ((h1764.2 27 (((961 * x76) + (31 * x1201)) + x1763)) + 1)]) (st := []) (zdk ttX11_glasses 141 rfl rfl) mb_X11_turns mv_RX11_421 (ci := 11) rfl rfl (k_M s2075) rfl rfl (Nat.le_of_ble_eq_true rfl) (s2_X11_turns l h2073 (x76 + v2052) (p1 - v2062) v2067 ((h1764.2 27 (((961 * x76) + (31 * x1201)) + x1763)) + 1) s2075 (by omega) (by omega) (by omega) (by omega)) (rm_ok (by decide) (by decide)) (zq_v fun h2080 q2078 => ?_)
                                                  obtain ⟨s2082, f2084, u2083⟩ := q2078
                                                  refine zj_aload_n (zdk ttX11_glasses 142 rfl rfl) rfl (by decide) ?_
                                                  refine zj_iload (zdk ttX11_glasses 143 rfl rfl) rfl ?_
                                                  refine zj_iload (zdk ttX11_glasses 144 rfl rfl) rfl ?_
                                                  refine zj_iadd (zdk ttX11_glasses 145 rfl rfl) ?_
                                                  refine zj_iload (zdk ttX11_glasses 146 rfl rfl) rfl ?_
                                                  refine zj_iload_n (zdk ttX11_glasses 147 rfl rfl) rfl ?_
                                                  refine zj_iload (zdk ttX11_glasses 148 rfl rfl) rfl ?_
                                                  refine zj_isub (zdk ttX11_glasses 149 rfl rfl) ?_
                                                  refine zj_iload (zdk ttX11_glasses 150 rfl rfl) rfl ?_
                                                  refine zj_iconst (zdk ttX11_glasses 151 rfl rfl) ?_
                                                  refine zj_iadd (zdk ttX11_glasses 152 rfl rfl) ?_
                                                  refine zj_callV (av := [.inl (x76 + v2052), .inl v2062, .inl (p2 - v2067), .inl ((h1764.2 27 (((961 * x76) + (31 * x1201)) + x1763)) + 1)]) (st := []) (zdk ttX11_glasses 153 rfl rfl) mb_X11_turns mv_RX11_421 (ci := 11) rfl rfl (k_M s2082) rfl rfl (Nat.le_of_ble_eq_true rfl) (s2_X11_turns l h2080 (x76 + v2052) v2062 (p2 - v2067) ((h1764.2 27 (((961 * x76) + (31 * x1201)) + x1763)) + 1) s2082 (by omega) (by omega) (by omega) (by omega)) (rm_ok (by decide) (by decide)) (zq_v fun h2087 q2085 => ?_)
                                                  obtain ⟨s2089, f2091, u2090⟩ := q2085
                                                  refine zj_aload_n (zdk ttX11_glasses 154 rfl rfl) rfl (by decide) ?_
                                                  refine zj_iload (zdk ttX11_glasses 155 rfl rfl) rfl ?_
                                                  refine zj_iload (zdk ttX11_glasses 156 rfl rfl) rfl ?_
                                                  refine zj_iadd (zdk ttX11_glasses 157 rfl rfl) ?_
                                                  refine zj_iload_n (zdk ttX11_glasses 158 rfl rfl) rfl ?_
                                                  refine zj_iload (zdk ttX11_glasses 159 rfl rfl) rfl ?_
                                                  refine zj_isub (zdk ttX11_glasses 160 rfl rfl) ?_
                                                  refine zj_iload_n (zdk ttX11_glasses 161 rfl rfl) rfl ?_
                                                  refine zj_iload (zdk ttX11_glasses 162 rfl rfl) rfl ?_
                                                  refine zj_isub (zdk ttX11_glasses 163 rfl rfl) ?_
                                                  refine zj_iload (zdk ttX11_glasses 164 rfl rfl) rfl ?_
                                                  refine zj_iconst (zdk ttX11_glasses 165 rfl rfl) ?_
                                                  refine zj_iadd (zdk ttX11_glasses 166 rfl rfl) ?_
                                                  refine zj_callV (av := [.inl (x76 + v2052), .inl (p1 - v2062), .inl (p2 - v2067), .inl ((h1764.2 27 (((961 * x76) + (31 * x1201)) + x1763)) + 2)]) (st := []) (zdk ttX11_glasses 167 rfl rfl) mb_X11_turns mv_RX11_421 (ci := 11) rfl rfl (k_M s2089) rfl rfl (Nat.le_of_ble_eq_true rfl) (s2_X11_turns l h2087 (x76 + v2052) (p1 - v2062) (p2 - v2067) ((h1764.2 27 (((961 * x76) + (31 * x1201)) + x1763)) + 2) s2089 (by omega) (by omega) (by omega) (by omega)) (rm_ok (by decide) (by decide)) (zq_v fun h2094 q2092 => ?_)
                                                  obtain ⟨s2096, f2098, u2097⟩ := q2092
                                                  refine zj_iinc (L' := [some (.inr 0), some (.inl p1), some (.inl p2), some (.inl p3), some (.inl x1762), some (.inl x76), some (.inl x1201), some (.inl (x1763 + 1)), some (.inl (h1764.2 27 (((961 * x76) + (31 * x1201)) + x1763))), some (.inl v2052), some (.inl v2062), some (.inl v2067)]) (zdk ttX11_glasses 168 rfl rfl) rfl (by decide) rfl ?_
                                                  refine zj_goto (t := 110) (zdk ttX11_glasses 169 rfl rfl) (by decide) ?_
                                                  refine zj_kill (k := 8) (L' := [some (.inr 0), some (.inl p1), some (.inl p2), some (.inl p3), some (.inl x1762), some (.inl x76), some (.inl x1201), some (.inl (x1763 + 1)), none, some (.inl v2052), some (.inl v2062), some (.inl v2067)]) rfl ?_
                                                  refine zj_kill (k := 9) (L' := [some (.inr 0), some (.inl p1), some (.inl p2), some (.inl p3), some (.inl x1762), some (.inl x76), some (.inl x1201), some (.inl (x1763 + 1)), none, none, some (.inl v2062), some (.inl v2067)]) rfl ?_
                                                  refine zj_kill (k := 10) (L' := [some (.inr 0), some (.inl p1), some (.inl p2), some (.inl p3), some (.inl x1762), some (.inl x76), some (.inl x1201), some (.inl (x1763 + 1)), none, none, none, some (.inl v2067)]) rfl ?_
                                                  refine zj_kill (k := 11) (L' := [some (.inr 0), some (.inl p1), some (.inl p2), some (.inl p3), some (.inl x1762), some (.inl x76), some (.inl x1201), some (.inl (x1763 + 1)), none, none, none, none]) rfl ?_
                                                  have f2102 : zfr [0] [27] h h2073 := zfr_t f1766 f2077 rfl rfl
                                                  have f2101 : zfr [0] [27] h h2080 := zfr_t f2102 f2084 rfl rfl
                                                  have f2100 : zfr [0] [27] h h2087 := zfr_t f2101 f2091 rfl rfl
                                                  have f2099 : zfr [0] [27] h h2094 := zfr_t f2100 f2098 rfl rfl
                                                  exact ih2041  x1762 (x1763 + 1) h2094 (by omega) (by omega) s2096 f2099 (hgG_u (c := (h1764.2 27 (((961 * x76) + (31 * x1201)) + x1763))) (r := v2052) (rx := v2062) (ry := v2067) u2038 (show (1 ≤ p1 ∧ p1 ≤ 30) ∧ (1 ≤ p2 ∧ p2 ≤ 30) by omega) (by omega) (by omega) (by omega) rfl (by omega) (by have r9 := hgr_f x1201 x1763; omega) (by omega) (by omega) (by have l9 := hgl_f x1201 v2052; omega) (by have l9 := hgl_f x1763 v2052; omega) u2076 u2083 u2090 u2097 (by omega)) (by omega) (by omega)
                                                · refine zj_aload_n (zdk ttX11_glasses 103 rfl rfl) rfl (by decide) ?_
                                                  refine zj_iload (zdk ttX11_glasses 104 rfl rfl) rfl ?_
                                                  refine zj_iload (zdk ttX11_glasses 105 rfl rfl) rfl ?_
                                                  refine zj_callV (av := [.inl x1762, .inl (h1764.2 27 (((961 * x76) + (31 * x1201)) + x1763))]) (st := []) (zdk ttX11_glasses 106 rfl rfl) mb_X11_lesser mv_RX11_371 (ci := 11) rfl rfl (k_M s1765) rfl rfl (Nat.le_of_ble_eq_true rfl) (s_X11_lesser l h1764 x1762 (h1764.2 27 (((961 * x76) + (31 * x1201)) + x1763)) s1765 (by omega) (by omega)) (rm_ok (by decide) (by decide)) (zq_i fun v2104 h2105 q2103 => ?_)
                                                  obtain ⟨rfl, b2106⟩ := q2103
                                                  have b2107 : -2147483648 ≤ v2104 ∧ v2104 ≤ 240 := by omega
                                                  refine zj_istore (L' := [some (.inr 0), some (.inl p1), some (.inl p2), some (.inl p3), some (.inl v2104), some (.inl x76), some (.inl x1201), some (.inl x1763), some (.inl (h1764.2 27 (((961 * x76) + (31 * x1201)) + x1763))), some (.inl v2052), none, none]) (zdk ttX11_glasses 107 rfl rfl) (by decide) rfl ?_
                                                  refine zj_aload_n (zdk ttX11_glasses 108 rfl rfl) rfl (by decide) ?_
                                                  refine zj_iconst (zdk ttX11_glasses 109 rfl rfl) ?_
                                                  refine zj_iload (zdk ttX11_glasses 110 rfl rfl) rfl ?_
                                                  refine zj_iload (zdk ttX11_glasses 111 rfl rfl) rfl ?_
                                                  refine zj_isub (zdk ttX11_glasses 112 rfl rfl) ?_
                                                  refine zj_callV (av := [.inl 0, .inl (x1201 - v2052)]) (st := []) (zdk ttX11_glasses 113 rfl rfl) mb_X11_greater mv_RX11_418 (ci := 11) rfl rfl (k_M s1765) rfl rfl (Nat.le_of_ble_eq_true rfl) (s_X11_greater l h1764 0 (x1201 - v2052) s1765 (by omega) (by omega)) (rm_ok (by decide) (by decide)) (zq_i fun v2109 h2110 q2108 => ?_)
                                                  obtain ⟨rfl, b2111⟩ := q2108
                                                  have b2112 : -29 ≤ v2109 ∧ v2109 ≤ 29 := by omega
                                                  refine zj_istore (L' := [some (.inr 0), some (.inl p1), some (.inl p2), some (.inl p3), some (.inl v2104), some (.inl x76), some (.inl x1201), some (.inl x1763), some (.inl (h1764.2 27 (((961 * x76) + (31 * x1201)) + x1763))), some (.inl v2052), some (.inl v2109), none]) (zdk ttX11_glasses 114 rfl rfl) (by decide) rfl ?_
                                                  refine zj_aload_n (zdk ttX11_glasses 115 rfl rfl) rfl (by decide) ?_
                                                  refine zj_iconst (zdk ttX11_glasses 116 rfl rfl) ?_
                                                  refine zj_iload (zdk ttX11_glasses 117 rfl rfl) rfl ?_
                                                  refine zj_iload (zdk ttX11_glasses 118 rfl rfl) rfl ?_
                                                  refine zj_isub (zdk ttX11_glasses 119 rfl rfl) ?_
                                                  refine zj_callV (av := [.inl 0, .inl (x1763 - v2052)]) (st := []) (zdk ttX11_glasses 120 rfl rfl) mb_X11_greater mv_RX11_418 (ci := 11) rfl rfl (k_M s1765) rfl rfl (Nat.le_of_ble_eq_true rfl) (s_X11_greater l h1764 0 (x1763 - v2052) s1765 (by omega) (by omega)) (rm_ok (by decide) (by decide)) (zq_i fun v2114 h2115 q2113 => ?_)
                                                  obtain ⟨rfl, b2116⟩ := q2113
                                                  have b2117 : -29 ≤ v2114 ∧ v2114 ≤ 29 := by omega
                                                  refine zj_istore (L' := [some (.inr 0), some (.inl p1), some (.inl p2), some (.inl p3), some (.inl v2104), some (.inl x76), some (.inl x1201), some (.inl x1763), some (.inl (h1764.2 27 (((961 * x76) + (31 * x1201)) + x1763))), some (.inl v2052), some (.inl v2109), some (.inl v2114)]) (zdk ttX11_glasses 121 rfl rfl) (by decide) rfl ?_
                                                  refine zj_aload_n (zdk ttX11_glasses 122 rfl rfl) rfl (by decide) ?_
                                                  refine zj_iload (zdk ttX11_glasses 123 rfl rfl) rfl ?_
                                                  refine zj_iload (zdk ttX11_glasses 124 rfl rfl) rfl ?_
                                                  refine zj_iadd (zdk ttX11_glasses 125 rfl rfl) ?_
                                                  refine zj_iload (zdk ttX11_glasses 126 rfl rfl) rfl ?_
                                                  refine zj_iload (zdk ttX11_glasses 127 rfl rfl) rfl ?_
                                                  refine zj_iload (zdk ttX11_glasses 128 rfl rfl) rfl ?_
                                                  refine zj_callV (av := [.inl (x76 + v2052), .inl v2109, .inl v2114, .inl (h1764.2 27 (((961 * x76) + (31 * x1201)) + x1763))]) (st := []) (zdk ttX11_glasses 129 rfl rfl) mb_X11_turns mv_RX11_421 (ci := 11) rfl rfl (k_M s1765) rfl rfl (Nat.le_of_ble_eq_true rfl) (s2_X11_turns l h1764 (x76 + v2052) v2109 v2114 (h1764.2 27 (((961 * x76) + (31 * x1201)) + x1763)) s1765 (by omega) (by omega) (by omega) (by omega)) (rm_ok (by decide) (by decide)) (zq_v fun h2120 q2118 => ?_)
                                                  obtain ⟨s2122, f2124, u2123⟩ := q2118
                                                  refine zj_aload_n (zdk ttX11_glasses 130 rfl rfl) rfl (by decide) ?_
                                                  refine zj_iload (zdk ttX11_glasses 131 rfl rfl) rfl ?_
                                                  refine zj_iload (zdk ttX11_glasses 132 rfl rfl) rfl ?_
                                                  refine zj_iadd (zdk ttX11_glasses 133 rfl rfl) ?_
                                                  refine zj_iload_n (zdk ttX11_glasses 134 rfl rfl) rfl ?_
                                                  refine zj_iload (zdk ttX11_glasses 135 rfl rfl) rfl ?_
                                                  refine zj_isub (zdk ttX11_glasses 136 rfl rfl) ?_
                                                  refine zj_iload (zdk ttX11_glasses 137 rfl rfl) rfl ?_
                                                  refine zj_iload (zdk ttX11_glasses 138 rfl rfl) rfl ?_
                                                  refine zj_iconst (zdk ttX11_glasses 139 rfl rfl) ?_
                                                  refine zj_iadd (zdk ttX11_glasses 140 rfl rfl) ?_
                                                  refine zj_callV (av := [.inl (x76 + v2052), .inl (p1 - v2109), .inl v2114, .inl ((h1764.2 27 (((961 * x76) + (31 * x1201)) + x1763)) + 1)]) (st := []) (zdk ttX11_glasses 141 rfl rfl) mb_X11_turns mv_RX11_421 (ci := 11) rfl rfl (k_M s2122) rfl rfl (Nat.le_of_ble_eq_true rfl) (s2_X11_turns l h2120 (x76 + v2052) (p1 - v2109) v2114 ((h1764.2 27 (((961 * x76) + (31 * x1201)) + x1763)) + 1) s2122 (by omega) (by omega) (by omega) (by omega)) (rm_ok (by decide) (by decide)) (zq_v fun h2127 q2125 => ?_)
                                                  obtain ⟨s2129, f2131, u2130⟩ := q2125
                                                  refine zj_aload_n (zdk ttX11_glasses 142 rfl rfl) rfl (by decide) ?_
                                                  refine zj_iload (zdk ttX11_glasses 143 rfl rfl) rfl ?_
                                                  refine zj_iload (zdk ttX11_glasses 144 rfl rfl) rfl ?_
                                                  refine zj_iadd (zdk ttX11_glasses 145 rfl rfl) ?_
                                                  refine zj_iload (zdk ttX11_glasses 146 rfl rfl) rfl ?_
                                                  refine zj_iload_n (zdk ttX11_glasses 147 rfl rfl) rfl ?_
                                                  refine zj_iload (zdk ttX11_glasses 148 rfl rfl) rfl ?_
                                                  refine zj_isub (zdk ttX11_glasses 149 rfl rfl) ?_
                                                  refine zj_iload (zdk ttX11_glasses 150 rfl rfl) rfl ?_
                                                  refine zj_iconst (zdk ttX11_glasses 151 rfl rfl) ?_
                                                  refine zj_iadd (zdk ttX11_glasses 152 rfl rfl) ?_
                                                  refine zj_callV (av := [.inl (x76 + v2052), .inl v2109, .inl (p2 - v2114), .inl ((h1764.2 27 (((961 * x76) + (31 * x1201)) + x1763)) + 1)]) (st := []) (zdk ttX11_glasses 153 rfl rfl) mb_X11_turns mv_RX11_421 (ci := 11) rfl rfl (k_M s2129) rfl rfl (Nat.le_of_ble_eq_true rfl) (s2_X11_turns l h2127 (x76 + v2052) v2109 (p2 - v2114) ((h1764.2 27 (((961 * x76) + (31 * x1201)) + x1763)) + 1) s2129 (by omega) (by omega) (by omega) (by omega)) (rm_ok (by decide) (by decide)) (zq_v fun h2134 q2132 => ?_)
                                                  obtain ⟨s2136, f2138, u2137⟩ := q2132
                                                  refine zj_aload_n (zdk ttX11_glasses 154 rfl rfl) rfl (by decide) ?_
                                                  refine zj_iload (zdk ttX11_glasses 155 rfl rfl) rfl ?_
                                                  refine zj_iload (zdk ttX11_glasses 156 rfl rfl) rfl ?_
                                                  refine zj_iadd (zdk ttX11_glasses 157 rfl rfl) ?_
                                                  refine zj_iload_n (zdk ttX11_glasses 158 rfl rfl) rfl ?_
                                                  refine zj_iload (zdk ttX11_glasses 159 rfl rfl) rfl ?_
                                                  refine zj_isub (zdk ttX11_glasses 160 rfl rfl) ?_
                                                  refine zj_iload_n (zdk ttX11_glasses 161 rfl rfl) rfl ?_
                                                  refine zj_iload (zdk ttX11_glasses 162 rfl rfl) rfl ?_
                                                  refine zj_isub (zdk ttX11_glasses 163 rfl rfl) ?_
                                                  refine zj_iload (zdk ttX11_glasses 164 rfl rfl) rfl ?_
                                                  refine zj_iconst (zdk ttX11_glasses 165 rfl rfl) ?_
                                                  refine zj_iadd (zdk ttX11_glasses 166 rfl rfl) ?_
                                                  refine zj_callV (av := [.inl (x76 + v2052), .inl (p1 - v2109), .inl (p2 - v2114), .inl ((h1764.2 27 (((961 * x76) + (31 * x1201)) + x1763)) + 2)]) (st := []) (zdk ttX11_glasses 167 rfl rfl) mb_X11_turns mv_RX11_421 (ci := 11) rfl rfl (k_M s2136) rfl rfl (Nat.le_of_ble_eq_true rfl) (s2_X11_turns l h2134 (x76 + v2052) (p1 - v2109) (p2 - v2114) ((h1764.2 27 (((961 * x76) + (31 * x1201)) + x1763)) + 2) s2136 (by omega) (by omega) (by omega) (by omega)) (rm_ok (by decide) (by decide)) (zq_v fun h2141 q2139 => ?_)
                                                  obtain ⟨s2143, f2145, u2144⟩ := q2139
                                                  refine zj_iinc (L' := [some (.inr 0), some (.inl p1), some (.inl p2), some (.inl p3), some (.inl v2104), some (.inl x76), some (.inl x1201), some (.inl (x1763 + 1)), some (.inl (h1764.2 27 (((961 * x76) + (31 * x1201)) + x1763))), some (.inl v2052), some (.inl v2109), some (.inl v2114)]) (zdk ttX11_glasses 168 rfl rfl) rfl (by decide) rfl ?_
                                                  refine zj_goto (t := 110) (zdk ttX11_glasses 169 rfl rfl) (by decide) ?_
                                                  refine zj_kill (k := 8) (L' := [some (.inr 0), some (.inl p1), some (.inl p2), some (.inl p3), some (.inl v2104), some (.inl x76), some (.inl x1201), some (.inl (x1763 + 1)), none, some (.inl v2052), some (.inl v2109), some (.inl v2114)]) rfl ?_
                                                  refine zj_kill (k := 9) (L' := [some (.inr 0), some (.inl p1), some (.inl p2), some (.inl p3), some (.inl v2104), some (.inl x76), some (.inl x1201), some (.inl (x1763 + 1)), none, none, some (.inl v2109), some (.inl v2114)]) rfl ?_
                                                  refine zj_kill (k := 10) (L' := [some (.inr 0), some (.inl p1), some (.inl p2), some (.inl p3), some (.inl v2104), some (.inl x76), some (.inl x1201), some (.inl (x1763 + 1)), none, none, none, some (.inl v2114)]) rfl ?_
                                                  refine zj_kill (k := 11) (L' := [some (.inr 0), some (.inl p1), some (.inl p2), some (.inl p3), some (.inl v2104), some (.inl x76), some (.inl x1201), some (.inl (x1763 + 1)), none, none, none, none]) rfl ?_
                                                  have f2149 : zfr [0] [27] h h2120 := zfr_t f1766 f2124 rfl rfl
                                                  have f2148 : zfr [0] [27] h h2127 := zfr_t f2149 f2131 rfl rfl
                                                  have f2147 : zfr [0] [27] h h2134 := zfr_t f2148 f2138 rfl rfl
                                                  have f2146 : zfr [0] [27] h h2141 := zfr_t f2147 f2145 rfl rfl
                                                  exact ih2041  v2104 (x1763 + 1) h2141 (by omega) (by omega) s2143 f2146 (hgG_u (c := (h1764.2 27 (((961 * x76) + (31 * x1201)) + x1763))) (r := v2052) (rx := v2109) (ry := v2114) u2038 (show (1 ≤ p1 ∧ p1 ≤ 30) ∧ (1 ≤ p2 ∧ p2 ≤ 30) by omega) (by omega) (by omega) (by omega) rfl (by omega) (by have r9 := hgr_f x1201 x1763; omega) (by omega) (by omega) (by have l9 := hgl_f x1201 v2052; omega) (by have l9 := hgl_f x1763 v2052; omega) u2123 u2130 u2137 u2144 (by omega)) (by omega) (by omega)
                                              · refine zj_goto (t := 305) (zdk ttX11_glasses 97 rfl rfl) (by decide) ?_
                                                refine zj_iinc (L' := [some (.inr 0), some (.inl p1), some (.inl p2), some (.inl p3), some (.inl x1762), some (.inl x76), some (.inl x1201), some (.inl (x1763 + 1)), some (.inl (h1764.2 27 (((961 * x76) + (31 * x1201)) + x1763))), some (.inl v2052), none, none]) (zdk ttX11_glasses 168 rfl rfl) rfl (by decide) rfl ?_
                                                refine zj_goto (t := 110) (zdk ttX11_glasses 169 rfl rfl) (by decide) ?_
                                                refine zj_kill (k := 8) (L' := [some (.inr 0), some (.inl p1), some (.inl p2), some (.inl p3), some (.inl x1762), some (.inl x76), some (.inl x1201), some (.inl (x1763 + 1)), none, some (.inl v2052), none, none]) rfl ?_
                                                refine zj_kill (k := 9) (L' := [some (.inr 0), some (.inl p1), some (.inl p2), some (.inl p3), some (.inl x1762), some (.inl x76), some (.inl x1201), some (.inl (x1763 + 1)), none, none, none, none]) rfl ?_
                                                exact ih2041  x1762 (x1763 + 1) h1764 (by omega) (by omega) s1765 f1766 (hgG_k u2038 (by have r9 := hgr_f x1201 x1763; omega)) (by omega) (by omega)
                                        · refine zj_iload (zdk ttX11_glasses 80 rfl rfl) rfl ?_
                                          refine zj_goto (t := 161) (zdk ttX11_glasses 81 rfl rfl) (by decide) ?_
                                          refine zj_istore (L' := [some (.inr 0), some (.inl p1), some (.inl p2), some (.inl p3), some (.inl x1762), some (.inl x76), some (.inl x1201), some (.inl x1763), some (.inl (h1764.2 27 (((961 * x76) + (31 * x1201)) + x1763))), some (.inl x1201), none, none]) (zdk ttX11_glasses 86 rfl rfl) (by decide) rfl ?_
                                          refine zj_iload (zdk ttX11_glasses 87 rfl rfl) rfl ?_
                                          refine zj_ldc_w (z := 100000000) (zdk ttX11_glasses 88 rfl rfl) wc_RX11_411 ?_
                                          refine zj_icmp_eq (t := 305) (zdk ttX11_glasses 89 rfl rfl) (by decide) (by omega) (by decide) (fun c2150 => ?_) (fun c2150 => ?_)
                                          · refine zj_iinc (L' := [some (.inr 0), some (.inl p1), some (.inl p2), some (.inl p3), some (.inl x1762), some (.inl x76), some (.inl x1201), some (.inl (x1763 + 1)), some (.inl (h1764.2 27 (((961 * x76) + (31 * x1201)) + x1763))), some (.inl x1201), none, none]) (zdk ttX11_glasses 168 rfl rfl) rfl (by decide) rfl ?_
                                            refine zj_goto (t := 110) (zdk ttX11_glasses 169 rfl rfl) (by decide) ?_
                                            refine zj_kill (k := 8) (L' := [some (.inr 0), some (.inl p1), some (.inl p2), some (.inl p3), some (.inl x1762), some (.inl x76), some (.inl x1201), some (.inl (x1763 + 1)), none, some (.inl x1201), none, none]) rfl ?_
                                            refine zj_kill (k := 9) (L' := [some (.inr 0), some (.inl p1), some (.inl p2), some (.inl p3), some (.inl x1762), some (.inl x76), some (.inl x1201), some (.inl (x1763 + 1)), none, none, none, none]) rfl ?_
                                            exact ih2041  x1762 (x1763 + 1) h1764 (by omega) (by omega) s1765 f1766 (hgG_k u2038 (by have r9 := hgr_f x1201 x1763; omega)) (by omega) (by omega)
                                          · refine zj_iload (zdk ttX11_glasses 90 rfl rfl) rfl ?_
                                            refine zj_if_eq (t := 305) (zdk ttX11_glasses 91 rfl rfl) (by decide) (by omega) (fun c2151 => ?_) (fun c2151 => ?_)
                                            · exact absurd c2151 (by omega)
                                            · refine zj_iload (zdk ttX11_glasses 92 rfl rfl) rfl ?_
                                              refine zj_iload (zdk ttX11_glasses 93 rfl rfl) rfl ?_
                                              refine zj_iadd (zdk ttX11_glasses 94 rfl rfl) ?_
                                              refine zj_iload_n (zdk ttX11_glasses 95 rfl rfl) rfl ?_
                                              refine zj_icmp_le (t := 188) (zdk ttX11_glasses 96 rfl rfl) (by decide) (by omega) (by omega) (fun c2152 => ?_) (fun c2152 => ?_)
                                              · have b2153 := hgS_b (by omega) (by omega) (u2038.1 x76 x1201 x1763 (by omega) (by omega) (by omega) (show ¬ (h1764.2 27 (((961 * x76) + (31 * x1201)) + x1763)) = 100000000 by omega))
                                                have b2153c : 0 ≤ (h1764.2 27 (((961 * x76) + (31 * x1201)) + x1763)) ∧ (h1764.2 27 (((961 * x76) + (31 * x1201)) + x1763)) ≤ 240 := by have z9 : 0 ≤ (h1764.2 27 (((961 * x76) + (31 * x1201)) + x1763)) ∧ (h1764.2 27 (((961 * x76) + (31 * x1201)) + x1763)) ≤ 2 * x76 := b2153.2.2.2; omega
                                                refine zj_iload (zdk ttX11_glasses 98 rfl rfl) rfl ?_
                                                refine zj_iload (zdk ttX11_glasses 99 rfl rfl) rfl ?_
                                                refine zj_iadd (zdk ttX11_glasses 100 rfl rfl) ?_
                                                refine zj_iload_n (zdk ttX11_glasses 101 rfl rfl) rfl ?_
                                                refine zj_icmp_ne (t := 207) (zdk ttX11_glasses 102 rfl rfl) (by decide) (by omega) (by omega) (fun c2154 => ?_) (fun c2154 => ?_)
                                                · refine zj_aload_n (zdk ttX11_glasses 108 rfl rfl) rfl (by decide) ?_
                                                  refine zj_iconst (zdk ttX11_glasses 109 rfl rfl) ?_
                                                  refine zj_iload (zdk ttX11_glasses 110 rfl rfl) rfl ?_
                                                  refine zj_iload (zdk ttX11_glasses 111 rfl rfl) rfl ?_
                                                  refine zj_isub (zdk ttX11_glasses 112 rfl rfl) ?_
                                                  refine zj_callV (av := [.inl 0, .inl (x1201 - x1201)]) (st := []) (zdk ttX11_glasses 113 rfl rfl) mb_X11_greater mv_RX11_418 (ci := 11) rfl rfl (k_M s1765) rfl rfl (Nat.le_of_ble_eq_true rfl) (s_X11_greater l h1764 0 (x1201 - x1201) s1765 (by omega) (by omega)) (rm_ok (by decide) (by decide)) (zq_i fun v2156 h2157 q2155 => ?_)
                                                  obtain ⟨rfl, b2158⟩ := q2155
                                                  have b2159 : 0 ≤ v2156 ∧ v2156 ≤ 0 := by omega
                                                  refine zj_istore (L' := [some (.inr 0), some (.inl p1), some (.inl p2), some (.inl p3), some (.inl x1762), some (.inl x76), some (.inl x1201), some (.inl x1763), some (.inl (h1764.2 27 (((961 * x76) + (31 * x1201)) + x1763))), some (.inl x1201), some (.inl v2156), none]) (zdk ttX11_glasses 114 rfl rfl) (by decide) rfl ?_
                                                  refine zj_aload_n (zdk ttX11_glasses 115 rfl rfl) rfl (by decide) ?_
                                                  refine zj_iconst (zdk ttX11_glasses 116 rfl rfl) ?_
                                                  refine zj_iload (zdk ttX11_glasses 117 rfl rfl) rfl ?_
                                                  refine zj_iload (zdk ttX11_glasses 118 rfl rfl) rfl ?_
                                                  refine zj_isub (zdk ttX11_glasses 119 rfl rfl) ?_
                                                  refine zj_callV (av := [.inl 0, .inl (x1763 - x1201)]) (st := []) (zdk ttX11_glasses 120 rfl rfl) mb_X11_greater mv_RX11_418 (ci := 11) rfl rfl (k_M s1765) rfl rfl (Nat.le_of_ble_eq_true rfl) (s_X11_greater l h1764 0 (x1763 - x1201) s1765 (by omega) (by omega)) (rm_ok (by decide) (by decide)) (zq_i fun v2161 h2162 q2160 => ?_)
                                                  obtain ⟨rfl, b2163⟩ := q2160
                                                  have b2164 : 0 ≤ v2161 ∧ v2161 ≤ 0 := by omega
                                                  refine zj_istore (L' := [some (.inr 0), some (.inl p1), some (.inl p2), some (.inl p3), some (.inl x1762), some (.inl x76), some (.inl x1201), some (.inl x1763), some (.inl (h1764.2 27 (((961 * x76) + (31 * x1201)) + x1763))), some (.inl x1201), some (.inl v2156), some (.inl v2161)]) (zdk ttX11_glasses 121 rfl rfl) (by decide) rfl ?_
                                                  refine zj_aload_n (zdk ttX11_glasses 122 rfl rfl) rfl (by decide) ?_
                                                  refine zj_iload (zdk ttX11_glasses 123 rfl rfl) rfl ?_
                                                  refine zj_iload (zdk ttX11_glasses 124 rfl rfl) rfl ?_
                                                  refine zj_iadd (zdk ttX11_glasses 125 rfl rfl) ?_
                                                  refine zj_iload (zdk ttX11_glasses 126 rfl rfl) rfl ?_
                                                  refine zj_iload (zdk ttX11_glasses 127 rfl rfl) rfl ?_
                                                  refine zj_iload (zdk ttX11_glasses 128 rfl rfl) rfl ?_
                                                  refine zj_callV (av := [.inl (x76 + x1201), .inl v2156, .inl v2161, .inl (h1764.2 27 (((961 * x76) + (31 * x1201)) + x1763))]) (st := []) (zdk ttX11_glasses 129 rfl rfl) mb_X11_turns mv_RX11_421 (ci := 11) rfl rfl (k_M s1765) rfl rfl (Nat.le_of_ble_eq_true rfl) (s2_X11_turns l h1764 (x76 + x1201) v2156 v2161 (h1764.2 27 (((961 * x76) + (31 * x1201)) + x1763)) s1765 (by omega) (by omega) (by omega) (by omega)) (rm_ok (by decide) (by decide)) (zq_v fun h2167 q2165 => ?_)
                                                  obtain ⟨s2169, f2171, u2170⟩ := q2165
                                                  refine zj_aload_n (zdk ttX11_glasses 130 rfl rfl) rfl (by decide) ?_
                                                  refine zj_iload (zdk ttX11_glasses 131 rfl rfl) rfl ?_
                                                  refine zj_iload (zdk ttX11_glasses 132 rfl rfl) rfl ?_
                                                  refine zj_iadd (zdk ttX11_glasses 133 rfl rfl) ?_
                                                  refine zj_iload_n (zdk ttX11_glasses 134 rfl rfl) rfl ?_
                                                  refine zj_iload (zdk ttX11_glasses 135 rfl rfl) rfl ?_
                                                  refine zj_isub (zdk ttX11_glasses 136 rfl rfl) ?_
                                                  refine zj_iload (zdk ttX11_glasses 137 rfl rfl) rfl ?_
                                                  refine zj_iload (zdk ttX11_glasses 138 rfl rfl) rfl ?_
                                                  refine zj_iconst (zdk ttX11_glasses 139 rfl rfl) ?_
                                                  refine zj_iadd (zdk ttX11_glasses 140 rfl rfl) ?_
                                                  refine zj_callV (av := [.inl (x76 + x1201), .inl (p1 - v2156), .inl v2161, .inl ((h1764.2 27 (((961 * x76) + (31 * x1201)) + x1763)) + 1)]) (st := []) (zdk ttX11_glasses 141 rfl rfl) mb_X11_turns mv_RX11_421 (ci := 11) rfl rfl (k_M s2169) rfl rfl (Nat.le_of_ble_eq_true rfl) (s2_X11_turns l h2167 (x76 + x1201) (p1 - v2156) v2161 ((h1764.2 27 (((961 * x76) + (31 * x1201)) + x1763)) + 1) s2169 (by omega) (by omega) (by omega) (by omega)) (rm_ok (by decide) (by decide)) (zq_v fun h2174 q2172 => ?_)
                                                  obtain ⟨s2176, f2178, u2177⟩ := q2172
                                                  refine zj_aload_n (zdk ttX11_glasses 142 rfl rfl) rfl (by decide) ?_
                                                  refine zj_iload (zdk ttX11_glasses 143 rfl rfl) rfl ?_
                                                  refine zj_iload (zdk ttX11_glasses 144 rfl rfl) rfl ?_
                                                  refine zj_iadd (zdk ttX11_glasses 145 rfl rfl) ?_
                                                  refine zj_iload (zdk ttX11_glasses 146 rfl rfl) rfl ?_
                                                  refine zj_iload_n (zdk ttX11_glasses 147 rfl rfl) rfl ?_
                                                  refine zj_iload (zdk ttX11_glasses 148 rfl rfl) rfl ?_
                                                  refine zj_isub (zdk ttX11_glasses 149 rfl rfl) ?_
                                                  refine zj_iload (zdk ttX11_glasses 150 rfl rfl) rfl ?_
                                                  refine zj_iconst (zdk ttX11_glasses 151 rfl rfl) ?_
                                                  refine zj_iadd (zdk ttX11_glasses 152 rfl rfl) ?_
                                                  refine zj_callV (av := [.inl (x76 + x1201), .inl v2156, .inl (p2 - v2161), .inl ((h1764.2 27 (((961 * x76) + (31 * x1201)) + x1763)) + 1)]) (st := []) (zdk ttX11_glasses 153 rfl rfl) mb_X11_turns mv_RX11_421 (ci := 11) rfl rfl (k_M s2176) rfl rfl (Nat.le_of_ble_eq_true rfl) (s2_X11_turns l h2174 (x76 + x1201) v2156 (p2 - v2161) ((h1764.2 27 (((961 * x76) + (31 * x1201)) + x1763)) + 1) s2176 (by omega) (by omega) (by omega) (by omega)) (rm_ok (by decide) (by decide)) (zq_v fun h2181 q2179 => ?_)
                                                  obtain ⟨s2183, f2185, u2184⟩ := q2179
                                                  refine zj_aload_n (zdk ttX11_glasses 154 rfl rfl) rfl (by decide) ?_
                                                  refine zj_iload (zdk ttX11_glasses 155 rfl rfl) rfl ?_
                                                  refine zj_iload (zdk ttX11_glasses 156 rfl rfl) rfl ?_
                                                  refine zj_iadd (zdk ttX11_glasses 157 rfl rfl) ?_
                                                  refine zj_iload_n (zdk ttX11_glasses 158 rfl rfl) rfl ?_
                                                  refine zj_iload (zdk ttX11_glasses 159 rfl rfl) rfl ?_
                                                  refine zj_isub (zdk ttX11_glasses 160 rfl rfl) ?_
                                                  refine zj_iload_n (zdk ttX11_glasses 161 rfl rfl) rfl ?_
                                                  refine zj_iload (zdk ttX11_glasses 162 rfl rfl) rfl ?_
                                                  refine zj_isub (zdk ttX11_glasses 163 rfl rfl) ?_
                                                  refine zj_iload (zdk ttX11_glasses 164 rfl rfl) rfl ?_
                                                  refine zj_iconst (zdk ttX11_glasses 165 rfl rfl) ?_
                                                  refine zj_iadd (zdk ttX11_glasses 166 rfl rfl) ?_
                                                  refine zj_callV (av := [.inl (x76 + x1201), .inl (p1 - v2156), .inl (p2 - v2161), .inl ((h1764.2 27 (((961 * x76) + (31 * x1201)) + x1763)) + 2)]) (st := []) (zdk ttX11_glasses 167 rfl rfl) mb_X11_turns mv_RX11_421 (ci := 11) rfl rfl (k_M s2183) rfl rfl (Nat.le_of_ble_eq_true rfl) (s2_X11_turns l h2181 (x76 + x1201) (p1 - v2156) (p2 - v2161) ((h1764.2 27 (((961 * x76) + (31 * x1201)) + x1763)) + 2) s2183 (by omega) (by omega) (by omega) (by omega)) (rm_ok (by decide) (by decide)) (zq_v fun h2188 q2186 => ?_)
                                                  obtain ⟨s2190, f2192, u2191⟩ := q2186
                                                  refine zj_iinc (L' := [some (.inr 0), some (.inl p1), some (.inl p2), some (.inl p3), some (.inl x1762), some (.inl x76), some (.inl x1201), some (.inl (x1763 + 1)), some (.inl (h1764.2 27 (((961 * x76) + (31 * x1201)) + x1763))), some (.inl x1201), some (.inl v2156), some (.inl v2161)]) (zdk ttX11_glasses 168 rfl rfl) rfl (by decide) rfl ?_
                                                  refine zj_goto (t := 110) (zdk ttX11_glasses 169 rfl rfl) (by decide) ?_
                                                  refine zj_kill (k := 8) (L' := [some (.inr 0), some (.inl p1), some (.inl p2), some (.inl p3), some (.inl x1762), some (.inl x76), some (.inl x1201), some (.inl (x1763 + 1)), none, some (.inl x1201), some (.inl v2156), some (.inl v2161)]) rfl ?_
                                                  refine zj_kill (k := 9) (L' := [some (.inr 0), some (.inl p1), some (.inl p2), some (.inl p3), some (.inl x1762), some (.inl x76), some (.inl x1201), some (.inl (x1763 + 1)), none, none, some (.inl v2156), some (.inl v2161)]) rfl ?_
                                                  refine zj_kill (k := 10) (L' := [some (.inr 0), some (.inl p1), some (.inl p2), some (.inl p3), some (.inl x1762), some (.inl x76), some (.inl x1201), some (.inl (x1763 + 1)), none, none, none, some (.inl v2161)]) rfl ?_
                                                  refine zj_kill (k := 11) (L' := [some (.inr 0), some (.inl p1), some (.inl p2), some (.inl p3), some (.inl x1762), some (.inl x76), some (.inl x1201), some (.inl (x1763 + 1)), none, none, none, none]) rfl ?_
                                                  have f2196 : zfr [0] [27] h h2167 := zfr_t f1766 f2171 rfl rfl
                                                  have f2195 : zfr [0] [27] h h2174 := zfr_t f2196 f2178 rfl rfl
                                                  have f2194 : zfr [0] [27] h h2181 := zfr_t f2195 f2185 rfl rfl
                                                  have f2193 : zfr [0] [27] h h2188 := zfr_t f2194 f2192 rfl rfl
                                                  exact ih2041  x1762 (x1763 + 1) h2188 (by omega) (by omega) s2190 f2193 (hgG_u (c := (h1764.2 27 (((961 * x76) + (31 * x1201)) + x1763))) (r := x1201) (rx := v2156) (ry := v2161) u2038 (show (1 ≤ p1 ∧ p1 ≤ 30) ∧ (1 ≤ p2 ∧ p2 ≤ 30) by omega) (by omega) (by omega) (by omega) rfl (by omega) (by have r9 := hgr_f x1201 x1763; omega) (by omega) (by omega) (by have l9 := hgl_f x1201 x1201; omega) (by have l9 := hgl_f x1763 x1201; omega) u2170 u2177 u2184 u2191 (by omega)) (by omega) (by omega)
                                                · refine zj_aload_n (zdk ttX11_glasses 103 rfl rfl) rfl (by decide) ?_
                                                  refine zj_iload (zdk ttX11_glasses 104 rfl rfl) rfl ?_
                                                  refine zj_iload (zdk ttX11_glasses 105 rfl rfl) rfl ?_
                                                  refine zj_callV (av := [.inl x1762, .inl (h1764.2 27 (((961 * x76) + (31 * x1201)) + x1763))]) (st := []) (zdk ttX11_glasses 106 rfl rfl) mb_X11_lesser mv_RX11_371 (ci := 11) rfl rfl (k_M s1765) rfl rfl (Nat.le_of_ble_eq_true rfl) (s_X11_lesser l h1764 x1762 (h1764.2 27 (((961 * x76) + (31 * x1201)) + x1763)) s1765 (by omega) (by omega)) (rm_ok (by decide) (by decide)) (zq_i fun v2198 h2199 q2197 => ?_)
                                                  obtain ⟨rfl, b2200⟩ := q2197
                                                  have b2201 : -2147483648 ≤ v2198 ∧ v2198 ≤ 240 := by omega
                                                  refine zj_istore (L' := [some (.inr 0), some (.inl p1), some (.inl p2), some (.inl p3), some (.inl v2198), some (.inl x76), some (.inl x1201), some (.inl x1763), some (.inl (h1764.2 27 (((961 * x76) + (31 * x1201)) + x1763))), some (.inl x1201), none, none]) (zdk ttX11_glasses 107 rfl rfl) (by decide) rfl ?_
                                                  refine zj_aload_n (zdk ttX11_glasses 108 rfl rfl) rfl (by decide) ?_
                                                  refine zj_iconst (zdk ttX11_glasses 109 rfl rfl) ?_
                                                  refine zj_iload (zdk ttX11_glasses 110 rfl rfl) rfl ?_
                                                  refine zj_iload (zdk ttX11_glasses 111 rfl rfl) rfl ?_
                                                  refine zj_isub (zdk ttX11_glasses 112 rfl rfl) ?_
                                                  refine zj_callV (av := [.inl 0, .inl (x1201 - x1201)]) (st := []) (zdk ttX11_glasses 113 rfl rfl) mb_X11_greater mv_RX11_418 (ci := 11) rfl rfl (k_M s1765) rfl rfl (Nat.le_of_ble_eq_true rfl) (s_X11_greater l h1764 0 (x1201 - x1201) s1765 (by omega) (by omega)) (rm_ok (by decide) (by decide)) (zq_i fun v2203 h2204 q2202 => ?_)
                                                  obtain ⟨rfl, b2205⟩ := q2202
                                                  have b2206 : 0 ≤ v2203 ∧ v2203 ≤ 0 := by omega
                                                  refine zj_istore (L' := [some (.inr 0), some (.inl p1), some (.inl p2), some (.inl p3), some (.inl v2198), some (.inl x76), some (.inl x1201), some (.inl x1763), some (.inl (h1764.2 27 (((961 * x76) + (31 * x1201)) + x1763))), some (.inl x1201), some (.inl v2203), none]) (zdk ttX11_glasses 114 rfl rfl) (by decide) rfl ?_
                                                  refine zj_aload_n (zdk ttX11_glasses 115 rfl rfl) rfl (by decide) ?_
                                                  refine zj_iconst (zdk ttX11_glasses 116 rfl rfl) ?_
                                                  refine zj_iload (zdk ttX11_glasses 117 rfl rfl) rfl ?_
                                                  refine zj_iload (zdk ttX11_glasses 118 rfl rfl) rfl ?_
                                                  refine zj_isub (zdk ttX11_glasses 119 rfl rfl) ?_
                                                  refine zj_callV (av := [.inl 0, .inl (x1763 - x1201)]) (st := []) (zdk ttX11_glasses 120 rfl rfl) mb_X11_greater mv_RX11_418 (ci := 11) rfl rfl (k_M s1765) rfl rfl (Nat.le_of_ble_eq_true rfl) (s_X11_greater l h1764 0 (x1763 - x1201) s1765 (by omega) (by omega)) (rm_ok (by decide) (by decide)) (zq_i fun v2208 h2209 q2207 => ?_)
                                                  obtain ⟨rfl, b2210⟩ := q2207
                                                  have b2211 : 0 ≤ v2208 ∧ v2208 ≤ 0 := by omega
                                                  refine zj_istore (L' := [some (.inr 0), some (.inl p1), some (.inl p2), some (.inl p3), some (.inl v2198), some (.inl x76), some (.inl x1201), some (.inl x1763), some (.inl (h1764.2 27 (((961 * x76) + (31 * x1201)) + x1763))), some (.inl x1201), some (.inl v2203), some (.inl v2208)]) (zdk ttX11_glasses 121 rfl rfl) (by decide) rfl ?_
                                                  refine zj_aload_n (zdk ttX11_glasses 122 rfl rfl) rfl (by decide) ?_
                                                  refine zj_iload (zdk ttX11_glasses 123 rfl rfl) rfl ?_
                                                  refine zj_iload (zdk ttX11_glasses 124 rfl rfl) rfl ?_
                                                  refine zj_iadd (zdk ttX11_glasses 125 rfl rfl) ?_
                                                  refine zj_iload (zdk ttX11_glasses 126 rfl rfl) rfl ?_
                                                  refine zj_iload (zdk ttX11_glasses 127 rfl rfl) rfl ?_
                                                  refine zj_iload (zdk ttX11_glasses 128 rfl rfl) rfl ?_
                                                  refine zj_callV (av := [.inl (x76 + x1201), .inl v2203, .inl v2208, .inl (h1764.2 27 (((961 * x76) + (31 * x1201)) + x1763))]) (st := []) (zdk ttX11_glasses 129 rfl rfl) mb_X11_turns mv_RX11_421 (ci := 11) rfl rfl (k_M s1765) rfl rfl (Nat.le_of_ble_eq_true rfl) (s2_X11_turns l h1764 (x76 + x1201) v2203 v2208 (h1764.2 27 (((961 * x76) + (31 * x1201)) + x1763)) s1765 (by omega) (by omega) (by omega) (by omega)) (rm_ok (by decide) (by decide)) (zq_v fun h2214 q2212 => ?_)
                                                  obtain ⟨s2216, f2218, u2217⟩ := q2212
                                                  refine zj_aload_n (zdk ttX11_glasses 130 rfl rfl) rfl (by decide) ?_
                                                  refine zj_iload (zdk ttX11_glasses 131 rfl rfl) rfl ?_
                                                  refine zj_iload (zdk ttX11_glasses 132 rfl rfl) rfl ?_
                                                  refine zj_iadd (zdk ttX11_glasses 133 rfl rfl) ?_
                                                  refine zj_iload_n (zdk ttX11_glasses 134 rfl rfl) rfl ?_
                                                  refine zj_iload (zdk ttX11_glasses 135 rfl rfl) rfl ?_
                                                  refine zj_isub (zdk ttX11_glasses 136 rfl rfl) ?_
                                                  refine zj_iload (zdk ttX11_glasses 137 rfl rfl) rfl ?_
                                                  refine zj_iload (zdk ttX11_glasses 138 rfl rfl) rfl ?_
                                                  refine zj_iconst (zdk ttX11_glasses 139 rfl rfl) ?_
                                                  refine zj_iadd (zdk ttX11_glasses 140 rfl rfl) ?_
                                                  refine zj_callV (av := [.inl (x76 + x1201), .inl (p1 - v2203), .inl v2208, .inl ((h1764.2 27 (((961 * x76) + (31 * x1201)) + x1763)) + 1)]) (st := []) (zdk ttX11_glasses 141 rfl rfl) mb_X11_turns mv_RX11_421 (ci := 11) rfl rfl (k_M s2216) rfl rfl (Nat.le_of_ble_eq_true rfl) (s2_X11_turns l h2214 (x76 + x1201) (p1 - v2203) v2208 ((h1764.2 27 (((961 * x76) + (31 * x1201)) + x1763)) + 1) s2216 (by omega) (by omega) (by omega) (by omega)) (rm_ok (by decide) (by decide)) (zq_v fun h2221 q2219 => ?_)
                                                  obtain ⟨s2223, f2225, u2224⟩ := q2219
                                                  refine zj_aload_n (zdk ttX11_glasses 142 rfl rfl) rfl (by decide) ?_
                                                  refine zj_iload (zdk ttX11_glasses 143 rfl rfl) rfl ?_
                                                  refine zj_iload (zdk ttX11_glasses 144 rfl rfl) rfl ?_
                                                  refine zj_iadd (zdk ttX11_glasses 145 rfl rfl) ?_
                                                  refine zj_iload (zdk ttX11_glasses 146 rfl rfl) rfl ?_
                                                  refine zj_iload_n (zdk ttX11_glasses 147 rfl rfl) rfl ?_
                                                  refine zj_iload (zdk ttX11_glasses 148 rfl rfl) rfl ?_
                                                  refine zj_isub (zdk ttX11_glasses 149 rfl rfl) ?_
                                                  refine zj_iload (zdk ttX11_glasses 150 rfl rfl) rfl ?_
                                                  refine zj_iconst (zdk ttX11_glasses 151 rfl rfl) ?_
                                                  refine zj_iadd (zdk ttX11_glasses 152 rfl rfl) ?_
                                                  refine zj_callV (av := [.inl (x76 + x1201), .inl v2203, .inl (p2 - v2208), .inl ((h1764.2 27 (((961 * x76) + (31 * x1201)) + x1763)) + 1)]) (st := []) (zdk ttX11_glasses 153 rfl rfl) mb_X11_turns mv_RX11_421 (ci := 11) rfl rfl (k_M s2223) rfl rfl (Nat.le_of_ble_eq_true rfl) (s2_X11_turns l h2221 (x76 + x1201) v2203 (p2 - v2208) ((h1764.2 27 (((961 * x76) + (31 * x1201)) + x1763)) + 1) s2223 (by omega) (by omega) (by omega) (by omega)) (rm_ok (by decide) (by decide)) (zq_v fun h2228 q2226 => ?_)
                                                  obtain ⟨s2230, f2232, u2231⟩ := q2226
                                                  refine zj_aload_n (zdk ttX11_glasses 154 rfl rfl) rfl (by decide) ?_
                                                  refine zj_iload (zdk ttX11_glasses 155 rfl rfl) rfl ?_
                                                  refine zj_iload (zdk ttX11_glasses 156 rfl rfl) rfl ?_
                                                  refine zj_iadd (zdk ttX11_glasses 157 rfl rfl) ?_
                                                  refine zj_iload_n (zdk ttX11_glasses 158 rfl rfl) rfl ?_
                                                  refine zj_iload (zdk ttX11_glasses 159 rfl rfl) rfl ?_
                                                  refine zj_isub (zdk ttX11_glasses 160 rfl rfl) ?_
                                                  refine zj_iload_n (zdk ttX11_glasses 161 rfl rfl) rfl ?_
                                                  refine zj_iload (zdk ttX11_glasses 162 rfl rfl) rfl ?_
                                                  refine zj_isub (zdk ttX11_glasses 163 rfl rfl) ?_
                                                  refine zj_iload (zdk ttX11_glasses 164 rfl rfl) rfl ?_
                                                  refine zj_iconst (zdk ttX11_glasses 165 rfl rfl) ?_
                                                  refine zj_iadd (zdk ttX11_glasses 166 rfl rfl) ?_
                                                  refine zj_callV (av := [.inl (x76 + x1201), .inl (p1 - v2203), .inl (p2 - v2208), .inl ((h1764.2 27 (((961 * x76) + (31 * x1201)) + x1763)) + 2)]) (st := []) (zdk ttX11_glasses 167 rfl rfl) mb_X11_turns mv_RX11_421 (ci := 11) rfl rfl (k_M s2230) rfl rfl (Nat.le_of_ble_eq_true rfl) (s2_X11_turns l h2228 (x76 + x1201) (p1 - v2203) (p2 - v2208) ((h1764.2 27 (((961 * x76) + (31 * x1201)) + x1763)) + 2) s2230 (by omega) (by omega) (by omega) (by omega)) (rm_ok (by decide) (by decide)) (zq_v fun h2235 q2233 => ?_)
                                                  obtain ⟨s2237, f2239, u2238⟩ := q2233
                                                  refine zj_iinc (L' := [some (.inr 0), some (.inl p1), some (.inl p2), some (.inl p3), some (.inl v2198), some (.inl x76), some (.inl x1201), some (.inl (x1763 + 1)), some (.inl (h1764.2 27 (((961 * x76) + (31 * x1201)) + x1763))), some (.inl x1201), some (.inl v2203), some (.inl v2208)]) (zdk ttX11_glasses 168 rfl rfl) rfl (by decide) rfl ?_
                                                  refine zj_goto (t := 110) (zdk ttX11_glasses 169 rfl rfl) (by decide) ?_
                                                  refine zj_kill (k := 8) (L' := [some (.inr 0), some (.inl p1), some (.inl p2), some (.inl p3), some (.inl v2198), some (.inl x76), some (.inl x1201), some (.inl (x1763 + 1)), none, some (.inl x1201), some (.inl v2203), some (.inl v2208)]) rfl ?_
                                                  refine zj_kill (k := 9) (L' := [some (.inr 0), some (.inl p1), some (.inl p2), some (.inl p3), some (.inl v2198), some (.inl x76), some (.inl x1201), some (.inl (x1763 + 1)), none, none, some (.inl v2203), some (.inl v2208)]) rfl ?_
                                                  refine zj_kill (k := 10) (L' := [some (.inr 0), some (.inl p1), some (.inl p2), some (.inl p3), some (.inl v2198), some (.inl x76), some (.inl x1201), some (.inl (x1763 + 1)), none, none, none, some (.inl v2208)]) rfl ?_
                                                  refine zj_kill (k := 11) (L' := [some (.inr 0), some (.inl p1), some (.inl p2), some (.inl p3), some (.inl v2198), some (.inl x76), some (.inl x1201), some (.inl (x1763 + 1)), none, none, none, none]) rfl ?_
                                                  have f2243 : zfr [0] [27] h h2214 := zfr_t f1766 f2218 rfl rfl
                                                  have f2242 : zfr [0] [27] h h2221 := zfr_t f2243 f2225 rfl rfl
                                                  have f2241 : zfr [0] [27] h h2228 := zfr_t f2242 f2232 rfl rfl
                                                  have f2240 : zfr [0] [27] h h2235 := zfr_t f2241 f2239 rfl rfl
                                                  exact ih2041  v2198 (x1763 + 1) h2235 (by omega) (by omega) s2237 f2240 (hgG_u (c := (h1764.2 27 (((961 * x76) + (31 * x1201)) + x1763))) (r := x1201) (rx := v2203) (ry := v2208) u2038 (show (1 ≤ p1 ∧ p1 ≤ 30) ∧ (1 ≤ p2 ∧ p2 ≤ 30) by omega) (by omega) (by omega) (by omega) rfl (by omega) (by have r9 := hgr_f x1201 x1763; omega) (by omega) (by omega) (by have l9 := hgl_f x1201 x1201; omega) (by have l9 := hgl_f x1763 x1201; omega) u2217 u2224 u2231 u2238 (by omega)) (by omega) (by omega)
                                              · refine zj_goto (t := 305) (zdk ttX11_glasses 97 rfl rfl) (by decide) ?_
                                                refine zj_iinc (L' := [some (.inr 0), some (.inl p1), some (.inl p2), some (.inl p3), some (.inl x1762), some (.inl x76), some (.inl x1201), some (.inl (x1763 + 1)), some (.inl (h1764.2 27 (((961 * x76) + (31 * x1201)) + x1763))), some (.inl x1201), none, none]) (zdk ttX11_glasses 168 rfl rfl) rfl (by decide) rfl ?_
                                                refine zj_goto (t := 110) (zdk ttX11_glasses 169 rfl rfl) (by decide) ?_
                                                refine zj_kill (k := 8) (L' := [some (.inr 0), some (.inl p1), some (.inl p2), some (.inl p3), some (.inl x1762), some (.inl x76), some (.inl x1201), some (.inl (x1763 + 1)), none, some (.inl x1201), none, none]) rfl ?_
                                                refine zj_kill (k := 9) (L' := [some (.inr 0), some (.inl p1), some (.inl p2), some (.inl p3), some (.inl x1762), some (.inl x76), some (.inl x1201), some (.inl (x1763 + 1)), none, none, none, none]) rfl ?_
                                                exact ih2041  x1762 (x1763 + 1) h1764 (by omega) (by omega) s1765 f1766 (hgG_k u2038 (by have r9 := hgr_f x1201 x1763; omega)) (by omega) (by omega)
                                      · refine zj_iload (zdk ttX11_glasses 76 rfl rfl) rfl ?_
                                        refine zj_goto (t := 161) (zdk ttX11_glasses 77 rfl rfl) (by decide) ?_
                                        refine zj_istore (L' := [some (.inr 0), some (.inl p1), some (.inl p2), some (.inl p3), some (.inl x1762), some (.inl x76), some (.inl x1201), some (.inl x1763), some (.inl (h1764.2 27 (((961 * x76) + (31 * x1201)) + x1763))), some (.inl x1763), none, none]) (zdk ttX11_glasses 86 rfl rfl) (by decide) rfl ?_
                                        refine zj_iload (zdk ttX11_glasses 87 rfl rfl) rfl ?_
                                        refine zj_ldc_w (z := 100000000) (zdk ttX11_glasses 88 rfl rfl) wc_RX11_411 ?_
                                        refine zj_icmp_eq (t := 305) (zdk ttX11_glasses 89 rfl rfl) (by decide) (by omega) (by decide) (fun c2244 => ?_) (fun c2244 => ?_)
                                        · refine zj_iinc (L' := [some (.inr 0), some (.inl p1), some (.inl p2), some (.inl p3), some (.inl x1762), some (.inl x76), some (.inl x1201), some (.inl (x1763 + 1)), some (.inl (h1764.2 27 (((961 * x76) + (31 * x1201)) + x1763))), some (.inl x1763), none, none]) (zdk ttX11_glasses 168 rfl rfl) rfl (by decide) rfl ?_
                                          refine zj_goto (t := 110) (zdk ttX11_glasses 169 rfl rfl) (by decide) ?_
                                          refine zj_kill (k := 8) (L' := [some (.inr 0), some (.inl p1), some (.inl p2), some (.inl p3), some (.inl x1762), some (.inl x76), some (.inl x1201), some (.inl (x1763 + 1)), none, some (.inl x1763), none, none]) rfl ?_
                                          refine zj_kill (k := 9) (L' := [some (.inr 0), some (.inl p1), some (.inl p2), some (.inl p3), some (.inl x1762), some (.inl x76), some (.inl x1201), some (.inl (x1763 + 1)), none, none, none, none]) rfl ?_
                                          exact ih2041  x1762 (x1763 + 1) h1764 (by omega) (by omega) s1765 f1766 (hgG_k u2038 (by have r9 := hgr_f x1201 x1763; omega)) (by omega) (by omega)
                                        · refine zj_iload (zdk ttX11_glasses 90 rfl rfl) rfl ?_
                                          refine zj_if_eq (t := 305) (zdk ttX11_glasses 91 rfl rfl) (by decide) (by omega) (fun c2245 => ?_) (fun c2245 => ?_)
                                          · refine zj_iinc (L' := [some (.inr 0), some (.inl p1), some (.inl p2), some (.inl p3), some (.inl x1762), some (.inl x76), some (.inl x1201), some (.inl (x1763 + 1)), some (.inl (h1764.2 27 (((961 * x76) + (31 * x1201)) + x1763))), some (.inl x1763), none, none]) (zdk ttX11_glasses 168 rfl rfl) rfl (by decide) rfl ?_
                                            refine zj_goto (t := 110) (zdk ttX11_glasses 169 rfl rfl) (by decide) ?_
                                            refine zj_kill (k := 8) (L' := [some (.inr 0), some (.inl p1), some (.inl p2), some (.inl p3), some (.inl x1762), some (.inl x76), some (.inl x1201), some (.inl (x1763 + 1)), none, some (.inl x1763), none, none]) rfl ?_
                                            refine zj_kill (k := 9) (L' := [some (.inr 0), some (.inl p1), some (.inl p2), some (.inl p3), some (.inl x1762), some (.inl x76), some (.inl x1201), some (.inl (x1763 + 1)), none, none, none, none]) rfl ?_
                                            exact ih2041  x1762 (x1763 + 1) h1764 (by omega) (by omega) s1765 f1766 (hgG_k u2038 (by have r9 := hgr_f x1201 x1763; omega)) (by omega) (by omega)
                                          · refine zj_iload (zdk ttX11_glasses 92 rfl rfl) rfl ?_
                                            refine zj_iload (zdk ttX11_glasses 93 rfl rfl) rfl ?_
                                            refine zj_iadd (zdk ttX11_glasses 94 rfl rfl) ?_
                                            refine zj_iload_n (zdk ttX11_glasses 95 rfl rfl) rfl ?_
                                            refine zj_icmp_le (t := 188) (zdk ttX11_glasses 96 rfl rfl) (by decide) (by omega) (by omega) (fun c2246 => ?_) (fun c2246 => ?_)
                                            · have b2247 := hgS_b (by omega) (by omega) (u2038.1 x76 x1201 x1763 (by omega) (by omega) (by omega) (show ¬ (h1764.2 27 (((961 * x76) + (31 * x1201)) + x1763)) = 100000000 by omega))
                                              have b2247c : 0 ≤ (h1764.2 27 (((961 * x76) + (31 * x1201)) + x1763)) ∧ (h1764.2 27 (((961 * x76) + (31 * x1201)) + x1763)) ≤ 240 := by have z9 : 0 ≤ (h1764.2 27 (((961 * x76) + (31 * x1201)) + x1763)) ∧ (h1764.2 27 (((961 * x76) + (31 * x1201)) + x1763)) ≤ 2 * x76 := b2247.2.2.2; omega
                                              refine zj_iload (zdk ttX11_glasses 98 rfl rfl) rfl ?_
                                              refine zj_iload (zdk ttX11_glasses 99 rfl rfl) rfl ?_
                                              refine zj_iadd (zdk ttX11_glasses 100 rfl rfl) ?_
                                              refine zj_iload_n (zdk ttX11_glasses 101 rfl rfl) rfl ?_
                                              refine zj_icmp_ne (t := 207) (zdk ttX11_glasses 102 rfl rfl) (by decide) (by omega) (by omega) (fun c2248 => ?_) (fun c2248 => ?_)
                                              · refine zj_aload_n (zdk ttX11_glasses 108 rfl rfl) rfl (by decide) ?_
                                                refine zj_iconst (zdk ttX11_glasses 109 rfl rfl) ?_
                                                refine zj_iload (zdk ttX11_glasses 110 rfl rfl) rfl ?_
                                                refine zj_iload (zdk ttX11_glasses 111 rfl rfl) rfl ?_
                                                refine zj_isub (zdk ttX11_glasses 112 rfl rfl) ?_
                                                refine zj_callV (av := [.inl 0, .inl (x1201 - x1763)]) (st := []) (zdk ttX11_glasses 113 rfl rfl) mb_X11_greater mv_RX11_418 (ci := 11) rfl rfl (k_M s1765) rfl rfl (Nat.le_of_ble_eq_true rfl) (s_X11_greater l h1764 0 (x1201 - x1763) s1765 (by omega) (by omega)) (rm_ok (by decide) (by decide)) (zq_i fun v2250 h2251 q2249 => ?_)
                                                obtain ⟨rfl, b2252⟩ := q2249
                                                have b2253 : 0 ≤ v2250 ∧ v2250 ≤ 0 := by omega
                                                refine zj_istore (L' := [some (.inr 0), some (.inl p1), some (.inl p2), some (.inl p3), some (.inl x1762), some (.inl x76), some (.inl x1201), some (.inl x1763), some (.inl (h1764.2 27 (((961 * x76) + (31 * x1201)) + x1763))), some (.inl x1763), some (.inl v2250), none]) (zdk ttX11_glasses 114 rfl rfl) (by decide) rfl ?_
                                                refine zj_aload_n (zdk ttX11_glasses 115 rfl rfl) rfl (by decide) ?_
                                                refine zj_iconst (zdk ttX11_glasses 116 rfl rfl) ?_
                                                refine zj_iload (zdk ttX11_glasses 117 rfl rfl) rfl ?_
                                                refine zj_iload (zdk ttX11_glasses 118 rfl rfl) rfl ?_
                                                refine zj_isub (zdk ttX11_glasses 119 rfl rfl) ?_
                                                refine zj_callV (av := [.inl 0, .inl (x1763 - x1763)]) (st := []) (zdk ttX11_glasses 120 rfl rfl) mb_X11_greater mv_RX11_418 (ci := 11) rfl rfl (k_M s1765) rfl rfl (Nat.le_of_ble_eq_true rfl) (s_X11_greater l h1764 0 (x1763 - x1763) s1765 (by omega) (by omega)) (rm_ok (by decide) (by decide)) (zq_i fun v2255 h2256 q2254 => ?_)
                                                obtain ⟨rfl, b2257⟩ := q2254
                                                have b2258 : 0 ≤ v2255 ∧ v2255 ≤ 0 := by omega
                                                refine zj_istore (L' := [some (.inr 0), some (.inl p1), some (.inl p2), some (.inl p3), some (.inl x1762), some (.inl x76), some (.inl x1201), some (.inl x1763), some (.inl (h1764.2 27 (((961 * x76) + (31 * x1201)) + x1763))), some (.inl x1763), some (.inl v2250), some (.inl v2255)]) (zdk ttX11_glasses 121 rfl rfl) (by decide) rfl ?_
                                                refine zj_aload_n (zdk ttX11_glasses 122 rfl rfl) rfl (by decide) ?_
                                                refine zj_iload (zdk ttX11_glasses 123 rfl rfl) rfl ?_
                                                refine zj_iload (zdk ttX11_glasses 124 rfl rfl) rfl ?_
                                                refine zj_iadd (zdk ttX11_glasses 125 rfl rfl) ?_
                                                refine zj_iload (zdk ttX11_glasses 126 rfl rfl) rfl ?_
                                                refine zj_iload (zdk ttX11_glasses 127 rfl rfl) rfl ?_
                                                refine zj_iload (zdk ttX11_glasses 128 rfl rfl) rfl ?_
                                                refine zj_callV (av := [.inl (x76 + x1763), .inl v2250, .inl v2255, .inl (h1764.2 27 (((961 * x76) + (31 * x1201)) + x1763))]) (st := []) (zdk ttX11_glasses 129 rfl rfl) mb_X11_turns mv_RX11_421 (ci := 11) rfl rfl (k_M s1765) rfl rfl (Nat.le_of_ble_eq_true rfl) (s2_X11_turns l h1764 (x76 + x1763) v2250 v2255 (h1764.2 27 (((961 * x76) + (31 * x1201)) + x1763)) s1765 (by omega) (by omega) (by omega) (by omega)) (rm_ok (by decide) (by decide)) (zq_v fun h2261 q2259 => ?_)
                                                obtain ⟨s2263, f2265, u2264⟩ := q2259
                                                refine zj_aload_n (zdk ttX11_glasses 130 rfl rfl) rfl (by decide) ?_
                                                refine zj_iload (zdk ttX11_glasses 131 rfl rfl) rfl ?_
                                                refine zj_iload (zdk ttX11_glasses 132 rfl rfl) rfl ?_
                                                refine zj_iadd (zdk ttX11_glasses 133 rfl rfl) ?_
                                                refine zj_iload_n (zdk ttX11_glasses 134 rfl rfl) rfl ?_
                                                refine zj_iload (zdk ttX11_glasses 135 rfl rfl) rfl ?_
                                                refine zj_isub (zdk ttX11_glasses 136 rfl rfl) ?_
                                                refine zj_iload (zdk ttX11_glasses 137 rfl rfl) rfl ?_
                                                refine zj_iload (zdk ttX11_glasses 138 rfl rfl) rfl ?_
                                                refine zj_iconst (zdk ttX11_glasses 139 rfl rfl) ?_
                                                refine zj_iadd (zdk ttX11_glasses 140 rfl rfl) ?_
                                                refine zj_callV (av := [.inl (x76 + x1763), .inl (p1 - v2250), .inl v2255, .inl ((h1764.2 27 (((961 * x76) + (31 * x1201)) + x1763)) + 1)]) (st := []) (zdk ttX11_glasses 141 rfl rfl) mb_X11_turns mv_RX11_421 (ci := 11) rfl rfl (k_M s2263) rfl rfl (Nat.le_of_ble_eq_true rfl) (s2_X11_turns l h2261 (x76 + x1763) (p1 - v2250) v2255 ((h1764.2 27 (((961 * x76) + (31 * x1201)) + x1763)) + 1) s2263 (by omega) (by omega) (by omega) (by omega)) (rm_ok (by decide) (by decide)) (zq_v fun h2268 q2266 => ?_)
                                                obtain ⟨s2270, f2272, u2271⟩ := q2266
                                                refine zj_aload_n (zdk ttX11_glasses 142 rfl rfl) rfl (by decide) ?_
                                                refine zj_iload (zdk ttX11_glasses 143 rfl rfl) rfl ?_
                                                refine zj_iload (zdk ttX11_glasses 144 rfl rfl) rfl ?_
                                                refine zj_iadd (zdk ttX11_glasses 145 rfl rfl) ?_
                                                refine zj_iload (zdk ttX11_glasses 146 rfl rfl) rfl ?_
                                                refine zj_iload_n (zdk ttX11_glasses 147 rfl rfl) rfl ?_
                                                refine zj_iload (zdk ttX11_glasses 148 rfl rfl) rfl ?_
                                                refine zj_isub (zdk ttX11_glasses 149 rfl rfl) ?_
                                                refine zj_iload (zdk ttX11_glasses 150 rfl rfl) rfl ?_
                                                refine zj_iconst (zdk ttX11_glasses 151 rfl rfl) ?_
                                                refine zj_iadd (zdk ttX11_glasses 152 rfl rfl) ?_
                                                refine zj_callV (av := [.inl (x76 + x1763), .inl v2250, .inl (p2 - v2255), .inl ((h1764.2 27 (((961 * x76) + (31 * x1201)) + x1763)) + 1)]) (st := []) (zdk ttX11_glasses 153 rfl rfl) mb_X11_turns mv_RX11_421 (ci := 11) rfl rfl (k_M s2270) rfl rfl (Nat.le_of_ble_eq_true rfl) (s2_X11_turns l h2268 (x76 + x1763) v2250 (p2 - v2255) ((h1764.2 27 (((961 * x76) + (31 * x1201)) + x1763)) + 1) s2270 (by omega) (by omega) (by omega) (by omega)) (rm_ok (by decide) (by decide)) (zq_v fun h2275 q2273 => ?_)
                                                obtain ⟨s2277, f2279, u2278⟩ := q2273
                                                refine zj_aload_n (zdk ttX11_glasses 154 rfl rfl) rfl (by decide) ?_
                                                refine zj_iload (zdk ttX11_glasses 155 rfl rfl) rfl ?_
                                                refine zj_iload (zdk ttX11_glasses 156 rfl rfl) rfl ?_
                                                refine zj_iadd (zdk ttX11_glasses 157 rfl rfl) ?_
                                                refine zj_iload_n (zdk ttX11_glasses 158 rfl rfl) rfl ?_
                                                refine zj_iload (zdk ttX11_glasses 159 rfl rfl) rfl ?_
                                                refine zj_isub (zdk ttX11_glasses 160 rfl rfl) ?_
                                                refine zj_iload_n (zdk ttX11_glasses 161 rfl rfl) rfl ?_
                                                refine zj_iload (zdk ttX11_glasses 162 rfl rfl) rfl ?_
                                                refine zj_isub (zdk ttX11_glasses 163 rfl rfl) ?_
                                                refine zj_iload (zdk ttX11_glasses 164 rfl rfl) rfl ?_
                                                refine zj_iconst (zdk ttX11_glasses 165 rfl rfl) ?_
                                                refine zj_iadd (zdk ttX11_glasses 166 rfl rfl) ?_
                                                refine zj_callV (av := [.inl (x76 + x1763), .inl (p1 - v2250), .inl (p2 - v2255), .inl ((h1764.2 27 (((961 * x76) + (31 * x1201)) + x1763)) + 2)]) (st := []) (zdk ttX11_glasses 167 rfl rfl) mb_X11_turns mv_RX11_421 (ci := 11) rfl rfl (k_M s2277) rfl rfl (Nat.le_of_ble_eq_true rfl) (s2_X11_turns l h2275 (x76 + x1763) (p1 - v2250) (p2 - v2255) ((h1764.2 27 (((961 * x76) + (31 * x1201)) + x1763)) + 2) s2277 (by omega) (by omega) (by omega) (by omega)) (rm_ok (by decide) (by decide)) (zq_v fun h2282 q2280 => ?_)
                                                obtain ⟨s2284, f2286, u2285⟩ := q2280
                                                refine zj_iinc (L' := [some (.inr 0), some (.inl p1), some (.inl p2), some (.inl p3), some (.inl x1762), some (.inl x76), some (.inl x1201), some (.inl (x1763 + 1)), some (.inl (h1764.2 27 (((961 * x76) + (31 * x1201)) + x1763))), some (.inl x1763), some (.inl v2250), some (.inl v2255)]) (zdk ttX11_glasses 168 rfl rfl) rfl (by decide) rfl ?_
                                                refine zj_goto (t := 110) (zdk ttX11_glasses 169 rfl rfl) (by decide) ?_
                                                refine zj_kill (k := 8) (L' := [some (.inr 0), some (.inl p1), some (.inl p2), some (.inl p3), some (.inl x1762), some (.inl x76), some (.inl x1201), some (.inl (x1763 + 1)), none, some (.inl x1763), some (.inl v2250), some (.inl v2255)]) rfl ?_
                                                refine zj_kill (k := 9) (L' := [some (.inr 0), some (.inl p1), some (.inl p2), some (.inl p3), some (.inl x1762), some (.inl x76), some (.inl x1201), some (.inl (x1763 + 1)), none, none, some (.inl v2250), some (.inl v2255)]) rfl ?_
                                                refine zj_kill (k := 10) (L' := [some (.inr 0), some (.inl p1), some (.inl p2), some (.inl p3), some (.inl x1762), some (.inl x76), some (.inl x1201), some (.inl (x1763 + 1)), none, none, none, some (.inl v2255)]) rfl ?_
                                                refine zj_kill (k := 11) (L' := [some (.inr 0), some (.inl p1), some (.inl p2), some (.inl p3), some (.inl x1762), some (.inl x76), some (.inl x1201), some (.inl (x1763 + 1)), none, none, none, none]) rfl ?_
                                                have f2290 : zfr [0] [27] h h2261 := zfr_t f1766 f2265 rfl rfl
                                                have f2289 : zfr [0] [27] h h2268 := zfr_t f2290 f2272 rfl rfl
                                                have f2288 : zfr [0] [27] h h2275 := zfr_t f2289 f2279 rfl rfl
                                                have f2287 : zfr [0] [27] h h2282 := zfr_t f2288 f2286 rfl rfl
                                                exact ih2041  x1762 (x1763 + 1) h2282 (by omega) (by omega) s2284 f2287 (hgG_u (c := (h1764.2 27 (((961 * x76) + (31 * x1201)) + x1763))) (r := x1763) (rx := v2250) (ry := v2255) u2038 (show (1 ≤ p1 ∧ p1 ≤ 30) ∧ (1 ≤ p2 ∧ p2 ≤ 30) by omega) (by omega) (by omega) (by omega) rfl (by omega) (by have r9 := hgr_f x1201 x1763; omega) (by omega) (by omega) (by have l9 := hgl_f x1201 x1763; omega) (by have l9 := hgl_f x1763 x1763; omega) u2264 u2271 u2278 u2285 (by omega)) (by omega) (by omega)
                                              · refine zj_aload_n (zdk ttX11_glasses 103 rfl rfl) rfl (by decide) ?_
                                                refine zj_iload (zdk ttX11_glasses 104 rfl rfl) rfl ?_
                                                refine zj_iload (zdk ttX11_glasses 105 rfl rfl) rfl ?_
                                                refine zj_callV (av := [.inl x1762, .inl (h1764.2 27 (((961 * x76) + (31 * x1201)) + x1763))]) (st := []) (zdk ttX11_glasses 106 rfl rfl) mb_X11_lesser mv_RX11_371 (ci := 11) rfl rfl (k_M s1765) rfl rfl (Nat.le_of_ble_eq_true rfl) (s_X11_lesser l h1764 x1762 (h1764.2 27 (((961 * x76) + (31 * x1201)) + x1763)) s1765 (by omega) (by omega)) (rm_ok (by decide) (by decide)) (zq_i fun v2292 h2293 q2291 => ?_)
                                                obtain ⟨rfl, b2294⟩ := q2291
                                                have b2295 : -2147483648 ≤ v2292 ∧ v2292 ≤ 240 := by omega
                                                refine zj_istore (L' := [some (.inr 0), some (.inl p1), some (.inl p2), some (.inl p3), some (.inl v2292), some (.inl x76), some (.inl x1201), some (.inl x1763), some (.inl (h1764.2 27 (((961 * x76) + (31 * x1201)) + x1763))), some (.inl x1763), none, none]) (zdk ttX11_glasses 107 rfl rfl) (by decide) rfl ?_
                                                refine zj_aload_n (zdk ttX11_glasses 108 rfl rfl) rfl (by decide) ?_
                                                refine zj_iconst (zdk ttX11_glasses 109 rfl rfl) ?_
                                                refine zj_iload (zdk ttX11_glasses 110 rfl rfl) rfl ?_
                                                refine zj_iload (zdk ttX11_glasses 111 rfl rfl) rfl ?_
                                                refine zj_isub (zdk ttX11_glasses 112 rfl rfl) ?_
                                                refine zj_callV (av := [.inl 0, .inl (x1201 - x1763)]) (st := []) (zdk ttX11_glasses 113 rfl rfl) mb_X11_greater mv_RX11_418 (ci := 11) rfl rfl (k_M s1765) rfl rfl (Nat.le_of_ble_eq_true rfl) (s_X11_greater l h1764 0 (x1201 - x1763) s1765 (by omega) (by omega)) (rm_ok (by decide) (by decide)) (zq_i fun v2297 h2298 q2296 => ?_)
                                                obtain ⟨rfl, b2299⟩ := q2296
                                                have b2300 : 0 ≤ v2297 ∧ v2297 ≤ 0 := by omega
                                                refine zj_istore (L' := [some (.inr 0), some (.inl p1), some (.inl p2), some (.inl p3), some (.inl v2292), some (.inl x76), some (.inl x1201), some (.inl x1763), some (.inl (h1764.2 27 (((961 * x76) + (31 * x1201)) + x1763))), some (.inl x1763), some (.inl v2297), none]) (zdk ttX11_glasses 114 rfl rfl) (by decide) rfl ?_
                                                refine zj_aload_n (zdk ttX11_glasses 115 rfl rfl) rfl (by decide) ?_
                                                refine zj_iconst (zdk ttX11_glasses 116 rfl rfl) ?_
                                                refine zj_iload (zdk ttX11_glasses 117 rfl rfl) rfl ?_
                                                refine zj_iload (zdk ttX11_glasses 118 rfl rfl) rfl ?_
                                                refine zj_isub (zdk ttX11_glasses 119 rfl rfl) ?_
                                                refine zj_callV (av := [.inl 0, .inl (x1763 - x1763)]) (st := []) (zdk ttX11_glasses 120 rfl rfl) mb_X11_greater mv_RX11_418 (ci := 11) rfl rfl (k_M s1765) rfl rfl (Nat.le_of_ble_eq_true rfl) (s_X11_greater l h1764 0 (x1763 - x1763) s1765 (by omega) (by omega)) (rm_ok (by decide) (by decide)) (zq_i fun v2302 h2303 q2301 => ?_)
                                                obtain ⟨rfl, b2304⟩ := q2301
                                                have b2305 : 0 ≤ v2302 ∧ v2302 ≤ 0 := by omega
                                                refine zj_istore (L' := [some (.inr 0), some (.inl p1), some (.inl p2), some (.inl p3), some (.inl v2292), some (.inl x76), some (.inl x1201), some (.inl x1763), some (.inl (h1764.2 27 (((961 * x76) + (31 * x1201)) + x1763))), some (.inl x1763), some (.inl v2297), some (.inl v2302)]) (zdk ttX11_glasses 121 rfl rfl) (by decide) rfl ?_
                                                refine zj_aload_n (zdk ttX11_glasses 122 rfl rfl) rfl (by decide) ?_
                                                refine zj_iload (zdk ttX11_glasses 123 rfl rfl) rfl ?_
                                                refine zj_iload (zdk ttX11_glasses 124 rfl rfl) rfl ?_
                                                refine zj_iadd (zdk ttX11_glasses 125 rfl rfl) ?_
                                                refine zj_iload (zdk ttX11_glasses 126 rfl rfl) rfl ?_
                                                refine zj_iload (zdk ttX11_glasses 127 rfl rfl) rfl ?_
                                                refine zj_iload (zdk ttX11_glasses 128 rfl rfl) rfl ?_
                                                refine zj_callV (av := [.inl (x76 + x1763), .inl v2297, .inl v2302, .inl (h1764.2 27 (((961 * x76) + (31 * x1201)) + x1763))]) (st := []) (zdk ttX11_glasses 129 rfl rfl) mb_X11_turns mv_RX11_421 (ci := 11) rfl rfl (k_M s1765) rfl rfl (Nat.le_of_ble_eq_true rfl) (s2_X11_turns l h1764 (x76 + x1763) v2297 v2302 (h1764.2 27 (((961 * x76) + (31 * x1201)) + x1763)) s1765 (by omega) (by omega) (by omega) (by omega)) (rm_ok (by decide) (by decide)) (zq_v fun h2308 q2306 => ?_)
                                                obtain ⟨s2310, f2312, u2311⟩ := q2306
                                                refine zj_aload_n (zdk ttX11_glasses 130 rfl rfl) rfl (by decide) ?_
                                                refine zj_iload (zdk ttX11_glasses 131 rfl rfl) rfl ?_
                                                refine zj_iload (zdk ttX11_glasses 132 rfl rfl) rfl ?_
                                                refine zj_iadd (zdk ttX11_glasses 133 rfl rfl) ?_
                                                refine zj_iload_n (zdk ttX11_glasses 134 rfl rfl) rfl ?_
                                                refine zj_iload (zdk ttX11_glasses 135 rfl rfl) rfl ?_
                                                refine zj_isub (zdk ttX11_glasses 136 rfl rfl) ?_
                                                refine zj_iload (zdk ttX11_glasses 137 rfl rfl) rfl ?_
                                                refine zj_iload (zdk ttX11_glasses 138 rfl rfl) rfl ?_
                                                refine zj_iconst (zdk ttX11_glasses 139 rfl rfl) ?_
                                                refine zj_iadd (zdk ttX11_glasses 140 rfl rfl) ?_
                                                refine zj_callV (av := [.inl (x76 + x1763), .inl (p1 - v2297), .inl v2302, .inl ((h1764.2 27 (((961 * x76) + (31 * x1201)) + x1763)) + 1)]) (st := []) (zdk ttX11_glasses 141 rfl rfl) mb_X11_turns mv_RX11_421 (ci := 11) rfl rfl (k_M s2310) rfl rfl (Nat.le_of_ble_eq_true rfl) (s2_X11_turns l h2308 (x76 + x1763) (p1 - v2297) v2302 ((h1764.2 27 (((961 * x76) + (31 * x1201)) + x1763)) + 1) s2310 (by omega) (by omega) (by omega) (by omega)) (rm_ok (by decide) (by decide)) (zq_v fun h2315 q2313 => ?_)
                                                obtain ⟨s2317, f2319, u2318⟩ := q2313
                                                refine zj_aload_n (zdk ttX11_glasses 142 rfl rfl) rfl (by decide) ?_
                                                refine zj_iload (zdk ttX11_glasses 143 rfl rfl) rfl ?_
                                                refine zj_iload (zdk ttX11_glasses 144 rfl rfl) rfl ?_
                                                refine zj_iadd (zdk ttX11_glasses 145 rfl rfl) ?_
                                                refine zj_iload (zdk ttX11_glasses 146 rfl rfl) rfl ?_
                                                refine zj_iload_n (zdk ttX11_glasses 147 rfl rfl) rfl ?_
                                                refine zj_iload (zdk ttX11_glasses 148 rfl rfl) rfl ?_
                                                refine zj_isub (zdk ttX11_glasses 149 rfl rfl) ?_
                                                refine zj_iload (zdk ttX11_glasses 150 rfl rfl) rfl ?_
                                                refine zj_iconst (zdk ttX11_glasses 151 rfl rfl) ?_
                                                refine zj_iadd (zdk ttX11_glasses 152 rfl rfl) ?_
                                                refine zj_callV (av := [.inl (x76 + x1763), .inl v2297, .inl (p2 - v2302), .inl ((h1764.2 27 (((961 * x76) + (31 * x1201)) + x1763)) + 1)]) (st := []) (zdk ttX11_glasses 153 rfl rfl) mb_X11_turns mv_RX11_421 (ci := 11) rfl rfl (k_M s2317) rfl rfl (Nat.le_of_ble_eq_true rfl) (s2_X11_turns l h2315 (x76 + x1763) v2297 (p2 - v2302) ((h1764.2 27 (((961 * x76) + (31 * x1201)) + x1763)) + 1) s2317 (by omega) (by omega) (by omega) (by omega)) (rm_ok (by decide) (by decide)) (zq_v fun h2322 q2320 => ?_)
                                                obtain ⟨s2324, f2326, u2325⟩ := q2320
                                                refine zj_aload_n (zdk ttX11_glasses 154 rfl rfl) rfl (by decide) ?_
                                                refine zj_iload (zdk ttX11_glasses 155 rfl rfl) rfl ?_
                                                refine zj_iload (zdk ttX11_glasses 156 rfl rfl) rfl ?_
                                                refine zj_iadd (zdk ttX11_glasses 157 rfl rfl) ?_
                                                refine zj_iload_n (zdk ttX11_glasses 158 rfl rfl) rfl ?_
                                                refine zj_iload (zdk ttX11_glasses 159 rfl rfl) rfl ?_
                                                refine zj_isub (zdk ttX11_glasses 160 rfl rfl) ?_
                                                refine zj_iload_n (zdk ttX11_glasses 161 rfl rfl) rfl ?_
                                                refine zj_iload (zdk ttX11_glasses 162 rfl rfl) rfl ?_
                                                refine zj_isub (zdk ttX11_glasses 163 rfl rfl) ?_
                                                refine zj_iload (zdk ttX11_glasses 164 rfl rfl) rfl ?_
                                                refine zj_iconst (zdk ttX11_glasses 165 rfl rfl) ?_
                                                refine zj_iadd (zdk ttX11_glasses 166 rfl rfl) ?_
                                                refine zj_callV (av := [.inl (x76 + x1763), .inl (p1 - v2297), .inl (p2 - v2302), .inl ((h1764.2 27 (((961 * x76) + (31 * x1201)) + x1763)) + 2)]) (st := []) (zdk ttX11_glasses 167 rfl rfl) mb_X11_turns mv_RX11_421 (ci := 11) rfl rfl (k_M s2324) rfl rfl (Nat.le_of_ble_eq_true rfl) (s2_X11_turns l h2322 (x76 + x1763) (p1 - v2297) (p2 - v2302) ((h1764.2 27 (((961 * x76) + (31 * x1201)) + x1763)) + 2) s2324 (by omega) (by omega) (by omega) (by omega)) (rm_ok (by decide) (by decide)) (zq_v fun h2329 q2327 => ?_)
                                                obtain ⟨s2331, f2333, u2332⟩ := q2327
                                                refine zj_iinc (L' := [some (.inr 0), some (.inl p1), some (.inl p2), some (.inl p3), some (.inl v2292), some (.inl x76), some (.inl x1201), some (.inl (x1763 + 1)), some (.inl (h1764.2 27 (((961 * x76) + (31 * x1201)) + x1763))), some (.inl x1763), some (.inl v2297), some (.inl v2302)]) (zdk ttX11_glasses 168 rfl rfl) rfl (by decide) rfl ?_
                                                refine zj_goto (t := 110) (zdk ttX11_glasses 169 rfl rfl) (by decide) ?_
                                                refine zj_kill (k := 8) (L' := [some (.inr 0), some (.inl p1), some (.inl p2), some (.inl p3), some (.inl v2292), some (.inl x76), some (.inl x1201), some (.inl (x1763 + 1)), none, some (.inl x1763), some (.inl v2297), some (.inl v2302)]) rfl ?_
                                                refine zj_kill (k := 9) (L' := [some (.inr 0), some (.inl p1), some (.inl p2), some (.inl p3), some (.inl v2292), some (.inl x76), some (.inl x1201), some (.inl (x1763 + 1)), none, none, some (.inl v2297), some (.inl v2302)]) rfl ?_
                                                refine zj_kill (k := 10) (L' := [some (.inr 0), some (.inl p1), some (.inl p2), some (.inl p3), some (.inl v2292), some (.inl x76), some (.inl x1201), some (.inl (x1763 + 1)), none, none, none, some (.inl v2302)]) rfl ?_
                                                refine zj_kill (k := 11) (L' := [some (.inr 0), some (.inl p1), some (.inl p2), some (.inl p3), some (.inl v2292), some (.inl x76), some (.inl x1201), some (.inl (x1763 + 1)), none, none, none, none]) rfl ?_
                                                have f2337 : zfr [0] [27] h h2308 := zfr_t f1766 f2312 rfl rfl
                                                have f2336 : zfr [0] [27] h h2315 := zfr_t f2337 f2319 rfl rfl
                                                have f2335 : zfr [0] [27] h h2322 := zfr_t f2336 f2326 rfl rfl
                                                have f2334 : zfr [0] [27] h h2329 := zfr_t f2335 f2333 rfl rfl
                                                exact ih2041  v2292 (x1763 + 1) h2329 (by omega) (by omega) s2331 f2334 (hgG_u (c := (h1764.2 27 (((961 * x76) + (31 * x1201)) + x1763))) (r := x1763) (rx := v2297) (ry := v2302) u2038 (show (1 ≤ p1 ∧ p1 ≤ 30) ∧ (1 ≤ p2 ∧ p2 ≤ 30) by omega) (by omega) (by omega) (by omega) rfl (by omega) (by have r9 := hgr_f x1201 x1763; omega) (by omega) (by omega) (by have l9 := hgl_f x1201 x1763; omega) (by have l9 := hgl_f x1763 x1763; omega) u2311 u2318 u2325 u2332 (by omega)) (by omega) (by omega)
                                            · refine zj_goto (t := 305) (zdk ttX11_glasses 97 rfl rfl) (by decide) ?_
                                              refine zj_iinc (L' := [some (.inr 0), some (.inl p1), some (.inl p2), some (.inl p3), some (.inl x1762), some (.inl x76), some (.inl x1201), some (.inl (x1763 + 1)), some (.inl (h1764.2 27 (((961 * x76) + (31 * x1201)) + x1763))), some (.inl x1763), none, none]) (zdk ttX11_glasses 168 rfl rfl) rfl (by decide) rfl ?_
                                              refine zj_goto (t := 110) (zdk ttX11_glasses 169 rfl rfl) (by decide) ?_
                                              refine zj_kill (k := 8) (L' := [some (.inr 0), some (.inl p1), some (.inl p2), some (.inl p3), some (.inl x1762), some (.inl x76), some (.inl x1201), some (.inl (x1763 + 1)), none, some (.inl x1763), none, none]) rfl ?_
                                              refine zj_kill (k := 9) (L' := [some (.inr 0), some (.inl p1), some (.inl p2), some (.inl p3), some (.inl x1762), some (.inl x76), some (.inl x1201), some (.inl (x1763 + 1)), none, none, none, none]) rfl ?_
                                              exact ih2041  x1762 (x1763 + 1) h1764 (by omega) (by omega) s1765 f1766 (hgG_k u2038 (by have r9 := hgr_f x1201 x1763; omega)) (by omega) (by omega)
                                exact lp2035 _ x1200 0 h1202 (by omega) (by omega) s1203 f1204 u1757 (by omega) (Nat.lt_succ_self _)
                          exact lp1754 _ x75 0 h77 (by omega) (by omega) s78 f79 u1194 (by omega) (Nat.lt_succ_self _)
                    have s2338 : okM h73 := awM_27 s27 e74 (by omega) (by unfold nsp; omega)
                    have f2339 : zfr [0] [27] h h73 := zfr_wa f28 e74 rfl
                    exact lp1191 _ 100000000 0 h73 (by omega) (by omega) s2338 f2339 (hgG_0 (show (1 ≤ p1 ∧ p1 ≤ 30) ∧ (1 ≤ p2 ∧ p2 ≤ 30) by omega) (by omega) ((zwr_v e74) : _) (fun i a b q => (zwr_r e74 (fun z => q (z.2.trans (by unfold hgi; omega)))).trans (u64 i a (by omega)))) (by omega) (Nat.lt_succ_self _)
                  · refine zj_aload_n (zdk ttX11_glasses 32 rfl rfl) rfl (by decide) ?_
                    refine zj_getr (r := 27) (zdk ttX11_glasses 33 rfl rfl) zf_RX11_93 rfl (k_M s27) (rfM_48 s27) ?_
                    refine zj_iload (zdk ttX11_glasses 34 rfl rfl) rfl ?_
                    refine zj_ldc_w (z := 100000000) (zdk ttX11_glasses 35 rfl rfl) wc_RX11_411 ?_
                    refine zj_iast (zdk ttX11_glasses 36 rfl rfl) (kaM_27 s27) (by decide) (by omega) (fun h2340 e2341 => ?_)
                    refine zj_iinc (L' := [some (.inr 0), some (.inl p1), some (.inl p2), some (.inl p3), some (.inl (x25 + 1)), none, none, none, none, none, none, none]) (zdk ttX11_glasses 37 rfl rfl) rfl (by decide) rfl ?_
                    refine zj_goto (t := 43) (zdk ttX11_glasses 38 rfl rfl) (by decide) ?_
                    have s2342 : okM h2340 := awM_27 s27 e2341 (by omega) (by unfold nsp; omega)
                    have f2343 : zfr [0] [27] h h2340 := zfr_wa f28 e2341 rfl
                    exact ih67  (x25 + 1) h2340 (by omega) s2342 f2343 (fun i a b => (Classical.em (i = x25)).elim (fun q => by rw [q]; exact zwr_v e2341) (fun q => (zwr_r e2341 (by omega)).trans (u64 i a (by omega)))) (by omega) (by omega)
              have f2344 : zfr [0] [27] h h1 := zfr_wf (zfr_r _ _ _) e2 rfl
              exact lp62 _ 0 h1 (by omega) s3 f2344 (fun i a b => absurd b (by omega)) (by omega) (Nat.lt_succ_self _)
            · exact absurd c24 (by omega)
