/-- a step of q hours is in the set s -/
abbrev ygb (s q : Int) : Prop := zand (zshr s (q - 1)) 1 = 1
def ygw (f : Int → Int) (n s h : Int) : Prop := ∃ q, (1 ≤ q ∧ q ≤ 10) ∧ ygb s q ∧ ((h + q) % n = 0 ∨ f ((h + q) % n) = -1)
def ygz (f : Int → Int) (n s h : Int) : Prop := ¬ s = 0 ∧ ∀ q, 1 ≤ q → q ≤ 10 → ygb s q → ¬ f ((h + q) % n) = 0
def yge (f : Int → Int) (n s h e : Int) : Prop := (e = 1 ∧ ygw f n s h) ∨ (e = -1 ∧ ¬ ygw f n s h ∧ ygz f n s h) ∨ (e = 0 ∧ ¬ ygw f n s h ∧ ¬ ygz f n s h)
def ygle (n : Int) (f g : Int → Int) : Prop := ∀ k, 0 ≤ k → k < n → ¬ f k = 0 → g k = f k
theorem yge_u {f : Int → Int} {n s h e e' : Int} (a : yge f n s h e) (b : yge f n s h e') : e = e' := by
  rcases a with ⟨a1, a2⟩ | ⟨a1, a2, a3⟩ | ⟨a1, a2, a3⟩ <;> rcases b with ⟨b1, b2⟩ | ⟨b1, b2, b3⟩ | ⟨b1, b2, b3⟩ <;> first | omega | exact absurd a2 b2 | exact absurd b2 a2 | exact absurd a3 b3 | exact absurd b3 a3
theorem yge_m {f g : Int → Int} {n s h e : Int} (hn : 2 ≤ n) (l : ygle n f g) (a : yge f n s h e) (he : ¬ e = 0) : yge g n s h e := by
  have nx : ∀ q : Int, 0 ≤ (h + q) % n ∧ (h + q) % n < n := fun q => ⟨Int.emod_nonneg _ (by omega), Int.emod_lt_of_pos _ (by omega)⟩
  rcases a with ⟨a1, q, a2, a3, a4⟩ | ⟨a1, a2, a3⟩ | ⟨a1, _⟩
  · refine Or.inl ⟨a1, q, a2, a3, ?_⟩
    rcases a4 with a4 | a4
    · exact Or.inl a4
    · exact Or.inr (by rw [l _ (nx q).1 (nx q).2 (by omega)]; exact a4)
  · refine Or.inr (Or.inl ⟨a1, ?_, a3.1, fun q q1 q2 q3 => ?_⟩)
    · rintro ⟨q, q1, q2, q3⟩
      have z := a3.2 q q1.1 q1.2 q2
      rw [l _ (nx q).1 (nx q).2 z] at q3
      exact a2 ⟨q, q1, q2, q3⟩
    · have z := a3.2 q q1 q2 q3
      rw [l _ (nx q).1 (nx q).2 z]; exact z
  · exact absurd a1 he
/-- what is found is sure: it comes of itself, and every fixed worth has it -/
def ygfix (n s : Int) (f : Int → Int) : Prop := ∀ k, 0 ≤ k → k < n → yge f n s k (f k)
def ygI (n s : Int) (f : Int → Int) : Prop := (∀ k, 0 ≤ k → k < n → ¬ f k = 0 → yge f n s k (f k)) ∧ ∀ g, ygfix n s g → ygle n f g
theorem ygI_0 {n s : Int} {f : Int → Int} (z : ∀ k, 0 ≤ k → k < n → f k = 0) : ygI n s f := ⟨fun k a b c => absurd (z k a b) c, fun _ _ k a b c => absurd (z k a b) c⟩
theorem ygI_s {n s k e : Int} {f g : Int → Int} (hn : 2 ≤ n) (I : ygI n s f) (hk : 0 ≤ k ∧ k < n) (fk : f k = 0) (E : yge f n s k e) (he : ¬ e = 0) (gk : g k = e) (go : ∀ j, ¬ j = k → g j = f j) : ygI n s g := by
  have l : ygle n f g := fun j _ _ jf => go j (fun q => jf (by rw [q]; exact fk))
  constructor
  · intro j j0 j1 jg
    by_cases q : j = k
    · rw [q, gk]; exact yge_m hn l E he
    · rw [go j q] at jg ⊢; exact yge_m hn l (I.1 j j0 j1 jg) jg
  · intro v hv j j0 j1 jg
    by_cases q : j = k
    · have z := yge_m hn (I.2 v hv) E he
      rw [q, gk]; exact yge_u (hv k hk.1 hk.2) z
    · rw [go j q] at jg ⊢; exact I.2 v hv j j0 j1 jg
def ygF (n s : Int) (f : Int → Int) : Prop := ygI n s f ∧ ygfix n s f
theorem ygF_i {n s : Int} {f : Int → Int} (I : ygI n s f) (c : ∀ k, 0 ≤ k → k < n → f k = 0 → yge f n s k 0) : ygF n s f := by
  refine ⟨I, fun k a b => ?_⟩
  by_cases z : f k = 0
  · rw [z]; exact c k a b z
  · exact I.1 k a b z
theorem ygF_u {n s : Int} {f g : Int → Int} (F : ygF n s f) (G : ygF n s g) : ∀ k, 0 ≤ k → k < n → f k = g k := by
  intro k a b
  by_cases z : f k = 0
  · by_cases z2 : g k = 0
    · rw [z, z2]
    · exact G.1.2 f F.2 k a b z2
  · exact (F.1.2 g G.2 k a b z).symm
/-- the reference's way: from step q on -/
def ygwq (f : Int → Int) (n s h q : Int) : Prop := ∃ r, (q ≤ r ∧ r ≤ 10) ∧ ygb s r ∧ ((h + r) % n = 0 ∨ f ((h + r) % n) = -1)
def ygzq (f : Int → Int) (n s h q : Int) : Prop := ∀ r, q ≤ r → r ≤ 10 → ygb s r → ¬ f ((h + r) % n) = 0
def ygq (f : Int → Int) (n s h q lost e : Int) : Prop := (e = 1 ∧ ygwq f n s h q) ∨ (e = -1 ∧ ¬ ygwq f n s h q ∧ (ygzq f n s h q ∧ ¬ lost = 0)) ∨ (e = 0 ∧ ¬ ygwq f n s h q ∧ ¬ (ygzq f n s h q ∧ ¬ lost = 0))
theorem ygq_eq {f : Int → Int} {n s h q q' lost lost' e : Int} (a : ygq f n s h q' lost' e) (hw : ygwq f n s h q ↔ ygwq f n s h q') (hz : (ygzq f n s h q ∧ ¬ lost = 0) ↔ (ygzq f n s h q' ∧ ¬ lost' = 0)) : ygq f n s h q lost e := by
  unfold ygq; rw [hw, hz]; exact a
theorem ygwq_n {f : Int → Int} {n s h q : Int} (hn : ¬ (ygb s q ∧ ((h + q) % n = 0 ∨ f ((h + q) % n) = -1))) : ygwq f n s h q ↔ ygwq f n s h (q + 1) := by
  constructor
  · rintro ⟨r, r1, r2, r3⟩
    by_cases c : r = q
    · subst c; exact absurd ⟨r2, r3⟩ hn
    · exact ⟨r, by omega, r2, r3⟩
  · rintro ⟨r, r1, r2, r3⟩
    exact ⟨r, by omega, r2, r3⟩
theorem zeo_q {f : Int → Int} {n s h : Int} : ∀ (k : Nat) (q lost : Int), 1 ≤ q → q ≤ 11 → (11 - q).toNat = k → ygq f n s h q lost (zeo f n s h (11 - q).toNat q lost) := by
  intro k
  induction k with
  | zero =>
    intro q lost h1 h2 hk
    rw [zeo_end (by omega)]
    have w : ¬ ygwq f n s h q := by rintro ⟨r, r1, _⟩; omega
    have z : ygzq f n s h q := fun r r1 r2 => absurd r1 (by omega)
    by_cases c : lost = 0
    · rw [if_pos c]; exact Or.inr (Or.inr ⟨rfl, w, fun x => x.2 c⟩)
    · rw [if_neg c]; exact Or.inr (Or.inl ⟨rfl, w, z, c⟩)
  | succ k ih =>
    intro q lost h1 h2 hk
    by_cases b : ygb s q
    · by_cases w : (h + q) % n = 0 ∨ f ((h + q) % n) = -1
      · rw [zeo_win (by omega) b w]
        exact Or.inl ⟨rfl, q, by omega, b, w⟩
      · rw [zeo_go (by omega) b w]
        refine ygq_eq (ih (q + 1) (if f ((h + q) % n) = 0 then 0 else lost) (by omega) (by omega) (by omega)) (ygwq_n (fun x => w x.2)) ⟨fun x => ?_, fun x => ?_⟩
        · have y := x.1 q (by omega) (by omega) b
          rw [if_neg y]
          exact ⟨fun r r1 r2 => x.1 r (by omega) r2, x.2⟩
        · by_cases y : f ((h + q) % n) = 0
          · rw [if_pos y] at x; exact absurd rfl x.2
          · rw [if_neg y] at x
            refine ⟨fun r r1 r2 r3 => ?_, x.2⟩
            by_cases c : r = q
            · rw [c]; exact y
            · exact x.1 r (by omega) r2 r3
    · rw [zeo_no (by omega) b]
      refine ygq_eq (ih (q + 1) lost (by omega) (by omega) (by omega)) (ygwq_n (fun x => b x.1)) ⟨fun x => ⟨fun r r1 r2 => x.1 r (by omega) r2, x.2⟩, fun x => ⟨fun r r1 r2 r3 => ?_, x.2⟩⟩
      by_cases c : r = q
      · rw [c] at r3; exact absurd r3 b
      · exact x.1 r (by omega) r2 r3
theorem zeo_e {f : Int → Int} {n s h v : Int} (e : v = zeo f n s h 10 1 (if s = 0 then 0 else 1)) : yge f n s h v := by
  have a := zeo_q (f := f) (n := n) (s := s) (h := h) 10 1 (if s = 0 then 0 else 1) (by omega) (by omega) (by omega)
  have e2 : v = zeo f n s h (11 - 1 : Int).toNat 1 (if s = 0 then 0 else 1) := e
  rw [← e2] at a
  have hl : ¬ (if s = 0 then (0 : Int) else 1) = 0 ↔ ¬ s = 0 := by
    by_cases c : s = 0
    · rw [if_pos c]; exact ⟨fun x => absurd rfl x, fun x => absurd c x⟩
    · rw [if_neg c]; exact ⟨fun _ => c, fun _ => by omega⟩
  unfold ygq at a
  rw [hl] at a
  rcases a with ⟨a1, a2⟩ | ⟨a1, a2, a3, a4⟩ | ⟨a1, a2, a3⟩
  · exact Or.inl ⟨a1, a2⟩
  · exact Or.inr (Or.inl ⟨a1, a2, a4, a3⟩)
  · exact Or.inr (Or.inr ⟨a1, a2, fun x => a3 ⟨x.2, x.1⟩⟩)
/-- the class's way: up to step q -/
def ygc (f : Int → Int) (n s h q b : Int) : Prop :=
  (b = 1 ∧ ∃ r, (1 ≤ r ∧ r < q) ∧ ygb s r ∧ ((h + r) % n = 0 ∨ f ((h + r) % n) = -1)) ∨
  (b = 0 ∧ (∀ r, 1 ≤ r → r < q → ygb s r → ¬ ((h + r) % n = 0 ∨ f ((h + r) % n) = -1)) ∧ ∃ r, (1 ≤ r ∧ r < q) ∧ ygb s r ∧ f ((h + r) % n) = 0) ∨
  (b = -1 ∧ (∀ r, 1 ≤ r → r < q → ygb s r → ¬ ((h + r) % n = 0 ∨ f ((h + r) % n) = -1)) ∧ ∀ r, 1 ≤ r → r < q → ygb s r → ¬ f ((h + r) % n) = 0)
theorem ygc_0 {f : Int → Int} {n s h : Int} : ygc f n s h 1 (-1) := Or.inr (Or.inr ⟨rfl, fun r _ _ => absurd ‹_› (by omega), fun r _ _ => absurd ‹_› (by omega)⟩)
theorem ygc_x {f : Int → Int} {n s h q b : Int} (a : ygc f n s h q b) (nb : ¬ ygb s q) : ygc f n s h (q + 1) b := by
  have sp : ∀ {P : Int → Prop}, (∀ r, 1 ≤ r → r < q → ygb s r → P r) → ∀ r, 1 ≤ r → r < q + 1 → ygb s r → P r := by
    intro P g r r1 r2 r3
    by_cases c : r = q
    · rw [c] at r3; exact absurd r3 nb
    · exact g r r1 (by omega) r3
  rcases a with ⟨a1, r, a2, a3⟩ | ⟨a1, a2, r, a3, a4⟩ | ⟨a1, a2, a3⟩
  · exact Or.inl ⟨a1, r, by omega, a3⟩
  · exact Or.inr (Or.inl ⟨a1, sp a2, r, by omega, a4⟩)
  · exact Or.inr (Or.inr ⟨a1, sp a2, sp a3⟩)
theorem ygc_y {f : Int → Int} {n s h q b w m : Int} (a : ygc f n s h q b) (hq : 1 ≤ q) (nb : ygb s q) (hw : (w = 1 ∧ ((h + q) % n = 0 ∨ f ((h + q) % n) = -1)) ∨ (w = 0 ∧ ¬ (h + q) % n = 0 ∧ f ((h + q) % n) = 0) ∨ (w = -1 ∧ ¬ (h + q) % n = 0 ∧ f ((h + q) % n) = 1)) (hm : (m = b ∧ w ≤ b) ∨ (m = w ∧ b ≤ w)) : ygc f n s h (q + 1) m := by
  have sp : ∀ {P : Int → Prop}, (∀ r, 1 ≤ r → r < q → ygb s r → P r) → P q → ∀ r, 1 ≤ r → r < q + 1 → ygb s r → P r := by
    intro P g z r r1 r2 r3
    by_cases c : r = q
    · rw [c]; exact z
    · exact g r r1 (by omega) r3
  rcases hw with ⟨w1, w2⟩ | ⟨w1, w2, w3⟩ | ⟨w1, w2, w3⟩
  · have e : m = 1 := by rcases a with ⟨a1, _⟩ | ⟨a1, _⟩ | ⟨a1, _⟩ <;> omega
    exact Or.inl ⟨e, q, by omega, nb, w2⟩
  · rcases a with ⟨a1, r, a2, a3⟩ | ⟨a1, a2, r, a3, a4⟩ | ⟨a1, a2, a3⟩
    · exact Or.inl ⟨by omega, r, by omega, a3⟩
    · exact Or.inr (Or.inl ⟨by omega, sp a2 (by omega), r, by omega, a4⟩)
    · exact Or.inr (Or.inl ⟨by omega, sp a2 (by omega), q, by omega, nb, w3⟩)
  · rcases a with ⟨a1, r, a2, a3⟩ | ⟨a1, a2, r, a3, a4⟩ | ⟨a1, a2, a3⟩
    · exact Or.inl ⟨by omega, r, by omega, a3⟩
    · exact Or.inr (Or.inl ⟨by omega, sp a2 (by omega), r, by omega, a4⟩)
    · exact Or.inr (Or.inr ⟨by omega, sp a2 (by omega), sp a3 (by omega)⟩)
theorem ygc_e {f : Int → Int} {n s h q b : Int} (a : ygc f n s h q b) (hq : q = 11) (hs : ¬ s = 0) : yge f n s h b := by
  subst hq
  rcases a with ⟨a1, r, a2, a3⟩ | ⟨a1, a2, r, a3, a4, a5⟩ | ⟨a1, a2, a3⟩
  · exact Or.inl ⟨a1, r, by omega, a3⟩
  · refine Or.inr (Or.inr ⟨a1, ?_, fun x => x.2 r (by omega) (by omega) a4 a5⟩)
    rintro ⟨t, t1, t2, t3⟩; exact a2 t (by omega) (by omega) t2 t3
  · refine Or.inr (Or.inl ⟨a1, ?_, hs, fun t t1 t2 => a3 t (by omega) (by omega)⟩)
    rintro ⟨t, t1, t2, t3⟩; exact a2 t (by omega) (by omega) t2 t3
theorem yge_z {f : Int → Int} {n s h v : Int} (a : yge f n s h v) (e : v = 0) : yge f n s h 0 := by rw [e] at a; exact a
theorem zcnt_le (f : Int → Int) : ∀ n : Nat, zcnt f n ≤ n
  | 0 => Nat.le_refl _
  | n + 1 => by
    show zcnt f n + (if f n = 0 then 1 else 0) ≤ n + 1
    have z := zcnt_le f n
    split <;> omega
theorem ygb_0 {s q : Int} (hs : s = 0) : ¬ ygb s q := by
  subst hs
  have e : zshr 0 (q - 1) = 0 := by unfold zshr zshr_; rw [show Int32.ofInt 0 = 0 from rfl, Int32.zero_shiftRight]; rfl
  show ¬ zand (zshr 0 (q - 1)) 1 = 1
  rw [e, zand_m (d := 2) 1 (by decide) (c := 1) (by decide) (by decide)]; decide
theorem yge_s0 {f : Int → Int} {n s h : Int} (hs : s = 0) : yge f n s h 0 := Or.inr (Or.inr ⟨rfl, fun ⟨_, _, b, _⟩ => ygb_0 hs b, fun x => x.1 hs⟩)
/-- the step that keeps it so -/
def ygK (f : Int → Int) (n h r : Int) : Prop := (f h = 1 ∧ ((h + r) % n = 0 ∨ f ((h + r) % n) = -1)) ∨ (f h = 0 ∧ ¬ (h + r) % n = 0 ∧ f ((h + r) % n) = 0) ∨ (f h = -1 ∧ ¬ (h + r) % n = 0 ∧ f ((h + r) % n) = 1)
def ygsI (f : Int → Int) (n s h q : Int) : Prop := ∀ r, 1 ≤ r → r < q → ygb s r → ¬ ygK f n h r
def ygst (f : Int → Int) (n s h v : Int) : Prop := (v = -1 ∧ ygsI f n s h 11) ∨ ((1 ≤ v ∧ v ≤ 10) ∧ ygb s v ∧ ygK f n h v ∧ ygsI f n s h v)
theorem ygsI_0 {f : Int → Int} {n s h : Int} : ygsI f n s h 1 := fun r a b => absurd a (by omega)
theorem ygsI_x {f : Int → Int} {n s h q : Int} (I : ygsI f n s h q) (nb : ygb s q → ¬ ygK f n h q) : ygsI f n s h (q + 1) := by
  intro r a b c
  by_cases e : r = q
  · rw [e] at c ⊢; exact nb c
  · exact I r a (by omega) c
theorem ygst_n {f : Int → Int} {n s h q : Int} (I : ygsI f n s h q) (e : q = 11) : ygst f n s h (-1) := Or.inl ⟨rfl, by rw [← e]; exact I⟩
theorem ygst_v {f : Int → Int} {n s h q : Int} (I : ygsI f n s h q) (hq : 1 ≤ q ∧ q ≤ 10) (b : ygb s q) (k : ygK f n h q) : ygst f n s h q := Or.inr ⟨hq, b, k, I⟩
theorem ygst_u {f : Int → Int} {n s h v w : Int} (a : ygst f n s h v) (b : ygst f n s h w) : v = w := by
  rcases a with ⟨a1, a2⟩ | ⟨a1, a2, a3, a4⟩ <;> rcases b with ⟨b1, b2⟩ | ⟨b1, b2, b3, b4⟩
  · omega
  · exact absurd b3 (a2 w b1.1 (by omega) b2)
  · exact absurd a3 (b2 v a1.1 (by omega) a2)
  · rcases Int.lt_trichotomy v w with c | c | c
    · exact absurd a3 (b4 v a1.1 c a2)
    · exact c
    · exact absurd b3 (a4 w b1.1 c b2)
theorem ygst_f {f g : Int → Int} {n s h v : Int} (hn : 2 ≤ n) (hh : 0 ≤ h ∧ h < n) (e : ∀ k, 0 ≤ k → k < n → f k = g k) (a : ygst f n s h v) : ygst g n s h v := by
  have ek : ∀ r, ygK f n h r ↔ ygK g n h r := by
    intro r
    unfold ygK
    rw [e h hh.1 hh.2, e ((h + r) % n) (Int.emod_nonneg _ (by omega)) (Int.emod_lt_of_pos _ (by omega))]
  rcases a with ⟨a1, a2⟩ | ⟨a1, a2, a3, a4⟩
  · exact Or.inl ⟨a1, fun r x y z w => a2 r x y z ((ek r).mpr w)⟩
  · exact Or.inr ⟨a1, a2, (ek v).mp a3, fun r x y z w => a4 r x y z ((ek r).mpr w)⟩
/-- the reference's test -/
def ygKM (f : Int → Int) (n h r e : Int) : Prop := e = -1 ∨ (e = 1 ∧ ((h + r) % n = 0 ∨ f ((h + r) % n) = -1)) ∨ (¬ e = 1 ∧ ¬ (h + r) % n = 0 ∧ f ((h + r) % n) = 0)
theorem ygK_m {f : Int → Int} {n s h r : Int} (F : ygF n s f) (B : ∀ j, 0 ≤ j → j < n → -1 ≤ f j ∧ f j ≤ 1) (hn : 2 ≤ n) (hh : 0 ≤ h ∧ h < n) (hr : 1 ≤ r ∧ r ≤ 10) (hb : ygb s r) : ygKM f n h r (f h) ↔ ygK f n h r := by
  have bt := B ((h + r) % n) (Int.emod_nonneg _ (by omega)) (Int.emod_lt_of_pos _ (by omega))
  have bh := B h hh.1 hh.2
  have E := F.2 h hh.1 hh.2
  have key : f h = -1 → ¬ (h + r) % n = 0 ∧ f ((h + r) % n) = 1 := by
    intro e
    rw [e] at E
    rcases E with ⟨a, _⟩ | ⟨_, w, z⟩ | ⟨a, _⟩
    · omega
    · have w1 : ¬ ((h + r) % n = 0 ∨ f ((h + r) % n) = -1) := fun x => w ⟨r, hr, hb, x⟩
      have z1 := z.2 r hr.1 hr.2 hb
      omega
    · omega
  unfold ygKM ygK
  constructor
  · intro x
    rcases x with x | x | x
    · have := key x; omega
    · omega
    · omega
  · intro x; omega
def ygG (n s h w : Int) : Prop := (2 ≤ n ∧ n ≤ 60) ∧ (0 ≤ s ∧ s ≤ 1023) ∧ (0 ≤ h ∧ h ≤ n - 1) ∧ (0 ≤ w ∧ w ≤ 1)
def ygd (n s h w v : Int) : Prop := (ygG n s h w → ∃ f : Int → Int, ygF n s f ∧ (w = 0 → v = f h) ∧ (w = 1 → ygst f n s h v)) ∧ (¬ ygG n s h w → v = -10)
theorem ygd_n {n s h w v : Int} (g : ¬ ygG n s h w) (e : v = -10) : ygd n s h w v := ⟨fun z => absurd z g, fun _ => e⟩
theorem ygd_0 {n s h w v : Int} {f : Int → Int} (g : ygG n s h w) (F : ygF n s f) (hw : w = 0) (e : v = f h) : ygd n s h w v := ⟨fun _ => ⟨f, F, fun _ => e, fun z => absurd z (by omega)⟩, fun z => absurd g z⟩
theorem ygd_1 {n s h w v : Int} {f : Int → Int} (g : ygG n s h w) (F : ygF n s f) (hw : w = 1) (e : ygst f n s h v) : ygd n s h w v := ⟨fun _ => ⟨f, F, fun z => absurd z (by omega), fun _ => e⟩, fun z => absurd g z⟩
theorem ygd_u {n s h w v v' : Int} (a : ygd n s h w v) (b : ygd n s h w v') : v = v' := by
  by_cases g : ygG n s h w
  · obtain ⟨f, F, a0, a1⟩ := a.1 g
    obtain ⟨f', F', b0, b1⟩ := b.1 g
    have e := ygF_u F F'
    unfold ygG at g
    by_cases c : w = 0
    · rw [a0 c, b0 c]; exact e h (by omega) (by omega)
    · exact ygst_u (ygst_f (by omega) (by omega) e (a1 (by omega))) (b1 (by omega))
  · rw [a.2 g, b.2 g]

abbrev q2_X8_worthOfStep (h : zM) (p1 : Int) (p2 : Int) (p3 : Int) : Option zV → zM → Prop := zqi fun v h' => h = h' ∧ ((-1) ≤ v ∧ v ≤ 1) ∧ ((v = 1 ∧ ((p2 + p3) % p1 = 0 ∨ h.2 109 ((p2 + p3) % p1) = -1)) ∨ (v = 0 ∧ ¬ (p2 + p3) % p1 = 0 ∧ h.2 109 ((p2 + p3) % p1) = 0) ∨ (v = -1 ∧ ¬ (p2 + p3) % p1 = 0 ∧ h.2 109 ((p2 + p3) % p1) = 1))
set_option maxRecDepth 100000 in
set_option maxHeartbeats 4000000 in
theorem s2_X8_worthOfStep (l : Launch) (h : zM) (p1 : Int) (p2 : Int) (p3 : Int) (s0 : okC h) (b_p1 : 2 ≤ p1 ∧ p1 ≤ 60) (b_p2 : 0 ≤ p2 ∧ p2 ≤ 59) (b_p3 : 1 ≤ p3 ∧ p3 ≤ 10) (u_0 : ∀ j, 0 ≤ j → j < p1 → -1 ≤ h.2 109 j ∧ h.2 109 j ≤ 1) : zT shC l yX8_worthOfStep cX8_worthOfStep 5 (some .int) (rmL 1) 0 0 [.inr 108, .inl p1, .inl p2, .inl p3] h (q2_X8_worthOfStep h p1 p2 p3) := by
  refine zT_of (by decide +kernel) (L0 := [some (.inr 108), some (.inl p1), some (.inl p2), some (.inl p3), none]) rfl (Nat.le_of_ble_eq_true rfl) ?_
  refine zj_iload_n (zdk ttX8_worthOfStep 0 rfl rfl) rfl ?_
  refine zj_iload_n (zdk ttX8_worthOfStep 1 rfl rfl) rfl ?_
  refine zj_iadd (zdk ttX8_worthOfStep 2 rfl rfl) ?_
  refine zj_iload_n (zdk ttX8_worthOfStep 3 rfl rfl) rfl ?_
  refine zj_iremP (zdk ttX8_worthOfStep 4 rfl rfl) (by omega) (by omega) ?_
  have b1 := zmod_b (x := (p2 + p3)) (b := p1) (by omega) (by omega)
  refine zj_istore (L' := [some (.inr 108), some (.inl p1), some (.inl p2), some (.inl p3), some (.inl ((p2 + p3) % p1))]) (zdk ttX8_worthOfStep 5 rfl rfl) (by decide) rfl ?_
  refine zj_iload (zdk ttX8_worthOfStep 6 rfl rfl) rfl ?_
  refine zj_if_ne (t := 16) (zdk ttX8_worthOfStep 7 rfl rfl) (by decide) (by omega) (fun c2 => ?_) (fun c2 => ?_)
  · refine zj_aload_n (zdk ttX8_worthOfStep 10 rfl rfl) rfl (by decide) ?_
    refine zj_getr (r := 109) (zdk ttX8_worthOfStep 11 rfl rfl) zf_RX8_11 rfl (k_L108 s0) (rf_L108_0 s0) ?_
    refine zj_iload (zdk ttX8_worthOfStep 12 rfl rfl) rfl ?_
    have b3 : -2147483648 ≤ (h.2 109 ((p2 + p3) % p1)) ∧ (h.2 109 ((p2 + p3) % p1)) ≤ 2147483647 := ab_L108_0 s0 ((p2 + p3) % p1)
    refine zj_iald (v := (h.2 109 ((p2 + p3) % p1))) (zdk ttX8_worthOfStep 13 rfl rfl) (ka_L108_0 s0) (by decide) (by omega) rfl ?_
    have b4 := u_0 ((p2 + p3) % p1) (by omega) (by omega)
    refine zj_ineg (zdk ttX8_worthOfStep 14 rfl rfl) ?_
    exact zj_iret rfl (zdk ttX8_worthOfStep 15 rfl rfl) (Nat.le_refl _) (Nat.le_refl _) ⟨(-(h.2 109 ((p2 + p3) % p1))), rfl, rfl, by omega, by omega⟩
  · refine zj_iconst (zdk ttX8_worthOfStep 8 rfl rfl) ?_
    refine zj_goto (t := 24) (zdk ttX8_worthOfStep 9 rfl rfl) (by decide) ?_
    exact zj_iret rfl (zdk ttX8_worthOfStep 15 rfl rfl) (Nat.le_refl _) (Nat.le_refl _) ⟨1, rfl, rfl, by omega, by omega⟩

abbrev q2_X8_bestFrom (h : zM) (p1 : Int) (p2 : Int) (p3 : Int) : Option zV → zM → Prop := zqi fun v h' => h = h' ∧ ((-1) ≤ v ∧ v ≤ 1) ∧ (¬ p2 = 0 → yge (h.2 109) p1 p2 p3 v)
set_option maxRecDepth 100000 in
set_option maxHeartbeats 4000000 in
theorem s2_X8_bestFrom (l : Launch) (h : zM) (p1 : Int) (p2 : Int) (p3 : Int) (s0 : okC h) (b_p1 : 2 ≤ p1 ∧ p1 ≤ 60) (b_p2 : (-2147483648) ≤ p2 ∧ p2 ≤ 2147483647) (b_p3 : 0 ≤ p3 ∧ p3 ≤ 59) (u_0 : ∀ j, 0 ≤ j → j < p1 → -1 ≤ h.2 109 j ∧ h.2 109 j ≤ 1) : zT shC l yX8_bestFrom cX8_bestFrom 6 (some .int) (rmL 2) 0 0 [.inr 108, .inl p1, .inl p2, .inl p3] h (q2_X8_bestFrom h p1 p2 p3) := by
  refine zT_of (by decide +kernel) (L0 := [some (.inr 108), some (.inl p1), some (.inl p2), some (.inl p3), none, none]) rfl (Nat.le_of_ble_eq_true rfl) ?_
  refine zj_iconst (zdk ttX8_bestFrom 0 rfl rfl) ?_
  refine zj_istore (L' := [some (.inr 108), some (.inl p1), some (.inl p2), some (.inl p3), some (.inl (-1)), none]) (zdk ttX8_bestFrom 1 rfl rfl) (by decide) rfl ?_
  refine zj_iconst (zdk ttX8_bestFrom 2 rfl rfl) ?_
  refine zj_istore (L' := [some (.inr 108), some (.inl p1), some (.inl p2), some (.inl p3), some (.inl (-1)), some (.inl 1)]) (zdk ttX8_bestFrom 3 rfl rfl) (by decide) rfl ?_
  have lp13 : ∀ (n : Nat) (x1 x2 : Int), (-1 ≤ x1 ∧ x1 ≤ 1) → (1 ≤ x2 ∧ x2 ≤ 11) → (ygc (h.2 109) p1 p2 p3 x2 x1) → (12 - x2).toNat < n → zJ shC l yX8_bestFrom cX8_bestFrom 6 (some .int) (rmL 2) 0 0 (q2_X8_bestFrom h p1 p2 p3) 0 0 6 [some (.inr 108), some (.inl p1), some (.inl p2), some (.inl p3), some (.inl x1), some (.inl x2)] [] h := by
    intro n
    induction n with
    | zero => intro x1 x2 b14 b15 u16 m17; exact absurd m17 (Nat.not_lt_zero _)
    | succ n ih18 =>
      intro x1 x2 b14 b15 u16 m17
      refine zj_iload (zdk ttX8_bestFrom 4 rfl rfl) rfl ?_
      refine zj_bipush (zdk ttX8_bestFrom 5 rfl rfl) (by decide) ?_
      refine zj_icmp_gt (t := 46) (zdk ttX8_bestFrom 6 rfl rfl) (by decide) (by omega) (by decide) (fun c19 => ?_) (fun c19 => ?_)
      · refine zj_iload (zdk ttX8_bestFrom 26 rfl rfl) rfl ?_
        exact zj_iret rfl (zdk ttX8_bestFrom 27 rfl rfl) (Nat.le_refl _) (Nat.le_refl _) ⟨x1, rfl, rfl, by omega, fun z9 => ygc_e u16 (by omega) z9⟩
      · refine zj_iload_n (zdk ttX8_bestFrom 7 rfl rfl) rfl ?_
        refine zj_iload (zdk ttX8_bestFrom 8 rfl rfl) rfl ?_
        refine zj_iconst (zdk ttX8_bestFrom 9 rfl rfl) ?_
        refine zj_isub (zdk ttX8_bestFrom 10 rfl rfl) ?_
        refine zj_ishr (zdk ttX8_bestFrom 11 rfl rfl) ?_
        have b20 := zshr_in p2 (x2 - 1)
        refine zj_iconst (zdk ttX8_bestFrom 12 rfl rfl) ?_
        refine zj_iand (zdk ttX8_bestFrom 13 rfl rfl) ?_
        have b21 := zand_m (d := 2) 1 (by decide) (c := 1) (by decide) (by decide) (zshr p2 (x2 - 1))
        refine zj_iconst (zdk ttX8_bestFrom 14 rfl rfl) ?_
        refine zj_icmp_ne (t := 40) (zdk ttX8_bestFrom 15 rfl rfl) (by decide) (by omega) (by decide) (fun c22 => ?_) (fun c22 => ?_)
        · refine zj_iinc (L' := [some (.inr 108), some (.inl p1), some (.inl p2), some (.inl p3), some (.inl x1), some (.inl (x2 + 1))]) (zdk ttX8_bestFrom 24 rfl rfl) rfl (by decide) rfl ?_
          refine zj_goto (t := 6) (zdk ttX8_bestFrom 25 rfl rfl) (by decide) ?_
          exact ih18  x1 (x2 + 1) (by omega) (by omega) (ygc_x u16 (by omega)) (by omega)
        · refine zj_iload (zdk ttX8_bestFrom 16 rfl rfl) rfl ?_
          refine zj_aload_n (zdk ttX8_bestFrom 17 rfl rfl) rfl (by decide) ?_
          refine zj_iload_n (zdk ttX8_bestFrom 18 rfl rfl) rfl ?_
          refine zj_iload_n (zdk ttX8_bestFrom 19 rfl rfl) rfl ?_
          refine zj_iload (zdk ttX8_bestFrom 20 rfl rfl) rfl ?_
          refine zj_callV (av := [.inl p1, .inl p3, .inl x2]) (st := [.inl x1]) (zdk ttX8_bestFrom 21 rfl rfl) mb_X8_worthOfStep mv_RX8_111 (ci := 8) rfl rfl (k_L108 s0) rfl rfl (Nat.le_of_ble_eq_true rfl) (s2_X8_worthOfStep l h p1 p3 x2 s0 (by omega) (by omega) (by omega) u_0) (rm_ok (by decide) (by decide)) (zq_i fun v24 h25 q23 => ?_)
          obtain ⟨rfl, b26, u27⟩ := q23
          refine zj_max (zdk ttX8_bestFrom 22 rfl rfl) mx_RX8_37 (by omega) (by omega) (Nat.le_of_ble_eq_true rfl) (rm_m (by decide)) ?_
          have b28 := zm_max_f x1 v24
          refine zj_istore (L' := [some (.inr 108), some (.inl p1), some (.inl p2), some (.inl p3), some (.inl (zm_max x1 v24)), some (.inl x2)]) (zdk ttX8_bestFrom 23 rfl rfl) (by decide) rfl ?_
          refine zj_iinc (L' := [some (.inr 108), some (.inl p1), some (.inl p2), some (.inl p3), some (.inl (zm_max x1 v24)), some (.inl (x2 + 1))]) (zdk ttX8_bestFrom 24 rfl rfl) rfl (by decide) rfl ?_
          refine zj_goto (t := 6) (zdk ttX8_bestFrom 25 rfl rfl) (by decide) ?_
          exact ih18  (zm_max x1 v24) (x2 + 1) (by omega) (by omega) (ygc_y u16 (by omega) (by omega) u27 (by omega)) (by omega)
  exact lp13 _ (-1) 1 (by omega) (by omega) ygc_0 (Nat.lt_succ_self _)

abbrev q2_X8_judgeHours (h : zM) (p1 : Int) (p2 : Int) : Option zV → zM → Prop := zqv fun h' => okC h' ∧ (ygF p1 p2 (h'.2 109)) ∧ (∀ j, 0 ≤ j → j < p1 → -1 ≤ h'.2 109 j ∧ h'.2 109 j ≤ 1)
set_option maxRecDepth 100000 in
set_option maxHeartbeats 4000000 in
theorem s2_X8_judgeHours (l : Launch) (h : zM) (p1 : Int) (p2 : Int) (s0 : okC h) (b_p1 : 2 ≤ p1 ∧ p1 ≤ 60) (b_p2 : (-2147483648) ≤ p2 ∧ p2 ≤ 2147483647) : zT shC l yX8_judgeHours cX8_judgeHours 7 none (rmL 3) 0 0 [.inr 108, .inl p1, .inl p2] h (q2_X8_judgeHours h p1 p2) := by
  refine zT_of (by decide +kernel) (L0 := [some (.inr 108), some (.inl p1), some (.inl p2), none, none, none, none]) rfl (Nat.le_of_ble_eq_true rfl) ?_
  refine zj_aload_n (zdk ttX8_judgeHours 0 rfl rfl) rfl (by decide) ?_
  refine zj_getr (r := 109) (zdk ttX8_judgeHours 1 rfl rfl) zf_RX8_11 rfl (k_L108 s0) (rf_L108_0 s0) ?_
  refine zj_iconst (zdk ttX8_judgeHours 2 rfl rfl) ?_
  refine zj_callS (av := [.inr 109, .inl 0]) (st := []) (zdk ttX8_judgeHours 3 rfl rfl) mb_J7_fill_53178 ms_RX8_40 rfl rfl (Nat.le_of_ble_eq_true rfl) (s_J7_fill_53178 shC l h 109 0 (ka_L108_0 s0) (by decide)) (rm_ok (by decide) (by decide)) (zq_v fun h1 e2 => ?_)
  refine zj_iload_n (zdk ttX8_judgeHours 4 rfl rfl) rfl ?_
  refine zj_if_eq (t := 16) (zdk ttX8_judgeHours 5 rfl rfl) (by decide) (by omega) (fun c3 => ?_) (fun c3 => ?_)
  · refine zj_iconst (zdk ttX8_judgeHours 8 rfl rfl) ?_
    refine zj_istore_n (L' := [some (.inr 108), some (.inl p1), some (.inl p2), some (.inl 0), none, none, none]) (zdk ttX8_judgeHours 9 rfl rfl) (by decide) rfl ?_
    refine zj_iconst (zdk ttX8_judgeHours 10 rfl rfl) ?_
    refine zj_istore (L' := [some (.inr 108), some (.inl p1), some (.inl p2), some (.inl 0), some (.inl 0), none, none]) (zdk ttX8_judgeHours 11 rfl rfl) (by decide) rfl ?_
    have lp48 : ∀ (n : Nat) (x4 x5 : Int) (h6 : zM), (0 ≤ x4 ∧ x4 ≤ 1) → (0 ≤ x5 ∧ x5 ≤ 61) → okC h6 → (ygI p1 p2 (h6.2 109)) → (∀ j, 0 ≤ j → j < p1 → -1 ≤ h6.2 109 j ∧ h6.2 109 j ≤ 1) → (x4 = 0 → ygF p1 p2 (h6.2 109)) → (p2 = 0 → x4 = 0) → (x4 = 1 → x5 + (zcnt (h6.2 109) p1.toNat : Int) ≤ p1) → (62 - x5).toNat < n → zJ shC l yX8_judgeHours cX8_judgeHours 7 none (rmL 3) 0 0 (q2_X8_judgeHours h p1 p2) 0 0 21 [some (.inr 108), some (.inl p1), some (.inl p2), some (.inl x4), some (.inl x5), none, none] [] h6 := by
      intro n
      induction n with
      | zero => intro x4 x5 h6 b49 b50 s7 u51 u52 u53 u54 u55 m56; exact absurd m56 (Nat.not_lt_zero _)
      | succ n ih57 =>
        intro x4 x5 h6 b49 b50 s7 u51 u52 u53 u54 u55 m56
        refine zj_iload (zdk ttX8_judgeHours 12 rfl rfl) rfl ?_
        refine zj_iload_n (zdk ttX8_judgeHours 13 rfl rfl) rfl ?_
        refine zj_icmp_gt (t := 95) (zdk ttX8_judgeHours 14 rfl rfl) (by decide) (by omega) (by omega) (fun c58 => ?_) (fun c58 => ?_)
        · exact zj_vret rfl (zdk ttX8_judgeHours 51 rfl rfl) (Nat.le_refl _) (Nat.le_refl _) ⟨rfl, s7, (by by_cases z9 : x4 = 0; exact u53 z9; exfalso; omega), u52⟩
        · refine zj_iload_n (zdk ttX8_judgeHours 15 rfl rfl) rfl ?_
          refine zj_if_eq (t := 95) (zdk ttX8_judgeHours 16 rfl rfl) (by decide) (by omega) (fun c59 => ?_) (fun c59 => ?_)
          · exact zj_vret rfl (zdk ttX8_judgeHours 51 rfl rfl) (Nat.le_refl _) (Nat.le_refl _) ⟨rfl, s7, (by by_cases z9 : x4 = 0; exact u53 z9; exfalso; omega), u52⟩
          · refine zj_iconst (zdk ttX8_judgeHours 17 rfl rfl) ?_
            refine zj_istore_n (L' := [some (.inr 108), some (.inl p1), some (.inl p2), some (.inl 0), some (.inl x5), none, none]) (zdk ttX8_judgeHours 18 rfl rfl) (by decide) rfl ?_
            refine zj_iload_n (zdk ttX8_judgeHours 19 rfl rfl) rfl ?_
            refine zj_iconst (zdk ttX8_judgeHours 20 rfl rfl) ?_
            refine zj_isub (zdk ttX8_judgeHours 21 rfl rfl) ?_
            refine zj_istore (L' := [some (.inr 108), some (.inl p1), some (.inl p2), some (.inl 0), some (.inl x5), some (.inl (p1 - 1)), none]) (zdk ttX8_judgeHours 22 rfl rfl) (by decide) rfl ?_
            have lp76 : ∀ (n : Nat) (x60 x61 : Int) (h62 : zM), (0 ≤ x60 ∧ x60 ≤ 1) → (-1 ≤ x61 ∧ x61 ≤ 59) → okC h62 → (ygI p1 p2 (h62.2 109)) → (∀ j, 0 ≤ j → j < p1 → -1 ≤ h62.2 109 j ∧ h62.2 109 j ≤ 1) → (x60 = 0 → ∀ k, x61 < k → k < p1 → h62.2 109 k = 0 → yge (h62.2 109) p1 p2 k 0) → (x5 + (zcnt (h62.2 109) p1.toNat : Int) + x60 ≤ p1) → (x61 ≤ p1 - 1) → (x61 - -2).toNat < n → zJ shC l yX8_judgeHours cX8_judgeHours 7 none (rmL 3) 0 0 (q2_X8_judgeHours h p1 p2) 0 0 38 [some (.inr 108), some (.inl p1), some (.inl p2), some (.inl x60), some (.inl x5), some (.inl x61), none] [] h62 := by
              intro n
              induction n with
              | zero => intro x60 x61 h62 b77 b78 s63 u79 u80 u81 u82 u83 m84; exact absurd m84 (Nat.not_lt_zero _)
              | succ n ih85 =>
                intro x60 x61 h62 b77 b78 s63 u79 u80 u81 u82 u83 m84
                refine zj_iload (zdk ttX8_judgeHours 23 rfl rfl) rfl ?_
                refine zj_if_lt (t := 89) (zdk ttX8_judgeHours 24 rfl rfl) (by decide) (by omega) (fun c86 => ?_) (fun c86 => ?_)
                · refine zj_iinc (L' := [some (.inr 108), some (.inl p1), some (.inl p2), some (.inl x60), some (.inl (x5 + 1)), some (.inl x61), none]) (zdk ttX8_judgeHours 49 rfl rfl) rfl (by decide) rfl ?_
                  refine zj_goto (t := 21) (zdk ttX8_judgeHours 50 rfl rfl) (by decide) ?_
                  refine zj_kill (k := 5) (L' := [some (.inr 108), some (.inl p1), some (.inl p2), some (.inl x60), some (.inl (x5 + 1)), none, none]) rfl ?_
                  exact ih57  x60 (x5 + 1) h62 (by omega) (by omega) s63 u79 u80 (fun z => ygF_i u79 (fun k a b c => u81 z k (by omega) b c)) (by omega) (by omega) (by omega)
                · refine zj_aload_n (zdk ttX8_judgeHours 25 rfl rfl) rfl (by decide) ?_
                  refine zj_getr (r := 109) (zdk ttX8_judgeHours 26 rfl rfl) zf_RX8_11 rfl (k_L108 s63) (rf_L108_0 s63) ?_
                  refine zj_iload (zdk ttX8_judgeHours 27 rfl rfl) rfl ?_
                  have b87 : -2147483648 ≤ (h62.2 109 x61) ∧ (h62.2 109 x61) ≤ 2147483647 := ab_L108_0 s63 x61
                  refine zj_iald (v := (h62.2 109 x61)) (zdk ttX8_judgeHours 28 rfl rfl) (ka_L108_0 s63) (by decide) (by omega) rfl ?_
                  refine zj_if_ne (t := 64) (zdk ttX8_judgeHours 29 rfl rfl) (by decide) (by omega) (fun c88 => ?_) (fun c88 => ?_)
                  · refine zj_iconst (zdk ttX8_judgeHours 36 rfl rfl) ?_
                    refine zj_istore (L' := [some (.inr 108), some (.inl p1), some (.inl p2), some (.inl x60), some (.inl x5), some (.inl x61), some (.inl 0)]) (zdk ttX8_judgeHours 37 rfl rfl) (by decide) rfl ?_
                    refine zj_iload (zdk ttX8_judgeHours 38 rfl rfl) rfl ?_
                    refine zj_if_eq (t := 83) (zdk ttX8_judgeHours 39 rfl rfl) (by decide) (by decide) (fun c89 => ?_) (fun c89 => ?_)
                    · refine zj_iinc (L' := [some (.inr 108), some (.inl p1), some (.inl p2), some (.inl x60), some (.inl x5), some (.inl (x61 + (-1))), some (.inl 0)]) (zdk ttX8_judgeHours 47 rfl rfl) rfl (by decide) rfl ?_
                      refine zj_goto (t := 38) (zdk ttX8_judgeHours 48 rfl rfl) (by decide) ?_
                      refine zj_kill (k := 6) (L' := [some (.inr 108), some (.inl p1), some (.inl p2), some (.inl x60), some (.inl x5), some (.inl (x61 + (-1))), none]) rfl ?_
                      exact ih85  x60 (x61 + (-1)) h62 (by omega) (by omega) s63 u79 u80 (fun z k a b c => by
                          by_cases q : k = x61
                          · first | (rw [q] at c; exact absurd c (by omega)) | (rw [q]; exact yge_z (u72 (by omega)) (by omega))
                          · exact u81 z k (by omega) b c) (by omega) (by omega) (by omega)
                    · exact absurd c89 (by omega)
                  · refine zj_aload_n (zdk ttX8_judgeHours 30 rfl rfl) rfl (by decide) ?_
                    refine zj_iload_n (zdk ttX8_judgeHours 31 rfl rfl) rfl ?_
                    refine zj_iload_n (zdk ttX8_judgeHours 32 rfl rfl) rfl ?_
                    refine zj_iload (zdk ttX8_judgeHours 33 rfl rfl) rfl ?_
                    refine zj_callV (av := [.inl p1, .inl p2, .inl x61]) (st := []) (zdk ttX8_judgeHours 34 rfl rfl) mb_X8_bestFrom mv_RX8_107 (ci := 8) rfl rfl (k_L108 s63) rfl rfl (Nat.le_of_ble_eq_true rfl) (s2_X8_bestFrom l h62 p1 p2 x61 s63 (by omega) (by omega) (by omega) u80) (rm_ok (by decide) (by decide)) (zq_i fun v91 h92 q90 => ?_)
                    obtain ⟨rfl, b93, u94⟩ := q90
                    refine zj_goto (t := 65) (zdk ttX8_judgeHours 35 rfl rfl) (by decide) ?_
                    refine zj_istore (L' := [some (.inr 108), some (.inl p1), some (.inl p2), some (.inl x60), some (.inl x5), some (.inl x61), some (.inl v91)]) (zdk ttX8_judgeHours 37 rfl rfl) (by decide) rfl ?_
                    refine zj_iload (zdk ttX8_judgeHours 38 rfl rfl) rfl ?_
                    refine zj_if_eq (t := 83) (zdk ttX8_judgeHours 39 rfl rfl) (by decide) (by omega) (fun c95 => ?_) (fun c95 => ?_)
                    · refine zj_iinc (L' := [some (.inr 108), some (.inl p1), some (.inl p2), some (.inl x60), some (.inl x5), some (.inl (x61 + (-1))), some (.inl v91)]) (zdk ttX8_judgeHours 47 rfl rfl) rfl (by decide) rfl ?_
                      refine zj_goto (t := 38) (zdk ttX8_judgeHours 48 rfl rfl) (by decide) ?_
                      refine zj_kill (k := 6) (L' := [some (.inr 108), some (.inl p1), some (.inl p2), some (.inl x60), some (.inl x5), some (.inl (x61 + (-1))), none]) rfl ?_
                      exact ih85  x60 (x61 + (-1)) h62 (by omega) (by omega) s63 u79 u80 (fun z k a b c => by
                          by_cases q : k = x61
                          · first | (rw [q] at c; exact absurd c (by omega)) | (rw [q]; exact yge_z (u94 (by omega)) (by omega))
                          · exact u81 z k (by omega) b c) (by omega) (by omega) (by omega)
                    · refine zj_aload_n (zdk ttX8_judgeHours 40 rfl rfl) rfl (by decide) ?_
                      refine zj_getr (r := 109) (zdk ttX8_judgeHours 41 rfl rfl) zf_RX8_11 rfl (k_L108 s63) (rf_L108_0 s63) ?_
                      refine zj_iload (zdk ttX8_judgeHours 42 rfl rfl) rfl ?_
                      refine zj_iload (zdk ttX8_judgeHours 43 rfl rfl) rfl ?_
                      refine zj_iast (zdk ttX8_judgeHours 44 rfl rfl) (ka_L108_0 s63) (by decide) (by omega) (fun h96 e97 => ?_)
                      refine zj_iconst (zdk ttX8_judgeHours 45 rfl rfl) ?_
                      refine zj_istore_n (L' := [some (.inr 108), some (.inl p1), some (.inl p2), some (.inl 1), some (.inl x5), some (.inl x61), some (.inl v91)]) (zdk ttX8_judgeHours 46 rfl rfl) (by decide) rfl ?_
                      refine zj_iinc (L' := [some (.inr 108), some (.inl p1), some (.inl p2), some (.inl 1), some (.inl x5), some (.inl (x61 + (-1))), some (.inl v91)]) (zdk ttX8_judgeHours 47 rfl rfl) rfl (by decide) rfl ?_
                      refine zj_goto (t := 38) (zdk ttX8_judgeHours 48 rfl rfl) (by decide) ?_
                      refine zj_kill (k := 6) (L' := [some (.inr 108), some (.inl p1), some (.inl p2), some (.inl 1), some (.inl x5), some (.inl (x61 + (-1))), none]) rfl ?_
                      have s98 : okC h96 := aw_L108_0 s63 e97 (by omega)
                      have z99 := zcnt_w e97 (by omega) (by omega) (by omega) p1.toNat (by omega)
                      exact ih85  1 (x61 + (-1)) h96 (by omega) (by omega) s98 (ygI_s (k := x61) (e := v91) (by omega) u79 (by omega) (by omega) (u94 (by omega)) (by omega) (zwr_v e97) (fun j q => zwr_r e97 (by omega))) (fun j a b => by
                          by_cases q : j = x61
                          · rw [q, zwr_v e97]; omega
                          · rw [zwr_r e97 (by omega)]; exact u80 j a b) (fun z => absurd z (by omega)) (by omega) (by omega) (by omega)
            exact lp76 _ 0 (p1 - 1) h6 (by omega) (by omega) s7 u51 u52 (fun _ k a b => absurd a (by omega)) (by omega) (by omega) (Nat.lt_succ_self _)
    have s100 : okC h1 := okC_fill s0 e2 (fun j => pa_L108_0 (v := 0) (by omega) j) (na_L108_0).1 (na_L108_0).2
    have z101 : ∀ k, 0 ≤ k → k < p1 → h1.2 109 k = 0 := fun k a b => by rw [e2]; exact if_pos ⟨rfl, a, by omega⟩
    have z102 : ∀ k, 0 ≤ k → k < p1 → h1.2 109 k = 0 := fun k a b => by rw [e2]; exact if_pos ⟨rfl, a, by omega⟩
    have z103 : ∀ k, 0 ≤ k → k < p1 → h1.2 109 k = 0 := fun k a b => by rw [e2]; exact if_pos ⟨rfl, a, by omega⟩
    have z104 : ∀ k, 0 ≤ k → k < p1 → h1.2 109 k = 0 := fun k a b => by rw [e2]; exact if_pos ⟨rfl, a, by omega⟩
    have z105 : ∀ k, 0 ≤ k → k < p1 → h1.2 109 k = 0 := fun k a b => by rw [e2]; exact if_pos ⟨rfl, a, by omega⟩
    have z105c := zcnt_le (h1.2 109) p1.toNat
    exact lp48 _ 0 0 h1 (by omega) (by omega) s100 (ygI_0 z101) (fun j a b => by rw [z102 j a b]; omega) (fun _ => ygF_i (ygI_0 z103) (fun k a b c => yge_s0 (by omega))) (by omega) (by omega) (Nat.lt_succ_self _)
  · refine zj_iconst (zdk ttX8_judgeHours 6 rfl rfl) ?_
    refine zj_goto (t := 17) (zdk ttX8_judgeHours 7 rfl rfl) (by decide) ?_
    refine zj_istore_n (L' := [some (.inr 108), some (.inl p1), some (.inl p2), some (.inl 1), none, none, none]) (zdk ttX8_judgeHours 9 rfl rfl) (by decide) rfl ?_
    refine zj_iconst (zdk ttX8_judgeHours 10 rfl rfl) ?_
    refine zj_istore (L' := [some (.inr 108), some (.inl p1), some (.inl p2), some (.inl 1), some (.inl 0), none, none]) (zdk ttX8_judgeHours 11 rfl rfl) (by decide) rfl ?_
    have lp150 : ∀ (n : Nat) (x106 x107 : Int) (h108 : zM), (0 ≤ x106 ∧ x106 ≤ 1) → (0 ≤ x107 ∧ x107 ≤ 61) → okC h108 → (ygI p1 p2 (h108.2 109)) → (∀ j, 0 ≤ j → j < p1 → -1 ≤ h108.2 109 j ∧ h108.2 109 j ≤ 1) → (x106 = 0 → ygF p1 p2 (h108.2 109)) → (p2 = 0 → x106 = 0) → (x106 = 1 → x107 + (zcnt (h108.2 109) p1.toNat : Int) ≤ p1) → (62 - x107).toNat < n → zJ shC l yX8_judgeHours cX8_judgeHours 7 none (rmL 3) 0 0 (q2_X8_judgeHours h p1 p2) 0 0 21 [some (.inr 108), some (.inl p1), some (.inl p2), some (.inl x106), some (.inl x107), none, none] [] h108 := by
      intro n
      induction n with
      | zero => intro x106 x107 h108 b151 b152 s109 u153 u154 u155 u156 u157 m158; exact absurd m158 (Nat.not_lt_zero _)
      | succ n ih159 =>
        intro x106 x107 h108 b151 b152 s109 u153 u154 u155 u156 u157 m158
        refine zj_iload (zdk ttX8_judgeHours 12 rfl rfl) rfl ?_
        refine zj_iload_n (zdk ttX8_judgeHours 13 rfl rfl) rfl ?_
        refine zj_icmp_gt (t := 95) (zdk ttX8_judgeHours 14 rfl rfl) (by decide) (by omega) (by omega) (fun c160 => ?_) (fun c160 => ?_)
        · exact zj_vret rfl (zdk ttX8_judgeHours 51 rfl rfl) (Nat.le_refl _) (Nat.le_refl _) ⟨rfl, s109, (by by_cases z9 : x106 = 0; exact u155 z9; exfalso; omega), u154⟩
        · refine zj_iload_n (zdk ttX8_judgeHours 15 rfl rfl) rfl ?_
          refine zj_if_eq (t := 95) (zdk ttX8_judgeHours 16 rfl rfl) (by decide) (by omega) (fun c161 => ?_) (fun c161 => ?_)
          · exact zj_vret rfl (zdk ttX8_judgeHours 51 rfl rfl) (Nat.le_refl _) (Nat.le_refl _) ⟨rfl, s109, (by by_cases z9 : x106 = 0; exact u155 z9; exfalso; omega), u154⟩
          · refine zj_iconst (zdk ttX8_judgeHours 17 rfl rfl) ?_
            refine zj_istore_n (L' := [some (.inr 108), some (.inl p1), some (.inl p2), some (.inl 0), some (.inl x107), none, none]) (zdk ttX8_judgeHours 18 rfl rfl) (by decide) rfl ?_
            refine zj_iload_n (zdk ttX8_judgeHours 19 rfl rfl) rfl ?_
            refine zj_iconst (zdk ttX8_judgeHours 20 rfl rfl) ?_
            refine zj_isub (zdk ttX8_judgeHours 21 rfl rfl) ?_
            refine zj_istore (L' := [some (.inr 108), some (.inl p1), some (.inl p2), some (.inl 0), some (.inl x107), some (.inl (p1 - 1)), none]) (zdk ttX8_judgeHours 22 rfl rfl) (by decide) rfl ?_
            have lp178 : ∀ (n : Nat) (x162 x163 : Int) (h164 : zM), (0 ≤ x162 ∧ x162 ≤ 1) → (-1 ≤ x163 ∧ x163 ≤ 59) → okC h164 → (ygI p1 p2 (h164.2 109)) → (∀ j, 0 ≤ j → j < p1 → -1 ≤ h164.2 109 j ∧ h164.2 109 j ≤ 1) → (x162 = 0 → ∀ k, x163 < k → k < p1 → h164.2 109 k = 0 → yge (h164.2 109) p1 p2 k 0) → (x107 + (zcnt (h164.2 109) p1.toNat : Int) + x162 ≤ p1) → (x163 ≤ p1 - 1) → (x163 - -2).toNat < n → zJ shC l yX8_judgeHours cX8_judgeHours 7 none (rmL 3) 0 0 (q2_X8_judgeHours h p1 p2) 0 0 38 [some (.inr 108), some (.inl p1), some (.inl p2), some (.inl x162), some (.inl x107), some (.inl x163), none] [] h164 := by
              intro n
              induction n with
              | zero => intro x162 x163 h164 b179 b180 s165 u181 u182 u183 u184 u185 m186; exact absurd m186 (Nat.not_lt_zero _)
              | succ n ih187 =>
                intro x162 x163 h164 b179 b180 s165 u181 u182 u183 u184 u185 m186
                refine zj_iload (zdk ttX8_judgeHours 23 rfl rfl) rfl ?_
                refine zj_if_lt (t := 89) (zdk ttX8_judgeHours 24 rfl rfl) (by decide) (by omega) (fun c188 => ?_) (fun c188 => ?_)
                · refine zj_iinc (L' := [some (.inr 108), some (.inl p1), some (.inl p2), some (.inl x162), some (.inl (x107 + 1)), some (.inl x163), none]) (zdk ttX8_judgeHours 49 rfl rfl) rfl (by decide) rfl ?_
                  refine zj_goto (t := 21) (zdk ttX8_judgeHours 50 rfl rfl) (by decide) ?_
                  refine zj_kill (k := 5) (L' := [some (.inr 108), some (.inl p1), some (.inl p2), some (.inl x162), some (.inl (x107 + 1)), none, none]) rfl ?_
                  exact ih159  x162 (x107 + 1) h164 (by omega) (by omega) s165 u181 u182 (fun z => ygF_i u181 (fun k a b c => u183 z k (by omega) b c)) (by omega) (by omega) (by omega)
                · refine zj_aload_n (zdk ttX8_judgeHours 25 rfl rfl) rfl (by decide) ?_
                  refine zj_getr (r := 109) (zdk ttX8_judgeHours 26 rfl rfl) zf_RX8_11 rfl (k_L108 s165) (rf_L108_0 s165) ?_
                  refine zj_iload (zdk ttX8_judgeHours 27 rfl rfl) rfl ?_
                  have b189 : -2147483648 ≤ (h164.2 109 x163) ∧ (h164.2 109 x163) ≤ 2147483647 := ab_L108_0 s165 x163
                  refine zj_iald (v := (h164.2 109 x163)) (zdk ttX8_judgeHours 28 rfl rfl) (ka_L108_0 s165) (by decide) (by omega) rfl ?_
                  refine zj_if_ne (t := 64) (zdk ttX8_judgeHours 29 rfl rfl) (by decide) (by omega) (fun c190 => ?_) (fun c190 => ?_)
                  · refine zj_iconst (zdk ttX8_judgeHours 36 rfl rfl) ?_
                    refine zj_istore (L' := [some (.inr 108), some (.inl p1), some (.inl p2), some (.inl x162), some (.inl x107), some (.inl x163), some (.inl 0)]) (zdk ttX8_judgeHours 37 rfl rfl) (by decide) rfl ?_
                    refine zj_iload (zdk ttX8_judgeHours 38 rfl rfl) rfl ?_
                    refine zj_if_eq (t := 83) (zdk ttX8_judgeHours 39 rfl rfl) (by decide) (by decide) (fun c191 => ?_) (fun c191 => ?_)
                    · refine zj_iinc (L' := [some (.inr 108), some (.inl p1), some (.inl p2), some (.inl x162), some (.inl x107), some (.inl (x163 + (-1))), some (.inl 0)]) (zdk ttX8_judgeHours 47 rfl rfl) rfl (by decide) rfl ?_
                      refine zj_goto (t := 38) (zdk ttX8_judgeHours 48 rfl rfl) (by decide) ?_
                      refine zj_kill (k := 6) (L' := [some (.inr 108), some (.inl p1), some (.inl p2), some (.inl x162), some (.inl x107), some (.inl (x163 + (-1))), none]) rfl ?_
                      exact ih187  x162 (x163 + (-1)) h164 (by omega) (by omega) s165 u181 u182 (fun z k a b c => by
                          by_cases q : k = x163
                          · first | (rw [q] at c; exact absurd c (by omega)) | (rw [q]; exact yge_z (u174 (by omega)) (by omega))
                          · exact u183 z k (by omega) b c) (by omega) (by omega) (by omega)
                    · exact absurd c191 (by omega)
                  · refine zj_aload_n (zdk ttX8_judgeHours 30 rfl rfl) rfl (by decide) ?_
                    refine zj_iload_n (zdk ttX8_judgeHours 31 rfl rfl) rfl ?_
                    refine zj_iload_n (zdk ttX8_judgeHours 32 rfl rfl) rfl ?_
                    refine zj_iload (zdk ttX8_judgeHours 33 rfl rfl) rfl ?_
                    refine zj_callV (av := [.inl p1, .inl p2, .inl x163]) (st := []) (zdk ttX8_judgeHours 34 rfl rfl) mb_X8_bestFrom mv_RX8_107 (ci := 8) rfl rfl (k_L108 s165) rfl rfl (Nat.le_of_ble_eq_true rfl) (s2_X8_bestFrom l h164 p1 p2 x163 s165 (by omega) (by omega) (by omega) u182) (rm_ok (by decide) (by decide)) (zq_i fun v193 h194 q192 => ?_)
                    obtain ⟨rfl, b195, u196⟩ := q192
                    refine zj_goto (t := 65) (zdk ttX8_judgeHours 35 rfl rfl) (by decide) ?_
                    refine zj_istore (L' := [some (.inr 108), some (.inl p1), some (.inl p2), some (.inl x162), some (.inl x107), some (.inl x163), some (.inl v193)]) (zdk ttX8_judgeHours 37 rfl rfl) (by decide) rfl ?_
                    refine zj_iload (zdk ttX8_judgeHours 38 rfl rfl) rfl ?_
                    refine zj_if_eq (t := 83) (zdk ttX8_judgeHours 39 rfl rfl) (by decide) (by omega) (fun c197 => ?_) (fun c197 => ?_)
                    · refine zj_iinc (L' := [some (.inr 108), some (.inl p1), some (.inl p2), some (.inl x162), some (.inl x107), some (.inl (x163 + (-1))), some (.inl v193)]) (zdk ttX8_judgeHours 47 rfl rfl) rfl (by decide) rfl ?_
                      refine zj_goto (t := 38) (zdk ttX8_judgeHours 48 rfl rfl) (by decide) ?_
                      refine zj_kill (k := 6) (L' := [some (.inr 108), some (.inl p1), some (.inl p2), some (.inl x162), some (.inl x107), some (.inl (x163 + (-1))), none]) rfl ?_
                      exact ih187  x162 (x163 + (-1)) h164 (by omega) (by omega) s165 u181 u182 (fun z k a b c => by
                          by_cases q : k = x163
                          · first | (rw [q] at c; exact absurd c (by omega)) | (rw [q]; exact yge_z (u196 (by omega)) (by omega))
                          · exact u183 z k (by omega) b c) (by omega) (by omega) (by omega)
                    · refine zj_aload_n (zdk ttX8_judgeHours 40 rfl rfl) rfl (by decide) ?_
                      refine zj_getr (r := 109) (zdk ttX8_judgeHours 41 rfl rfl) zf_RX8_11 rfl (k_L108 s165) (rf_L108_0 s165) ?_
                      refine zj_iload (zdk ttX8_judgeHours 42 rfl rfl) rfl ?_
                      refine zj_iload (zdk ttX8_judgeHours 43 rfl rfl) rfl ?_
                      refine zj_iast (zdk ttX8_judgeHours 44 rfl rfl) (ka_L108_0 s165) (by decide) (by omega) (fun h198 e199 => ?_)
                      refine zj_iconst (zdk ttX8_judgeHours 45 rfl rfl) ?_
                      refine zj_istore_n (L' := [some (.inr 108), some (.inl p1), some (.inl p2), some (.inl 1), some (.inl x107), some (.inl x163), some (.inl v193)]) (zdk ttX8_judgeHours 46 rfl rfl) (by decide) rfl ?_
                      refine zj_iinc (L' := [some (.inr 108), some (.inl p1), some (.inl p2), some (.inl 1), some (.inl x107), some (.inl (x163 + (-1))), some (.inl v193)]) (zdk ttX8_judgeHours 47 rfl rfl) rfl (by decide) rfl ?_
                      refine zj_goto (t := 38) (zdk ttX8_judgeHours 48 rfl rfl) (by decide) ?_
                      refine zj_kill (k := 6) (L' := [some (.inr 108), some (.inl p1), some (.inl p2), some (.inl 1), some (.inl x107), some (.inl (x163 + (-1))), none]) rfl ?_
                      have s200 : okC h198 := aw_L108_0 s165 e199 (by omega)
                      have z201 := zcnt_w e199 (by omega) (by omega) (by omega) p1.toNat (by omega)
                      exact ih187  1 (x163 + (-1)) h198 (by omega) (by omega) s200 (ygI_s (k := x163) (e := v193) (by omega) u181 (by omega) (by omega) (u196 (by omega)) (by omega) (zwr_v e199) (fun j q => zwr_r e199 (by omega))) (fun j a b => by
                          by_cases q : j = x163
                          · rw [q, zwr_v e199]; omega
                          · rw [zwr_r e199 (by omega)]; exact u182 j a b) (fun z => absurd z (by omega)) (by omega) (by omega) (by omega)
            exact lp178 _ 0 (p1 - 1) h108 (by omega) (by omega) s109 u153 u154 (fun _ k a b => absurd a (by omega)) (by omega) (by omega) (Nat.lt_succ_self _)
    have s202 : okC h1 := okC_fill s0 e2 (fun j => pa_L108_0 (v := 0) (by omega) j) (na_L108_0).1 (na_L108_0).2
    have z203 : ∀ k, 0 ≤ k → k < p1 → h1.2 109 k = 0 := fun k a b => by rw [e2]; exact if_pos ⟨rfl, a, by omega⟩
    have z204 : ∀ k, 0 ≤ k → k < p1 → h1.2 109 k = 0 := fun k a b => by rw [e2]; exact if_pos ⟨rfl, a, by omega⟩
    have z205 : ∀ k, 0 ≤ k → k < p1 → h1.2 109 k = 0 := fun k a b => by rw [e2]; exact if_pos ⟨rfl, a, by omega⟩
    have z206 : ∀ k, 0 ≤ k → k < p1 → h1.2 109 k = 0 := fun k a b => by rw [e2]; exact if_pos ⟨rfl, a, by omega⟩
    have z207 : ∀ k, 0 ≤ k → k < p1 → h1.2 109 k = 0 := fun k a b => by rw [e2]; exact if_pos ⟨rfl, a, by omega⟩
    have z207c := zcnt_le (h1.2 109) p1.toNat
    exact lp150 _ 1 0 h1 (by omega) (by omega) s202 (ygI_0 z203) (fun j a b => by rw [z204 j a b]; omega) (fun z => absurd z (by omega)) (by omega) (by omega) (Nat.lt_succ_self _)

abbrev q2_X8_stepThatKeeps (h : zM) (p1 : Int) (p2 : Int) (p3 : Int) : Option zV → zM → Prop := zqi fun v h' => h = h' ∧ ((-1) ≤ v ∧ v ≤ 10) ∧ (ygst (h.2 109) p1 p2 p3 v)
set_option maxRecDepth 100000 in
set_option maxHeartbeats 4000000 in
theorem s2_X8_stepThatKeeps (l : Launch) (h : zM) (p1 : Int) (p2 : Int) (p3 : Int) (s0 : okC h) (b_p1 : 2 ≤ p1 ∧ p1 ≤ 60) (b_p2 : (-2147483648) ≤ p2 ∧ p2 ≤ 2147483647) (b_p3 : 0 ≤ p3 ∧ p3 ≤ 59) (u_0 : ∀ j, 0 ≤ j → j < p1 → -1 ≤ h.2 109 j ∧ h.2 109 j ≤ 1) (u_1 : p3 < p1) : zT shC l yX8_stepThatKeeps cX8_stepThatKeeps 5 (some .int) (rmL 2) 0 0 [.inr 108, .inl p1, .inl p2, .inl p3] h (q2_X8_stepThatKeeps h p1 p2 p3) := by
  refine zT_of (by decide +kernel) (L0 := [some (.inr 108), some (.inl p1), some (.inl p2), some (.inl p3), none]) rfl (Nat.le_of_ble_eq_true rfl) ?_
  refine zj_iconst (zdk ttX8_stepThatKeeps 0 rfl rfl) ?_
  refine zj_istore (L' := [some (.inr 108), some (.inl p1), some (.inl p2), some (.inl p3), some (.inl 1)]) (zdk ttX8_stepThatKeeps 1 rfl rfl) (by decide) rfl ?_
  have lp13 : ∀ (n : Nat) (x1 : Int), (1 ≤ x1 ∧ x1 ≤ 11) → (ygsI (h.2 109) p1 p2 p3 x1) → (12 - x1).toNat < n → zJ shC l yX8_stepThatKeeps cX8_stepThatKeeps 5 (some .int) (rmL 2) 0 0 (q2_X8_stepThatKeeps h p1 p2 p3) 0 0 3 [some (.inr 108), some (.inl p1), some (.inl p2), some (.inl p3), some (.inl x1)] [] h := by
    intro n
    induction n with
    | zero => intro x1 b14 u15 m16; exact absurd m16 (Nat.not_lt_zero _)
    | succ n ih17 =>
      intro x1 b14 u15 m16
      refine zj_iload (zdk ttX8_stepThatKeeps 2 rfl rfl) rfl ?_
      refine zj_bipush (zdk ttX8_stepThatKeeps 3 rfl rfl) (by decide) ?_
      refine zj_icmp_gt (t := 48) (zdk ttX8_stepThatKeeps 4 rfl rfl) (by decide) (by omega) (by decide) (fun c18 => ?_) (fun c18 => ?_)
      · refine zj_iconst (zdk ttX8_stepThatKeeps 28 rfl rfl) ?_
        exact zj_iret rfl (zdk ttX8_stepThatKeeps 29 rfl rfl) (Nat.le_refl _) (Nat.le_refl _) ⟨(-1), rfl, rfl, by omega, by first | exact ygst_n u15 (by omega) | exact ygst_v u15 (by omega) (by omega) (by unfold ygK; omega)⟩
      · refine zj_iload_n (zdk ttX8_stepThatKeeps 5 rfl rfl) rfl ?_
        refine zj_iload (zdk ttX8_stepThatKeeps 6 rfl rfl) rfl ?_
        refine zj_iconst (zdk ttX8_stepThatKeeps 7 rfl rfl) ?_
        refine zj_isub (zdk ttX8_stepThatKeeps 8 rfl rfl) ?_
        refine zj_ishr (zdk ttX8_stepThatKeeps 9 rfl rfl) ?_
        have b19 := zshr_in p2 (x1 - 1)
        refine zj_iconst (zdk ttX8_stepThatKeeps 10 rfl rfl) ?_
        refine zj_iand (zdk ttX8_stepThatKeeps 11 rfl rfl) ?_
        have b20 := zand_m (d := 2) 1 (by decide) (c := 1) (by decide) (by decide) (zshr p2 (x1 - 1))
        refine zj_iconst (zdk ttX8_stepThatKeeps 12 rfl rfl) ?_
        refine zj_icmp_ne (t := 42) (zdk ttX8_stepThatKeeps 13 rfl rfl) (by decide) (by omega) (by decide) (fun c21 => ?_) (fun c21 => ?_)
        · refine zj_iinc (L' := [some (.inr 108), some (.inl p1), some (.inl p2), some (.inl p3), some (.inl (x1 + 1))]) (zdk ttX8_stepThatKeeps 26 rfl rfl) rfl (by decide) rfl ?_
          refine zj_goto (t := 3) (zdk ttX8_stepThatKeeps 27 rfl rfl) (by decide) ?_
          exact ih17  (x1 + 1) (by omega) (ygsI_x u15 (fun z8 z9 => by first | exact absurd z8 (by omega) | (unfold ygK at z9; omega))) (by omega)
        · refine zj_aload_n (zdk ttX8_stepThatKeeps 14 rfl rfl) rfl (by decide) ?_
          refine zj_iload_n (zdk ttX8_stepThatKeeps 15 rfl rfl) rfl ?_
          refine zj_iload_n (zdk ttX8_stepThatKeeps 16 rfl rfl) rfl ?_
          refine zj_iload (zdk ttX8_stepThatKeeps 17 rfl rfl) rfl ?_
          refine zj_callV (av := [.inl p1, .inl p3, .inl x1]) (st := []) (zdk ttX8_stepThatKeeps 18 rfl rfl) mb_X8_worthOfStep mv_RX8_111 (ci := 8) rfl rfl (k_L108 s0) rfl rfl (Nat.le_of_ble_eq_true rfl) (s2_X8_worthOfStep l h p1 p3 x1 s0 (by omega) (by omega) (by omega) u_0) (rm_ok (by decide) (by decide)) (zq_i fun v23 h24 q22 => ?_)
          obtain ⟨rfl, b25, u26⟩ := q22
          refine zj_aload_n (zdk ttX8_stepThatKeeps 19 rfl rfl) rfl (by decide) ?_
          refine zj_getr (r := 109) (zdk ttX8_stepThatKeeps 20 rfl rfl) zf_RX8_11 rfl (k_L108 s0) (rf_L108_0 s0) ?_
          refine zj_iload_n (zdk ttX8_stepThatKeeps 21 rfl rfl) rfl ?_
          have b27 : -2147483648 ≤ (h.2 109 p3) ∧ (h.2 109 p3) ≤ 2147483647 := ab_L108_0 s0 p3
          refine zj_iald (v := (h.2 109 p3)) (zdk ttX8_stepThatKeeps 22 rfl rfl) (ka_L108_0 s0) (by decide) (by omega) rfl ?_
          refine zj_icmp_ne (t := 42) (zdk ttX8_stepThatKeeps 23 rfl rfl) (by decide) (by omega) (by omega) (fun c28 => ?_) (fun c28 => ?_)
          · refine zj_iinc (L' := [some (.inr 108), some (.inl p1), some (.inl p2), some (.inl p3), some (.inl (x1 + 1))]) (zdk ttX8_stepThatKeeps 26 rfl rfl) rfl (by decide) rfl ?_
            refine zj_goto (t := 3) (zdk ttX8_stepThatKeeps 27 rfl rfl) (by decide) ?_
            exact ih17  (x1 + 1) (by omega) (ygsI_x u15 (fun z8 z9 => by first | exact absurd z8 (by omega) | (unfold ygK at z9; omega))) (by omega)
          · refine zj_iload (zdk ttX8_stepThatKeeps 24 rfl rfl) rfl ?_
            exact zj_iret rfl (zdk ttX8_stepThatKeeps 25 rfl rfl) (Nat.le_refl _) (Nat.le_refl _) ⟨x1, rfl, rfl, by omega, by first | exact ygst_n u15 (by omega) | exact ygst_v u15 (by omega) (by omega) (by unfold ygK; omega)⟩
  exact lp13 _ 1 (by omega) ygsI_0 (Nat.lt_succ_self _)

abbrev q2_X10_game (h : zM) (p1 : Int) (p2 : Int) (p3 : Int) (p4 : Int) : Option zV → zM → Prop := zqi fun v h' => ((-2147483648) ≤ v ∧ v ≤ 2147483647) ∧ okC h' ∧ (ygd p1 p2 p3 p4 v)
set_option maxRecDepth 100000 in
set_option maxHeartbeats 4000000 in
theorem s2_X10_game (l : Launch) (h : zM) (p1 : Int) (p2 : Int) (p3 : Int) (p4 : Int) (s0 : okC h) (b_p1 : (-2147483648) ≤ p1 ∧ p1 ≤ 2147483647) (b_p2 : (-2147483648) ≤ p2 ∧ p2 ≤ 2147483647) (b_p3 : (-2147483648) ≤ p3 ∧ p3 ≤ 2147483647) (b_p4 : (-2147483648) ≤ p4 ∧ p4 ≤ 2147483647) : zT shC l yX10_game cX10_game 5 (some .int) (rmL 4) 0 0 [.inr 0, .inl p1, .inl p2, .inl p3, .inl p4] h (q2_X10_game h p1 p2 p3 p4) := by
  refine zT_of (by decide +kernel) (L0 := [some (.inr 0), some (.inl p1), some (.inl p2), some (.inl p3), some (.inl p4)]) rfl (Nat.le_of_ble_eq_true rfl) ?_
  refine zj_iload_n (zdk ttX10_game 0 rfl rfl) rfl ?_
  refine zj_iconst (zdk ttX10_game 1 rfl rfl) ?_
  refine zj_bipush (zdk ttX10_game 2 rfl rfl) (by decide) ?_
  refine zj_callS (av := [.inl p1, .inl 2, .inl 60]) (st := []) (zdk ttX10_game 3 rfl rfl) mb_X10_within ms_RX10_77 rfl rfl (Nat.le_of_ble_eq_true rfl) (s_X10_within l h p1 2 60 s0 (by omega) (by omega) (by omega)) (rm_ok (by decide) (by decide)) (zq_i fun v2 h3 q1 => ?_)
  obtain ⟨rfl, ⟨rfl, b4⟩ | ⟨rfl, b4⟩⟩ := q1
  · refine zj_if_eq (t := 42) (zdk ttX10_game 4 rfl rfl) (by decide) (by decide) (fun c5 => ?_) (fun c5 => ?_)
    · refine zj_bipush (zdk ttX10_game 22 rfl rfl) (by decide) ?_
      exact zj_iret rfl (zdk ttX10_game 23 rfl rfl) (Nat.le_refl _) (Nat.le_refl _) ⟨(-10), rfl, by omega, s0, ygd_n (by unfold ygG; omega) (by omega)⟩
    · exact absurd c5 (by omega)
  · refine zj_if_eq (t := 42) (zdk ttX10_game 4 rfl rfl) (by decide) (by decide) (fun c6 => ?_) (fun c6 => ?_)
    · exact absurd c6 (by omega)
    · refine zj_iload_n (zdk ttX10_game 5 rfl rfl) rfl ?_
      refine zj_iconst (zdk ttX10_game 6 rfl rfl) ?_
      refine zj_sipush (zdk ttX10_game 7 rfl rfl) (by decide) ?_
      refine zj_callS (av := [.inl p2, .inl 0, .inl 1023]) (st := []) (zdk ttX10_game 8 rfl rfl) mb_X10_within ms_RX10_77 rfl rfl (Nat.le_of_ble_eq_true rfl) (s_X10_within l h p2 0 1023 s0 (by omega) (by omega) (by omega)) (rm_ok (by decide) (by decide)) (zq_i fun v8 h9 q7 => ?_)
      obtain ⟨rfl, ⟨rfl, b10⟩ | ⟨rfl, b10⟩⟩ := q7
      · refine zj_if_eq (t := 42) (zdk ttX10_game 9 rfl rfl) (by decide) (by decide) (fun c11 => ?_) (fun c11 => ?_)
        · refine zj_bipush (zdk ttX10_game 22 rfl rfl) (by decide) ?_
          exact zj_iret rfl (zdk ttX10_game 23 rfl rfl) (Nat.le_refl _) (Nat.le_refl _) ⟨(-10), rfl, by omega, s0, ygd_n (by unfold ygG; omega) (by omega)⟩
        · exact absurd c11 (by omega)
      · refine zj_if_eq (t := 42) (zdk ttX10_game 9 rfl rfl) (by decide) (by decide) (fun c12 => ?_) (fun c12 => ?_)
        · exact absurd c12 (by omega)
        · refine zj_iload_n (zdk ttX10_game 10 rfl rfl) rfl ?_
          refine zj_iconst (zdk ttX10_game 11 rfl rfl) ?_
          refine zj_iload_n (zdk ttX10_game 12 rfl rfl) rfl ?_
          refine zj_iconst (zdk ttX10_game 13 rfl rfl) ?_
          refine zj_isub (zdk ttX10_game 14 rfl rfl) ?_
          refine zj_callS (av := [.inl p3, .inl 0, .inl (p1 - 1)]) (st := []) (zdk ttX10_game 15 rfl rfl) mb_X10_within ms_RX10_77 rfl rfl (Nat.le_of_ble_eq_true rfl) (s_X10_within l h p3 0 (p1 - 1) s0 (by omega) (by omega) (by omega)) (rm_ok (by decide) (by decide)) (zq_i fun v14 h15 q13 => ?_)
          obtain ⟨rfl, ⟨rfl, b16⟩ | ⟨rfl, b16⟩⟩ := q13
          · refine zj_if_eq (t := 42) (zdk ttX10_game 16 rfl rfl) (by decide) (by decide) (fun c17 => ?_) (fun c17 => ?_)
            · refine zj_bipush (zdk ttX10_game 22 rfl rfl) (by decide) ?_
              exact zj_iret rfl (zdk ttX10_game 23 rfl rfl) (Nat.le_refl _) (Nat.le_refl _) ⟨(-10), rfl, by omega, s0, ygd_n (by unfold ygG; omega) (by omega)⟩
            · exact absurd c17 (by omega)
          · refine zj_if_eq (t := 42) (zdk ttX10_game 16 rfl rfl) (by decide) (by decide) (fun c18 => ?_) (fun c18 => ?_)
            · exact absurd c18 (by omega)
            · refine zj_iload (zdk ttX10_game 17 rfl rfl) rfl ?_
              refine zj_iconst (zdk ttX10_game 18 rfl rfl) ?_
              refine zj_iconst (zdk ttX10_game 19 rfl rfl) ?_
              refine zj_callS (av := [.inl p4, .inl 0, .inl 1]) (st := []) (zdk ttX10_game 20 rfl rfl) mb_X10_within ms_RX10_77 rfl rfl (Nat.le_of_ble_eq_true rfl) (s_X10_within l h p4 0 1 s0 (by omega) (by omega) (by omega)) (rm_ok (by decide) (by decide)) (zq_i fun v20 h21 q19 => ?_)
              obtain ⟨rfl, ⟨rfl, b22⟩ | ⟨rfl, b22⟩⟩ := q19
              · refine zj_if_ne (t := 45) (zdk ttX10_game 21 rfl rfl) (by decide) (by decide) (fun c23 => ?_) (fun c23 => ?_)
                · exact absurd c23 (by omega)
                · refine zj_bipush (zdk ttX10_game 22 rfl rfl) (by decide) ?_
                  exact zj_iret rfl (zdk ttX10_game 23 rfl rfl) (Nat.le_refl _) (Nat.le_refl _) ⟨(-10), rfl, by omega, s0, ygd_n (by unfold ygG; omega) (by omega)⟩
              · refine zj_if_ne (t := 45) (zdk ttX10_game 21 rfl rfl) (by decide) (by decide) (fun c24 => ?_) (fun c24 => ?_)
                · refine zj_aload_n (zdk ttX10_game 24 rfl rfl) rfl (by decide) ?_
                  refine zj_getr (r := 108) (zdk ttX10_game 25 rfl rfl) zf_RX10_41 rfl (k_L0 s0) (rf_L0_5 s0) ?_
                  refine zj_iload_n (zdk ttX10_game 26 rfl rfl) rfl ?_
                  refine zj_iload_n (zdk ttX10_game 27 rfl rfl) rfl ?_
                  refine zj_callV (av := [.inl p1, .inl p2]) (st := []) (zdk ttX10_game 28 rfl rfl) mb_X8_judgeHours mv_RX10_322 (ci := 8) rfl rfl (k_L108 s0) rfl rfl (Nat.le_of_ble_eq_true rfl) (s2_X8_judgeHours l h p1 p2 s0 (by omega) (by omega)) (rm_ok (by decide) (by decide)) (zq_v fun h27 q25 => ?_)
                  obtain ⟨s29, u30, u31⟩ := q25
                  refine zj_iload (zdk ttX10_game 29 rfl rfl) rfl ?_
                  refine zj_if_ne (t := 71) (zdk ttX10_game 30 rfl rfl) (by decide) (by omega) (fun c32 => ?_) (fun c32 => ?_)
                  · refine zj_aload_n (zdk ttX10_game 37 rfl rfl) rfl (by decide) ?_
                    refine zj_getr (r := 108) (zdk ttX10_game 38 rfl rfl) zf_RX10_41 rfl (k_L0 s29) (rf_L0_5 s29) ?_
                    refine zj_iload_n (zdk ttX10_game 39 rfl rfl) rfl ?_
                    refine zj_iload_n (zdk ttX10_game 40 rfl rfl) rfl ?_
                    refine zj_iload_n (zdk ttX10_game 41 rfl rfl) rfl ?_
                    refine zj_callV (av := [.inl p1, .inl p2, .inl p3]) (st := []) (zdk ttX10_game 42 rfl rfl) mb_X8_stepThatKeeps mv_RX10_329 (ci := 8) rfl rfl (k_L108 s29) rfl rfl (Nat.le_of_ble_eq_true rfl) (s2_X8_stepThatKeeps l h27 p1 p2 p3 s29 (by omega) (by omega) (by omega) u31 (by omega)) (rm_ok (by decide) (by decide)) (zq_i fun v34 h35 q33 => ?_)
                    obtain ⟨rfl, b36, u37⟩ := q33
                    exact zj_iret rfl (zdk ttX10_game 43 rfl rfl) (Nat.le_refl _) (Nat.le_refl _) ⟨v34, rfl, by omega, s29, by first | exact ygd_n (by unfold ygG; omega) (by omega) | exact ygd_0 (by unfold ygG; omega) u30 (by omega) rfl | exact ygd_1 (by unfold ygG; omega) u30 (by omega) u37⟩
                  · refine zj_aload_n (zdk ttX10_game 31 rfl rfl) rfl (by decide) ?_
                    refine zj_getr (r := 108) (zdk ttX10_game 32 rfl rfl) zf_RX10_41 rfl (k_L0 s29) (rf_L0_5 s29) ?_
                    refine zj_getr (r := 109) (zdk ttX10_game 33 rfl rfl) zf_RX10_326 rfl (k_L108 s29) (rf_L108_0 s29) ?_
                    refine zj_iload_n (zdk ttX10_game 34 rfl rfl) rfl ?_
                    have b38 : -2147483648 ≤ (h27.2 109 p3) ∧ (h27.2 109 p3) ≤ 2147483647 := ab_L108_0 s29 p3
                    refine zj_iald (v := (h27.2 109 p3)) (zdk ttX10_game 35 rfl rfl) (ka_L108_0 s29) (by decide) (by omega) rfl ?_
                    refine zj_goto (t := 81) (zdk ttX10_game 36 rfl rfl) (by decide) ?_
                    exact zj_iret rfl (zdk ttX10_game 43 rfl rfl) (Nat.le_refl _) (Nat.le_refl _) ⟨(h27.2 109 p3), rfl, by omega, s29, by first | exact ygd_n (by unfold ygG; omega) (by omega) | exact ygd_0 (by unfold ygG; omega) u30 (by omega) rfl | exact ygd_1 (by unfold ygG; omega) u30 (by omega) u37⟩
                · exact absurd c24 (by omega)

abbrev q2_X11_keepsSo (h : zM) (p1 : Int) (p2 : Int) (p3 : Int) (p4 : Int) : Option zV → zM → Prop := zqi fun v h' => h = h' ∧ (0 ≤ v ∧ v ≤ 1) ∧ ((v = 1 ∧ ygKM (h.2 34) p1 p2 p3 p4) ∨ (v = 0 ∧ ¬ ygKM (h.2 34) p1 p2 p3 p4))
set_option maxRecDepth 100000 in
set_option maxHeartbeats 4000000 in
theorem s2_X11_keepsSo (l : Launch) (h : zM) (p1 : Int) (p2 : Int) (p3 : Int) (p4 : Int) (s0 : okM h) (b_p1 : 2 ≤ p1 ∧ p1 ≤ 60) (b_p2 : 0 ≤ p2 ∧ p2 ≤ 59) (b_p3 : 1 ≤ p3 ∧ p3 ≤ 10) (b_p4 : (-2147483648) ≤ p4 ∧ p4 ≤ 2147483647) : zT shM l yX11_keepsSo cX11_keepsSo 6 (some .boolean) (rmL 2) 0 0 [.inr 0, .inl p1, .inl p2, .inl p3, .inl p4] h (q2_X11_keepsSo h p1 p2 p3 p4) := by
  refine zT_of (by decide +kernel) (L0 := [some (.inr 0), some (.inl p1), some (.inl p2), some (.inl p3), some (.inl p4), none]) rfl (Nat.le_of_ble_eq_true rfl) ?_
  refine zj_aload_n (zdk ttX11_keepsSo 0 rfl rfl) rfl (by decide) ?_
  refine zj_iload_n (zdk ttX11_keepsSo 1 rfl rfl) rfl ?_
  refine zj_iload_n (zdk ttX11_keepsSo 2 rfl rfl) rfl ?_
  refine zj_iload_n (zdk ttX11_keepsSo 3 rfl rfl) rfl ?_
  refine zj_callV (av := [.inl p1, .inl p2, .inl p3]) (st := []) (zdk ttX11_keepsSo 4 rfl rfl) mb_X11_leadsTo mv_RX11_451 (ci := 11) rfl rfl (k_M s0) rfl rfl (Nat.le_of_ble_eq_true rfl) (s_X11_leadsTo l h p1 p2 p3 s0 (by omega) (by omega) (by omega)) (rm_ok (by decide) (by decide)) (zq_i fun v2 h3 q1 => ?_)
  obtain ⟨rfl, rfl, b4⟩ := q1
  refine zj_istore (L' := [some (.inr 0), some (.inl p1), some (.inl p2), some (.inl p3), some (.inl p4), some (.inl ((p2 + p3) % p1))]) (zdk ttX11_keepsSo 5 rfl rfl) (by decide) rfl ?_
  refine zj_iload (zdk ttX11_keepsSo 6 rfl rfl) rfl ?_
  refine zj_iconst (zdk ttX11_keepsSo 7 rfl rfl) ?_
  refine zj_icmp_eq (t := 55) (zdk ttX11_keepsSo 8 rfl rfl) (by decide) (by omega) (by decide) (fun c5 => ?_) (fun c5 => ?_)
  · refine zj_iconst (zdk ttX11_keepsSo 28 rfl rfl) ?_
    refine zj_goto (t := 60) (zdk ttX11_keepsSo 29 rfl rfl) (by decide) ?_
    exact zj_zret rfl (zdk ttX11_keepsSo 31 rfl rfl) (Nat.le_refl _) (Nat.le_refl _) (by omega) ⟨1, rfl, rfl, by omega, by unfold ygKM; omega⟩
  · refine zj_iload (zdk ttX11_keepsSo 9 rfl rfl) rfl ?_
    refine zj_iconst (zdk ttX11_keepsSo 10 rfl rfl) ?_
    refine zj_icmp_ne (t := 40) (zdk ttX11_keepsSo 11 rfl rfl) (by decide) (by omega) (by decide) (fun c6 => ?_) (fun c6 => ?_)
    · refine zj_iload (zdk ttX11_keepsSo 21 rfl rfl) rfl ?_
      refine zj_if_eq (t := 59) (zdk ttX11_keepsSo 22 rfl rfl) (by decide) (by omega) (fun c7 => ?_) (fun c7 => ?_)
      · refine zj_iconst (zdk ttX11_keepsSo 30 rfl rfl) ?_
        exact zj_zret rfl (zdk ttX11_keepsSo 31 rfl rfl) (Nat.le_refl _) (Nat.le_refl _) (by omega) ⟨0, rfl, rfl, by omega, by unfold ygKM; omega⟩
      · refine zj_aload_n (zdk ttX11_keepsSo 23 rfl rfl) rfl (by decide) ?_
        refine zj_getr (r := 34) (zdk ttX11_keepsSo 24 rfl rfl) zf_RX11_114 rfl (k_M s0) (rfM_57 s0) ?_
        refine zj_iload (zdk ttX11_keepsSo 25 rfl rfl) rfl ?_
        have b8 : -2147483648 ≤ (h.2 34 ((p2 + p3) % p1)) ∧ (h.2 34 ((p2 + p3) % p1)) ≤ 2147483647 := abM_34 s0 ((p2 + p3) % p1)
        refine zj_iald (v := (h.2 34 ((p2 + p3) % p1))) (zdk ttX11_keepsSo 26 rfl rfl) (kaM_34 s0) (by decide) (by omega) rfl ?_
        refine zj_if_ne (t := 59) (zdk ttX11_keepsSo 27 rfl rfl) (by decide) (by omega) (fun c9 => ?_) (fun c9 => ?_)
        · refine zj_iconst (zdk ttX11_keepsSo 30 rfl rfl) ?_
          exact zj_zret rfl (zdk ttX11_keepsSo 31 rfl rfl) (Nat.le_refl _) (Nat.le_refl _) (by omega) ⟨0, rfl, rfl, by omega, by unfold ygKM; omega⟩
        · refine zj_iconst (zdk ttX11_keepsSo 28 rfl rfl) ?_
          refine zj_goto (t := 60) (zdk ttX11_keepsSo 29 rfl rfl) (by decide) ?_
          exact zj_zret rfl (zdk ttX11_keepsSo 31 rfl rfl) (Nat.le_refl _) (Nat.le_refl _) (by omega) ⟨1, rfl, rfl, by omega, by unfold ygKM; omega⟩
    · refine zj_iload (zdk ttX11_keepsSo 12 rfl rfl) rfl ?_
      refine zj_if_eq (t := 55) (zdk ttX11_keepsSo 13 rfl rfl) (by decide) (by omega) (fun c10 => ?_) (fun c10 => ?_)
      · refine zj_iconst (zdk ttX11_keepsSo 28 rfl rfl) ?_
        refine zj_goto (t := 60) (zdk ttX11_keepsSo 29 rfl rfl) (by decide) ?_
        exact zj_zret rfl (zdk ttX11_keepsSo 31 rfl rfl) (Nat.le_refl _) (Nat.le_refl _) (by omega) ⟨1, rfl, rfl, by omega, by unfold ygKM; omega⟩
      · refine zj_aload_n (zdk ttX11_keepsSo 14 rfl rfl) rfl (by decide) ?_
        refine zj_getr (r := 34) (zdk ttX11_keepsSo 15 rfl rfl) zf_RX11_114 rfl (k_M s0) (rfM_57 s0) ?_
        refine zj_iload (zdk ttX11_keepsSo 16 rfl rfl) rfl ?_
        have b11 : -2147483648 ≤ (h.2 34 ((p2 + p3) % p1)) ∧ (h.2 34 ((p2 + p3) % p1)) ≤ 2147483647 := abM_34 s0 ((p2 + p3) % p1)
        refine zj_iald (v := (h.2 34 ((p2 + p3) % p1))) (zdk ttX11_keepsSo 17 rfl rfl) (kaM_34 s0) (by decide) (by omega) rfl ?_
        refine zj_iconst (zdk ttX11_keepsSo 18 rfl rfl) ?_
        refine zj_icmp_ne (t := 59) (zdk ttX11_keepsSo 19 rfl rfl) (by decide) (by omega) (by decide) (fun c12 => ?_) (fun c12 => ?_)
        · refine zj_iconst (zdk ttX11_keepsSo 30 rfl rfl) ?_
          exact zj_zret rfl (zdk ttX11_keepsSo 31 rfl rfl) (Nat.le_refl _) (Nat.le_refl _) (by omega) ⟨0, rfl, rfl, by omega, by unfold ygKM; omega⟩
        · refine zj_goto (t := 55) (zdk ttX11_keepsSo 20 rfl rfl) (by decide) ?_
          refine zj_iconst (zdk ttX11_keepsSo 28 rfl rfl) ?_
          refine zj_goto (t := 60) (zdk ttX11_keepsSo 29 rfl rfl) (by decide) ?_
          exact zj_zret rfl (zdk ttX11_keepsSo 31 rfl rfl) (Nat.le_refl _) (Nat.le_refl _) (by omega) ⟨1, rfl, rfl, by omega, by unfold ygKM; omega⟩

abbrev q2_X11_game (h : zM) (p1 : Int) (p2 : Int) (p3 : Int) (p4 : Int) : Option zV → zM → Prop := zqi fun v h' => ((-2147483648) ≤ v ∧ v ≤ 2147483647) ∧ okM h' ∧ zfr [0] [34] h h' ∧ (ygd p1 p2 p3 p4 v)
set_option maxRecDepth 100000 in
set_option maxHeartbeats 4000000 in
theorem s2_X11_game (l : Launch) (h : zM) (p1 : Int) (p2 : Int) (p3 : Int) (p4 : Int) (s0 : okM h) (b_p1 : (-2147483648) ≤ p1 ∧ p1 ≤ 2147483647) (b_p2 : (-2147483648) ≤ p2 ∧ p2 ≤ 2147483647) (b_p3 : (-2147483648) ≤ p3 ∧ p3 ≤ 2147483647) (b_p4 : (-2147483648) ≤ p4 ∧ p4 ≤ 2147483647) : zT shM l yX11_game cX11_game 7 (some .int) (rmL 3) 0 0 [.inr 0, .inl p1, .inl p2, .inl p3, .inl p4] h (q2_X11_game h p1 p2 p3 p4) := by
  refine zT_of (by decide +kernel) (L0 := [some (.inr 0), some (.inl p1), some (.inl p2), some (.inl p3), some (.inl p4), none, none]) rfl (Nat.le_of_ble_eq_true rfl) ?_
  refine zj_aload_n (zdk ttX11_game 0 rfl rfl) rfl (by decide) ?_
  refine zj_iconst (zdk ttX11_game 1 rfl rfl) ?_
  refine zj_puti (zdk ttX11_game 2 rfl rfl) zf_RX11_120 rfl (k_M s0) (Or.inl zw_RX11_120) (k2 := 0) rfl (fun h1 e2 => ?_)
  refine zj_aload_n (zdk ttX11_game 3 rfl rfl) rfl (by decide) ?_
  refine zj_iload_n (zdk ttX11_game 4 rfl rfl) rfl ?_
  refine zj_iconst (zdk ttX11_game 5 rfl rfl) ?_
  refine zj_bipush (zdk ttX11_game 6 rfl rfl) (by decide) ?_
  have s3 : okM h1 := fwM_0 s0 e2 (by omega)
  refine zj_callV (av := [.inl p1, .inl 2, .inl 60]) (st := []) (zdk ttX11_game 7 rfl rfl) mb_X11_isIn mv_RX11_139 (ci := 11) rfl rfl (k_M s3) rfl rfl (Nat.le_of_ble_eq_true rfl) (s_X11_isIn l h1 p1 2 60 s3 (by omega) (by omega) (by omega)) (rm_ok (by decide) (by decide)) (zq_i fun v5 h6 q4 => ?_)
  obtain ⟨rfl, ⟨rfl, b7⟩ | ⟨rfl, b7⟩⟩ := q4
  · refine zj_if_eq (t := 51) (zdk ttX11_game 8 rfl rfl) (by decide) (by decide) (fun c8 => ?_) (fun c8 => ?_)
    · refine zj_bipush (zdk ttX11_game 29 rfl rfl) (by decide) ?_
      have f9 : zfr [0] [34] h h1 := zfr_wf (zfr_r _ _ _) e2 rfl
      exact zj_iret rfl (zdk ttX11_game 30 rfl rfl) (Nat.le_refl _) (Nat.le_refl _) ⟨(-10), rfl, by omega, s3, f9, ygd_n (by unfold ygG; omega) (by omega)⟩
    · exact absurd c8 (by omega)
  · refine zj_if_eq (t := 51) (zdk ttX11_game 8 rfl rfl) (by decide) (by decide) (fun c10 => ?_) (fun c10 => ?_)
    · exact absurd c10 (by omega)
    · refine zj_aload_n (zdk ttX11_game 9 rfl rfl) rfl (by decide) ?_
      refine zj_iload_n (zdk ttX11_game 10 rfl rfl) rfl ?_
      refine zj_iconst (zdk ttX11_game 11 rfl rfl) ?_
      refine zj_sipush (zdk ttX11_game 12 rfl rfl) (by decide) ?_
      refine zj_callV (av := [.inl p2, .inl 0, .inl 1023]) (st := []) (zdk ttX11_game 13 rfl rfl) mb_X11_isIn mv_RX11_139 (ci := 11) rfl rfl (k_M s3) rfl rfl (Nat.le_of_ble_eq_true rfl) (s_X11_isIn l h1 p2 0 1023 s3 (by omega) (by omega) (by omega)) (rm_ok (by decide) (by decide)) (zq_i fun v12 h13 q11 => ?_)
      obtain ⟨rfl, ⟨rfl, b14⟩ | ⟨rfl, b14⟩⟩ := q11
      · refine zj_if_eq (t := 51) (zdk ttX11_game 14 rfl rfl) (by decide) (by decide) (fun c15 => ?_) (fun c15 => ?_)
        · refine zj_bipush (zdk ttX11_game 29 rfl rfl) (by decide) ?_
          have f16 : zfr [0] [34] h h1 := zfr_wf (zfr_r _ _ _) e2 rfl
          exact zj_iret rfl (zdk ttX11_game 30 rfl rfl) (Nat.le_refl _) (Nat.le_refl _) ⟨(-10), rfl, by omega, s3, f16, ygd_n (by unfold ygG; omega) (by omega)⟩
        · exact absurd c15 (by omega)
      · refine zj_if_eq (t := 51) (zdk ttX11_game 14 rfl rfl) (by decide) (by decide) (fun c17 => ?_) (fun c17 => ?_)
        · exact absurd c17 (by omega)
        · refine zj_aload_n (zdk ttX11_game 15 rfl rfl) rfl (by decide) ?_
          refine zj_iload_n (zdk ttX11_game 16 rfl rfl) rfl ?_
          refine zj_iconst (zdk ttX11_game 17 rfl rfl) ?_
          refine zj_iload_n (zdk ttX11_game 18 rfl rfl) rfl ?_
          refine zj_iconst (zdk ttX11_game 19 rfl rfl) ?_
          refine zj_isub (zdk ttX11_game 20 rfl rfl) ?_
          refine zj_callV (av := [.inl p3, .inl 0, .inl (p1 - 1)]) (st := []) (zdk ttX11_game 21 rfl rfl) mb_X11_isIn mv_RX11_139 (ci := 11) rfl rfl (k_M s3) rfl rfl (Nat.le_of_ble_eq_true rfl) (s_X11_isIn l h1 p3 0 (p1 - 1) s3 (by omega) (by omega) (by omega)) (rm_ok (by decide) (by decide)) (zq_i fun v19 h20 q18 => ?_)
          obtain ⟨rfl, ⟨rfl, b21⟩ | ⟨rfl, b21⟩⟩ := q18
          · refine zj_if_eq (t := 51) (zdk ttX11_game 22 rfl rfl) (by decide) (by decide) (fun c22 => ?_) (fun c22 => ?_)
            · refine zj_bipush (zdk ttX11_game 29 rfl rfl) (by decide) ?_
              have f23 : zfr [0] [34] h h1 := zfr_wf (zfr_r _ _ _) e2 rfl
              exact zj_iret rfl (zdk ttX11_game 30 rfl rfl) (Nat.le_refl _) (Nat.le_refl _) ⟨(-10), rfl, by omega, s3, f23, ygd_n (by unfold ygG; omega) (by omega)⟩
            · exact absurd c22 (by omega)
          · refine zj_if_eq (t := 51) (zdk ttX11_game 22 rfl rfl) (by decide) (by decide) (fun c24 => ?_) (fun c24 => ?_)
            · exact absurd c24 (by omega)
            · refine zj_aload_n (zdk ttX11_game 23 rfl rfl) rfl (by decide) ?_
              refine zj_iload (zdk ttX11_game 24 rfl rfl) rfl ?_
              refine zj_iconst (zdk ttX11_game 25 rfl rfl) ?_
              refine zj_iconst (zdk ttX11_game 26 rfl rfl) ?_
              refine zj_callV (av := [.inl p4, .inl 0, .inl 1]) (st := []) (zdk ttX11_game 27 rfl rfl) mb_X11_isIn mv_RX11_139 (ci := 11) rfl rfl (k_M s3) rfl rfl (Nat.le_of_ble_eq_true rfl) (s_X11_isIn l h1 p4 0 1 s3 (by omega) (by omega) (by omega)) (rm_ok (by decide) (by decide)) (zq_i fun v26 h27 q25 => ?_)
              obtain ⟨rfl, ⟨rfl, b28⟩ | ⟨rfl, b28⟩⟩ := q25
              · refine zj_if_ne (t := 54) (zdk ttX11_game 28 rfl rfl) (by decide) (by decide) (fun c29 => ?_) (fun c29 => ?_)
                · exact absurd c29 (by omega)
                · refine zj_bipush (zdk ttX11_game 29 rfl rfl) (by decide) ?_
                  have f30 : zfr [0] [34] h h1 := zfr_wf (zfr_r _ _ _) e2 rfl
                  exact zj_iret rfl (zdk ttX11_game 30 rfl rfl) (Nat.le_refl _) (Nat.le_refl _) ⟨(-10), rfl, by omega, s3, f30, ygd_n (by unfold ygG; omega) (by omega)⟩
              · refine zj_if_ne (t := 54) (zdk ttX11_game 28 rfl rfl) (by decide) (by decide) (fun c31 => ?_) (fun c31 => ?_)
                · refine zj_iconst (zdk ttX11_game 31 rfl rfl) ?_
                  refine zj_istore (L' := [some (.inr 0), some (.inl p1), some (.inl p2), some (.inl p3), some (.inl p4), some (.inl 0), none]) (zdk ttX11_game 32 rfl rfl) (by decide) rfl ?_
                  have lp63 : ∀ (n57 : Nat) (x32 : Int) (h33 : zM), (0 ≤ x32 ∧ x32 ≤ 60) → okM h33 → zfr [0] [34] h h33 → (∀ j, 0 ≤ j → j < x32 → h33.2 34 j = 0) → (61 - x32).toNat < n57 → zJ shM l yX11_game cX11_game 7 (some .int) (rmL 3) 0 0 (q2_X11_game h p1 p2 p3 p4) 0 0 57 [some (.inr 0), some (.inl p1), some (.inl p2), some (.inl p3), some (.inl p4), some (.inl x32), none] [] h33 := by
                    intro n57
                    induction n57 with
                    | zero => intro x32 h33 b64 s34 f35 u65 m66; exact absurd m66 (Nat.not_lt_zero _)
                    | succ n57 ih67 =>
                      intro x32 h33 b64 s34 f35 u65 m66
                      refine zj_iload (zdk ttX11_game 33 rfl rfl) rfl ?_
                      refine zj_iload_n (zdk ttX11_game 34 rfl rfl) rfl ?_
                      refine zj_icmp_ge (t := 77) (zdk ttX11_game 35 rfl rfl) (by decide) (by omega) (by omega) (fun c68 => ?_) (fun c68 => ?_)
                      · refine zj_iconst (zdk ttX11_game 43 rfl rfl) ?_
                        refine zj_istore (L' := [some (.inr 0), some (.inl p1), some (.inl p2), some (.inl p3), some (.inl p4), some (.inl 1), none]) (zdk ttX11_game 44 rfl rfl) (by decide) rfl ?_
                        have lp120 : ∀ (n80 : Nat) (x69 : Int) (h70 : zM), (0 ≤ x69 ∧ x69 ≤ 1) → okM h70 → zfr [0] [34] h h70 → (ygI p1 p2 (h70.2 34)) → (∀ j, 0 ≤ j → j < p1 → -1 ≤ h70.2 34 j ∧ h70.2 34 j ≤ 1) → (x69 = 0 → ygF p1 p2 (h70.2 34)) → (x69 + (zcnt (h70.2 34) p1.toNat : Int)).toNat < n80 → zJ shM l yX11_game cX11_game 7 (some .int) (rmL 3) 0 0 (q2_X11_game h p1 p2 p3 p4) 0 0 80 [some (.inr 0), some (.inl p1), some (.inl p2), some (.inl p3), some (.inl p4), some (.inl x69), none] [] h70 := by
                          intro n80
                          induction n80 with
                          | zero => intro x69 h70 b121 s71 f72 u122 u123 u124 m125; exact absurd m125 (Nat.not_lt_zero _)
                          | succ n80 ih126 =>
                            intro x69 h70 b121 s71 f72 u122 u123 u124 m125
                            refine zj_iload (zdk ttX11_game 45 rfl rfl) rfl ?_
                            refine zj_if_eq (t := 148) (zdk ttX11_game 46 rfl rfl) (by decide) (by omega) (fun c127 => ?_) (fun c127 => ?_)
                            · refine zj_iload (zdk ttX11_game 80 rfl rfl) rfl ?_
                              refine zj_if_ne (t := 160) (zdk ttX11_game 81 rfl rfl) (by decide) (by omega) (fun c128 => ?_) (fun c128 => ?_)
                              · refine zj_iconst (zdk ttX11_game 87 rfl rfl) ?_
                                refine zj_istore (L' := [some (.inr 0), some (.inl p1), some (.inl p2), some (.inl p3), some (.inl p4), some (.inl x69), some (.inl 1)]) (zdk ttX11_game 88 rfl rfl) (by decide) rfl ?_
                                have lp144 : ∀ (n163 : Nat) (x129 : Int), (1 ≤ x129 ∧ x129 ≤ 11) → (ygsI (h70.2 34) p1 p2 p3 x129) → (12 - x129).toNat < n163 → zJ shM l yX11_game cX11_game 7 (some .int) (rmL 3) 0 0 (q2_X11_game h p1 p2 p3 p4) 0 0 163 [some (.inr 0), some (.inl p1), some (.inl p2), some (.inl p3), some (.inl p4), some (.inl x69), some (.inl x129)] [] h70 := by
                                  intro n163
                                  induction n163 with
                                  | zero => intro x129 b145 u146 m147; exact absurd m147 (Nat.not_lt_zero _)
                                  | succ n163 ih148 =>
                                    intro x129 b145 u146 m147
                                    refine zj_iload (zdk ttX11_game 89 rfl rfl) rfl ?_
                                    refine zj_bipush (zdk ttX11_game 90 rfl rfl) (by decide) ?_
                                    refine zj_icmp_ge (t := 208) (zdk ttX11_game 91 rfl rfl) (by decide) (by omega) (by decide) (fun c149 => ?_) (fun c149 => ?_)
                                    · refine zj_iconst (zdk ttX11_game 113 rfl rfl) ?_
                                      exact zj_iret rfl (zdk ttX11_game 114 rfl rfl) (Nat.le_refl _) (Nat.le_refl _) ⟨(-1), rfl, by omega, s71, f72, by first | exact ygd_0 (by unfold ygG; omega) (u124 (by omega)) (by omega) rfl | exact ygd_1 (by unfold ygG; omega) (u124 (by omega)) (by omega) (ygst_n u146 (by omega)) | exact ygd_1 (by unfold ygG; omega) (u124 (by omega)) (by omega) (ygst_v u146 (by omega) (by omega) ((ygK_m (u124 (by omega)) u123 (by omega) (by omega) (by omega) (by omega)).mp (by first | omega | (rcases u142 with k9 | k9; exact k9.2; exact absurd k9.1 (by omega)))))⟩
                                    · refine zj_aload_n (zdk ttX11_game 92 rfl rfl) rfl (by decide) ?_
                                      refine zj_iload_n (zdk ttX11_game 93 rfl rfl) rfl ?_
                                      refine zj_iload (zdk ttX11_game 94 rfl rfl) rfl ?_
                                      refine zj_iconst (zdk ttX11_game 95 rfl rfl) ?_
                                      refine zj_isub (zdk ttX11_game 96 rfl rfl) ?_
                                      refine zj_callV (av := [.inl p2, .inl (x129 - 1)]) (st := []) (zdk ttX11_game 97 rfl rfl) mb_X11_has mv_RX11_309 (ci := 11) rfl rfl (k_M s71) rfl rfl (Nat.le_of_ble_eq_true rfl) (s_X11_has l h70 p2 (x129 - 1) s71 (by omega) (by omega)) (rm_ok (by decide) (by decide)) (zq_i fun v151 h152 q150 => ?_)
                                      obtain ⟨rfl, ⟨rfl, b153⟩ | ⟨rfl, b153⟩⟩ := q150
                                      · refine zj_if_eq (t := 202) (zdk ttX11_game 98 rfl rfl) (by decide) (by decide) (fun c154 => ?_) (fun c154 => ?_)
                                        · refine zj_iinc (L' := [some (.inr 0), some (.inl p1), some (.inl p2), some (.inl p3), some (.inl p4), some (.inl x69), some (.inl (x129 + 1))]) (zdk ttX11_game 111 rfl rfl) rfl (by decide) rfl ?_
                                          refine zj_goto (t := 163) (zdk ttX11_game 112 rfl rfl) (by decide) ?_
                                          exact ih148  (x129 + 1) (by omega) (ygsI_x u146 (fun z8 z9 => by first | exact absurd z8 (by omega) | exact absurd ((ygK_m (u124 (by omega)) u123 (by omega) (by omega) (by omega) z8).mpr z9) (by first | omega | (rcases u142 with k9 | k9; exact absurd k9.1 (by omega); exact k9.2)))) (by omega)
                                        · exact absurd c154 (by omega)
                                      · refine zj_if_eq (t := 202) (zdk ttX11_game 98 rfl rfl) (by decide) (by decide) (fun c155 => ?_) (fun c155 => ?_)
                                        · exact absurd c155 (by omega)
                                        · refine zj_aload_n (zdk ttX11_game 99 rfl rfl) rfl (by decide) ?_
                                          refine zj_iload_n (zdk ttX11_game 100 rfl rfl) rfl ?_
                                          refine zj_iload_n (zdk ttX11_game 101 rfl rfl) rfl ?_
                                          refine zj_iload (zdk ttX11_game 102 rfl rfl) rfl ?_
                                          refine zj_aload_n (zdk ttX11_game 103 rfl rfl) rfl (by decide) ?_
                                          refine zj_getr (r := 34) (zdk ttX11_game 104 rfl rfl) zf_RX11_114 rfl (k_M s71) (rfM_57 s71) ?_
                                          refine zj_iload_n (zdk ttX11_game 105 rfl rfl) rfl ?_
                                          have b156 : -2147483648 ≤ (h70.2 34 p3) ∧ (h70.2 34 p3) ≤ 2147483647 := abM_34 s71 p3
                                          refine zj_iald (v := (h70.2 34 p3)) (zdk ttX11_game 106 rfl rfl) (kaM_34 s71) (by decide) (by omega) rfl ?_
                                          refine zj_callV (av := [.inl p1, .inl p3, .inl x129, .inl (h70.2 34 p3)]) (st := []) (zdk ttX11_game 107 rfl rfl) mb_X11_keepsSo mv_RX11_457 (ci := 11) rfl rfl (k_M s71) rfl rfl (Nat.le_of_ble_eq_true rfl) (s2_X11_keepsSo l h70 p1 p3 x129 (h70.2 34 p3) s71 (by omega) (by omega) (by omega) (by omega)) (rm_ok (by decide) (by decide)) (zq_i fun v158 h159 q157 => ?_)
                                          obtain ⟨rfl, b160, u161⟩ := q157
                                          refine zj_if_eq (t := 202) (zdk ttX11_game 108 rfl rfl) (by decide) (by omega) (fun c162 => ?_) (fun c162 => ?_)
                                          · refine zj_iinc (L' := [some (.inr 0), some (.inl p1), some (.inl p2), some (.inl p3), some (.inl p4), some (.inl x69), some (.inl (x129 + 1))]) (zdk ttX11_game 111 rfl rfl) rfl (by decide) rfl ?_
                                            refine zj_goto (t := 163) (zdk ttX11_game 112 rfl rfl) (by decide) ?_
                                            exact ih148  (x129 + 1) (by omega) (ygsI_x u146 (fun z8 z9 => by first | exact absurd z8 (by omega) | exact absurd ((ygK_m (u124 (by omega)) u123 (by omega) (by omega) (by omega) z8).mpr z9) (by first | omega | (rcases u161 with k9 | k9; exact absurd k9.1 (by omega); exact k9.2)))) (by omega)
                                          · refine zj_iload (zdk ttX11_game 109 rfl rfl) rfl ?_
                                            exact zj_iret rfl (zdk ttX11_game 110 rfl rfl) (Nat.le_refl _) (Nat.le_refl _) ⟨x129, rfl, by omega, s71, f72, by first | exact ygd_0 (by unfold ygG; omega) (u124 (by omega)) (by omega) rfl | exact ygd_1 (by unfold ygG; omega) (u124 (by omega)) (by omega) (ygst_n u146 (by omega)) | exact ygd_1 (by unfold ygG; omega) (u124 (by omega)) (by omega) (ygst_v u146 (by omega) (by omega) ((ygK_m (u124 (by omega)) u123 (by omega) (by omega) (by omega) (by omega)).mp (by first | omega | (rcases u161 with k9 | k9; exact k9.2; exact absurd k9.1 (by omega)))))⟩
                                exact lp144 _ 1 (by omega) ygsI_0 (Nat.lt_succ_self _)
                              · refine zj_aload_n (zdk ttX11_game 82 rfl rfl) rfl (by decide) ?_
                                refine zj_getr (r := 34) (zdk ttX11_game 83 rfl rfl) zf_RX11_114 rfl (k_M s71) (rfM_57 s71) ?_
                                refine zj_iload_n (zdk ttX11_game 84 rfl rfl) rfl ?_
                                have b163 : -2147483648 ≤ (h70.2 34 p3) ∧ (h70.2 34 p3) ≤ 2147483647 := abM_34 s71 p3
                                refine zj_iald (v := (h70.2 34 p3)) (zdk ttX11_game 85 rfl rfl) (kaM_34 s71) (by decide) (by omega) rfl ?_
                                exact zj_iret rfl (zdk ttX11_game 86 rfl rfl) (Nat.le_refl _) (Nat.le_refl _) ⟨(h70.2 34 p3), rfl, by omega, s71, f72, by first | exact ygd_0 (by unfold ygG; omega) (u124 (by omega)) (by omega) rfl | exact ygd_1 (by unfold ygG; omega) (u124 (by omega)) (by omega) (ygst_n u146 (by omega)) | exact ygd_1 (by unfold ygG; omega) (u124 (by omega)) (by omega) (ygst_v u146 (by omega) (by omega) ((ygK_m (u124 (by omega)) u123 (by omega) (by omega) (by omega) (by omega)).mp (by first | omega | (rcases u161 with k9 | k9; exact k9.2; exact absurd k9.1 (by omega)))))⟩
                            · refine zj_iconst (zdk ttX11_game 47 rfl rfl) ?_
                              refine zj_istore (L' := [some (.inr 0), some (.inl p1), some (.inl p2), some (.inl p3), some (.inl p4), some (.inl 0), none]) (zdk ttX11_game 48 rfl rfl) (by decide) rfl ?_
                              refine zj_iconst (zdk ttX11_game 49 rfl rfl) ?_
                              refine zj_istore (L' := [some (.inr 0), some (.inl p1), some (.inl p2), some (.inl p3), some (.inl p4), some (.inl 0), some (.inl 0)]) (zdk ttX11_game 50 rfl rfl) (by decide) rfl ?_
                              have lp185 : ∀ (n91 : Nat) (x164 x165 : Int) (h166 : zM), (0 ≤ x164 ∧ x164 ≤ 1) → (0 ≤ x165 ∧ x165 ≤ 60) → okM h166 → zfr [0] [34] h h166 → ((zcnt (h166.2 34) p1.toNat : Int) + x164 < n80) → (ygI p1 p2 (h166.2 34)) → (∀ j, 0 ≤ j → j < p1 → -1 ≤ h166.2 34 j ∧ h166.2 34 j ≤ 1) → (x164 = 0 → ∀ k, 0 ≤ k → k < x165 → h166.2 34 k = 0 → yge (h166.2 34) p1 p2 k 0) → (61 - x165).toNat < n91 → zJ shM l yX11_game cX11_game 7 (some .int) (rmL 3) 0 0 (q2_X11_game h p1 p2 p3 p4) 0 0 91 [some (.inr 0), some (.inl p1), some (.inl p2), some (.inl p3), some (.inl p4), some (.inl x164), some (.inl x165)] [] h166 := by
                                intro n91
                                induction n91 with
                                | zero => intro x164 x165 h166 b186 b187 s167 f168 u188 u189 u190 u191 m192; exact absurd m192 (Nat.not_lt_zero _)
                                | succ n91 ih193 =>
                                  intro x164 x165 h166 b186 b187 s167 f168 u188 u189 u190 u191 m192
                                  refine zj_iload (zdk ttX11_game 51 rfl rfl) rfl ?_
                                  refine zj_iload_n (zdk ttX11_game 52 rfl rfl) rfl ?_
                                  refine zj_icmp_ge (t := 145) (zdk ttX11_game 53 rfl rfl) (by decide) (by omega) (by omega) (fun c194 => ?_) (fun c194 => ?_)
                                  · refine zj_goto (t := 80) (zdk ttX11_game 79 rfl rfl) (by decide) ?_
                                    refine zj_kill (k := 6) (L' := [some (.inr 0), some (.inl p1), some (.inl p2), some (.inl p3), some (.inl p4), some (.inl x164), none]) rfl ?_
                                    exact ih126  x164 h166 (by omega) s167 f168 u189 u190 (fun z => ygF_i u189 (fun k a b c => u191 z k a (by omega) c)) (by omega)
                                  · refine zj_aload_n (zdk ttX11_game 54 rfl rfl) rfl (by decide) ?_
                                    refine zj_getr (r := 34) (zdk ttX11_game 55 rfl rfl) zf_RX11_114 rfl (k_M s167) (rfM_57 s167) ?_
                                    refine zj_iload (zdk ttX11_game 56 rfl rfl) rfl ?_
                                    have b195 : -2147483648 ≤ (h166.2 34 x165) ∧ (h166.2 34 x165) ≤ 2147483647 := abM_34 s167 x165
                                    refine zj_iald (v := (h166.2 34 x165)) (zdk ttX11_game 57 rfl rfl) (kaM_34 s167) (by decide) (by omega) rfl ?_
                                    refine zj_if_ne (t := 139) (zdk ttX11_game 58 rfl rfl) (by decide) (by omega) (fun c196 => ?_) (fun c196 => ?_)
                                    · refine zj_iinc (L' := [some (.inr 0), some (.inl p1), some (.inl p2), some (.inl p3), some (.inl p4), some (.inl x164), some (.inl (x165 + 1))]) (zdk ttX11_game 77 rfl rfl) rfl (by decide) rfl ?_
                                      refine zj_goto (t := 91) (zdk ttX11_game 78 rfl rfl) (by decide) ?_
                                      exact ih193  x164 (x165 + 1) h166 (by omega) (by omega) s167 f168 (by omega) u189 u190 (fun z k a b c => by
                                          by_cases q : k = x165
                                          · first | (rw [q] at c; exact absurd c (by omega)) | (rw [q]; exact yge_z (zeo_e u176) (by omega)) | (rw [q]; exact yge_z (zeo_e u182) (by omega))
                                          · exact u191 z k a (by omega) c) (by omega)
                                    · refine zj_aload_n (zdk ttX11_game 59 rfl rfl) rfl (by decide) ?_
                                      refine zj_iload_n (zdk ttX11_game 60 rfl rfl) rfl ?_
                                      refine zj_iload_n (zdk ttX11_game 61 rfl rfl) rfl ?_
                                      refine zj_iload (zdk ttX11_game 62 rfl rfl) rfl ?_
                                      refine zj_callV (av := [.inl p1, .inl p2, .inl x165]) (st := []) (zdk ttX11_game 63 rfl rfl) mb_X11_endOf mv_RX11_454 (ci := 11) rfl rfl (k_M s167) rfl rfl (Nat.le_of_ble_eq_true rfl) (s2_X11_endOf l h166 p1 p2 x165 s167 (by omega) (by omega) (by omega)) (rm_ok (by decide) (by decide)) (zq_i fun v198 h199 q197 => ?_)
                                      obtain ⟨rfl, b200, u201⟩ := q197
                                      refine zj_if_ne (t := 121) (zdk ttX11_game 64 rfl rfl) (by decide) (by omega) (fun c202 => ?_) (fun c202 => ?_)
                                      · refine zj_aload_n (zdk ttX11_game 66 rfl rfl) rfl (by decide) ?_
                                        refine zj_getr (r := 34) (zdk ttX11_game 67 rfl rfl) zf_RX11_114 rfl (k_M s167) (rfM_57 s167) ?_
                                        refine zj_iload (zdk ttX11_game 68 rfl rfl) rfl ?_
                                        refine zj_aload_n (zdk ttX11_game 69 rfl rfl) rfl (by decide) ?_
                                        refine zj_iload_n (zdk ttX11_game 70 rfl rfl) rfl ?_
                                        refine zj_iload_n (zdk ttX11_game 71 rfl rfl) rfl ?_
                                        refine zj_iload (zdk ttX11_game 72 rfl rfl) rfl ?_
                                        refine zj_callV (av := [.inl p1, .inl p2, .inl x165]) (st := [.inl x165, .inr 34]) (zdk ttX11_game 73 rfl rfl) mb_X11_endOf mv_RX11_454 (ci := 11) rfl rfl (k_M s167) rfl rfl (Nat.le_of_ble_eq_true rfl) (s2_X11_endOf l h166 p1 p2 x165 s167 (by omega) (by omega) (by omega)) (rm_ok (by decide) (by decide)) (zq_i fun v204 h205 q203 => ?_)
                                        obtain ⟨rfl, b206, u207⟩ := q203
                                        refine zj_iast (zdk ttX11_game 74 rfl rfl) (kaM_34 s167) (by decide) (by omega) (fun h208 e209 => ?_)
                                        refine zj_iconst (zdk ttX11_game 75 rfl rfl) ?_
                                        refine zj_istore (L' := [some (.inr 0), some (.inl p1), some (.inl p2), some (.inl p3), some (.inl p4), some (.inl 1), some (.inl x165)]) (zdk ttX11_game 76 rfl rfl) (by decide) rfl ?_
                                        refine zj_iinc (L' := [some (.inr 0), some (.inl p1), some (.inl p2), some (.inl p3), some (.inl p4), some (.inl 1), some (.inl (x165 + 1))]) (zdk ttX11_game 77 rfl rfl) rfl (by decide) rfl ?_
                                        refine zj_goto (t := 91) (zdk ttX11_game 78 rfl rfl) (by decide) ?_
                                        have s210 : okM h208 := awM_34 s167 e209 (by omega) (by unfold nsp; omega)
                                        have f211 : zfr [0] [34] h h208 := zfr_wa f168 e209 rfl
                                        have z212 := zcnt_w e209 (by omega) (by omega) (by omega) p1.toNat (by omega)
                                        exact ih193  1 (x165 + 1) h208 (by omega) (by omega) s210 f211 (by omega) (ygI_s (k := x165) (e := v204) (by omega) u189 (by omega) (by omega) (zeo_e u207) (by omega) (zwr_v e209) (fun j q => zwr_r e209 (by omega))) (fun j a b => by
                                            by_cases q : j = x165
                                            · rw [q, zwr_v e209]; omega
                                            · rw [zwr_r e209 (by omega)]; exact u190 j a b) (fun z => absurd z (by omega)) (by omega)
                                      · refine zj_goto (t := 139) (zdk ttX11_game 65 rfl rfl) (by decide) ?_
                                        refine zj_iinc (L' := [some (.inr 0), some (.inl p1), some (.inl p2), some (.inl p3), some (.inl p4), some (.inl x164), some (.inl (x165 + 1))]) (zdk ttX11_game 77 rfl rfl) rfl (by decide) rfl ?_
                                        refine zj_goto (t := 91) (zdk ttX11_game 78 rfl rfl) (by decide) ?_
                                        exact ih193  x164 (x165 + 1) h166 (by omega) (by omega) s167 f168 (by omega) u189 u190 (fun z k a b c => by
                                            by_cases q : k = x165
                                            · first | (rw [q] at c; exact absurd c (by omega)) | (rw [q]; exact yge_z (zeo_e u201) (by omega)) | (rw [q]; exact yge_z (zeo_e u207) (by omega))
                                            · exact u191 z k a (by omega) c) (by omega)
                              exact lp185 _ 0 0 h70 (by omega) (by omega) s71 f72 (by omega) u122 u123 (fun _ k a b => absurd b (by omega)) (Nat.lt_succ_self _)
                        have z80 : ∀ k, 0 ≤ k → k < p1 → h33.2 34 k = 0 := fun k a b => u65 k a (by omega)
                        exact lp120 _ 1 h33 (by omega) s34 f35 (ygI_0 z80) (fun j a b => by rw [z80 j a b]; omega) (fun z => absurd z (by omega)) (Nat.lt_succ_self _)
                      · refine zj_aload_n (zdk ttX11_game 36 rfl rfl) rfl (by decide) ?_
                        refine zj_getr (r := 34) (zdk ttX11_game 37 rfl rfl) zf_RX11_114 rfl (k_M s34) (rfM_57 s34) ?_
                        refine zj_iload (zdk ttX11_game 38 rfl rfl) rfl ?_
                        refine zj_iconst (zdk ttX11_game 39 rfl rfl) ?_
                        refine zj_iast (zdk ttX11_game 40 rfl rfl) (kaM_34 s34) (by decide) (by omega) (fun h216 e217 => ?_)
                        refine zj_iinc (L' := [some (.inr 0), some (.inl p1), some (.inl p2), some (.inl p3), some (.inl p4), some (.inl (x32 + 1)), none]) (zdk ttX11_game 41 rfl rfl) rfl (by decide) rfl ?_
                        refine zj_goto (t := 57) (zdk ttX11_game 42 rfl rfl) (by decide) ?_
                        have s218 : okM h216 := awM_34 s34 e217 (by omega) (by unfold nsp; omega)
                        have f219 : zfr [0] [34] h h216 := zfr_wa f35 e217 rfl
                        exact ih67  (x32 + 1) h216 (by omega) s218 f219 (fun j a b => by
                            by_cases q : j = x32
                            · rw [q]; exact zwr_v e217
                            · rw [zwr_r e217 (by omega)]; exact u65 j a (by omega)) (by omega)
                  have f220 : zfr [0] [34] h h1 := zfr_wf (zfr_r _ _ _) e2 rfl
                  exact lp63 _ 0 h1 (by omega) s3 f220 (fun j a b => absurd b (by omega)) (Nat.lt_succ_self _)
                · exact absurd c31 (by omega)
