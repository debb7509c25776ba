/-! ===== who must leave: sets of persons, as numbers ===== -/
def fsm (W : Int → Int) (p : Nat → Bool) : Nat → Int
  | 0 => 0
  | n + 1 => fsm W p n + (if p n = true then W (n : Int) else 0)
theorem fsm_x {W : Int → Int} {p q : Nat → Bool} : ∀ n : Nat, (∀ i, i < n → p i = q i) → fsm W p n = fsm W q n
  | 0, _ => rfl
  | n + 1, h => by
    show fsm W p n + (if p n = true then W (n : Int) else 0) = fsm W q n + (if q n = true then W (n : Int) else 0)
    rw [fsm_x n (fun i a => h i (by omega)), h n (by omega)]
theorem fcN_s (p : Nat → Bool) (n : Nat) : fct p (n + 1) = fct p n + (if p n = true then 1 else 0) := rfl
theorem fsm_n (W : Int → Int) (p : Nat → Bool) (n : Nat) : fsm W p (n + 1) = fsm W p n + (if p n = true then W (n : Int) else 0) := rfl
/-- a set below 2 ^ n and the next person -/
theorem mS_t {n S : Nat} (h : S < 2 ^ n) : (2 ^ n + S).testBit n = true ∧ ∀ j, j < n → (2 ^ n + S).testBit j = S.testBit j :=
  ⟨by rw [Nat.testBit_two_pow_add_eq, Nat.testBit_lt_two_pow h]; rfl, fun j q => Nat.testBit_two_pow_add_gt q S⟩
theorem mS_c {n S : Nat} (h : S < 2 ^ (n + 1)) : S < 2 ^ n ∨ ∃ S0, S0 < 2 ^ n ∧ S = 2 ^ n + S0 := by
  have e : 2 ^ (n + 1) = 2 ^ n * 2 := Nat.pow_succ 2 n
  by_cases q : S < 2 ^ n
  · exact Or.inl q
  · exact Or.inr ⟨S - 2 ^ n, by omega, by omega⟩
def fkey (n S : Nat) : Int := 262144 * fct (fun i => S.testBit i) n + (S : Int)
theorem fkey_w {n S : Nat} (h : S < 2 ^ n) : fkey (n + 1) S = fkey n S := by
  unfold fkey
  rw [fcN_s, Nat.testBit_lt_two_pow h, if_neg (by decide)]
  omega
theorem fkey_y {n S : Nat} (h : S < 2 ^ n) : fkey (n + 1) (2 ^ n + S) = fkey n S + 262144 + ((2 ^ n : Nat) : Int) := by
  unfold fkey
  rw [fcN_s, (mS_t h).1, if_pos rfl, fct_x (q := fun i => S.testBit i) n (fun j q => (mS_t h).2 j q)]
  omega
def mG (W : Int → Int) (hr : Nat → Bool) (n : Nat) (s : Int) (S : Nat) : Prop := S < 2 ^ n ∧ (∀ i, i < n → S.testBit i = true → hr i = true ∧ 0 < W (i : Int)) ∧ fsm W (fun i => S.testBit i) n = s
section MG
variable {W : Int → Int} {hr : Nat → Bool} {n : Nat} {s : Int} {S S0 : Nat}
theorem mG_w (h : S < 2 ^ n) : mG W hr (n + 1) s S ↔ mG W hr n s S := by
  have t := Nat.testBit_lt_two_pow h
  have e : fsm W (fun i => S.testBit i) (n + 1) = fsm W (fun i => S.testBit i) n := by
    rw [fsm_n, t, if_neg (by decide)]; omega
  constructor
  · rintro ⟨a, b, c⟩
    exact ⟨h, fun i q => b i (by omega), by rw [← e]; exact c⟩
  · rintro ⟨a, b, c⟩
    refine ⟨Nat.lt_of_lt_of_le a (Nat.pow_le_pow_right (by decide) (by omega)), fun i q z => ?_, by rw [e]; exact c⟩
    by_cases y : i = n
    · rw [y, t] at z; exact absurd z (by decide)
    · exact b i (by omega) z
theorem mG_y (h : S0 < 2 ^ n) : mG W hr (n + 1) s (2 ^ n + S0) ↔ ((hr n = true ∧ 0 < W (n : Int)) ∧ mG W hr n (s - W (n : Int)) S0) := by
  have t := mS_t h
  have e : fsm W (fun i => (2 ^ n + S0).testBit i) (n + 1) = fsm W (fun i => S0.testBit i) n + W (n : Int) := by
    rw [fsm_n, t.1, if_pos rfl, fsm_x (q := fun i => S0.testBit i) n (fun j q => t.2 j q)]
  constructor
  · rintro ⟨a, b, c⟩
    rw [e] at c
    exact ⟨b n (by omega) t.1, h, fun i q z => b i (by omega) ((t.2 i q).trans z), by omega⟩
  · rintro ⟨g, a, b, c⟩
    refine ⟨by rw [Nat.pow_succ]; omega, fun i q z => ?_, by rw [e, c]; omega⟩
    by_cases y : i = n
    · rw [y]; exact g
    · exact b i (by omega) ((t.2 i (by omega)).symm.trans z)
theorem mG_0 : ∀ {n : Nat} {s : Int} {S : Nat}, mG W hr n s S → 0 ≤ s
  | 0, s, S, h => by have z : (0 : Int) = s := h.2.2; omega
  | n + 1, s, S, h => by
    rcases mS_c h.1 with q | ⟨S0, q, rfl⟩
    · exact mG_0 ((mG_w q).mp h)
    · have z := (mG_y q).mp h
      have y := mG_0 z.2
      omega
end MG
/-- the least of the sets of a sum -/
def mE (W : Int → Int) (hr : Nat → Bool) (n : Nat) (s v : Int) : Prop := (v = 2147483647 ∧ ∀ S, ¬ mG W hr n s S) ∨ (∃ S, mG W hr n s S ∧ v = fkey n S ∧ ∀ S', mG W hr n s S' → fkey n S ≤ fkey n S')
theorem fkey_b {n S : Nat} (hn : n ≤ 18) (h : S < 2 ^ n) : 0 ≤ fkey n S ∧ fkey n S < 2147483647 := by
  have b := fct_b (fun i => S.testBit i) n
  have p : 2 ^ n ≤ 2 ^ 18 := Nat.pow_le_pow_right (by decide) hn
  have p2 : (2 : Nat) ^ 18 = 262144 := by decide
  unfold fkey
  omega
section ME
variable {W : Int → Int} {hr : Nat → Bool} {n : Nat} {s v : Int}
theorem mE_w (g : ∀ S, mG W hr (n + 1) s S → S < 2 ^ n) (h : mE W hr n s v) : mE W hr (n + 1) s v := by
  rcases h with ⟨a, b⟩ | ⟨S, a, b, c⟩
  · exact Or.inl ⟨a, fun S q => b S ((mG_w (g S q)).mp q)⟩
  · refine Or.inr ⟨S, (mG_w a.1).mpr a, by rw [fkey_w a.1]; exact b, fun S' q => ?_⟩
    have l := g S' q
    rw [fkey_w a.1, fkey_w l]
    exact c S' ((mG_w l).mp q)
/-- one who isn't counted -/
theorem mE_n (h : ¬ (hr n = true ∧ 0 < W (n : Int))) (e : mE W hr n s v) : mE W hr (n + 1) s v := by
  refine mE_w (fun S q => ?_) e
  rcases mS_c q.1 with l | ⟨S0, l, rfl⟩
  · exact l
  · exact absurd ((mG_y l).mp q).1 h
theorem mE_0 (h0 : s = 0 → v = 0) (h1 : ¬ s = 0 → v = 2147483647) : mE W hr 0 s v := by
  have g : ∀ s S, mG W hr 0 s S → S = 0 ∧ s = 0 := fun s S q => by
    have a : S < 1 := q.1
    have b : (0 : Int) = s := q.2.2
    exact ⟨by omega, b.symm⟩
  by_cases e : s = 0
  · subst e
    refine Or.inr ⟨0, ⟨by decide, fun i q => absurd q (Nat.not_lt_zero _), rfl⟩, ?_, fun S' q => ?_⟩
    · rw [h0 rfl]; rfl
    · rw [(g _ _ q).1]; exact Int.le_refl _
  · exact Or.inl ⟨h1 e, fun S q => e (g s S q).2⟩
/-- one more, whose winding is w -/
theorem mE_s {f : Int → Int} {w more : Int} (n18 : n < 18) (hg : hr n = true ∧ 0 < W (n : Int)) (hw : w = W (n : Int)) (hm : more = 262144 + ((2 ^ n : Nat) : Int)) (d : mE W hr n s (f s)) (d2 : mE W hr n (s - w) (f (s - w))) : mE W hr (n + 1) s (if f (s - w) = 2147483647 then f s else zm_min (f s) (f (s - w) + more)) := by
  subst hw
  have p2 : 2 ^ n ≤ 2 ^ 17 := Nat.pow_le_pow_right (by decide) (by omega)
  have p3 : (2 : Nat) ^ 17 = 131072 := by decide
  rcases d2 with ⟨u, no⟩ | ⟨S0, g0, k0, m0⟩
  · rw [if_pos u]
    refine mE_w (fun S q => ?_) d
    rcases mS_c q.1 with l | ⟨S1, l, rfl⟩
    · exact l
    · exact absurd ((mG_y l).mp q).2 (no S1)
  · have b0 := fkey_b (by omega) g0.1
    rw [if_neg (by omega)]
    have ky := fkey_y g0.1
    have gy : mG W hr (n + 1) s (2 ^ n + S0) := (mG_y g0.1).mpr ⟨hg, g0⟩
    have mn := zm_min_f (f s) (f (s - W (n : Int)) + more)
    -- all of the next
    have al : ∀ S, mG W hr (n + 1) s S → (S < 2 ^ n ∧ mG W hr n s S ∧ fkey (n + 1) S = fkey n S) ∨ fkey (n + 1) (2 ^ n + S0) ≤ fkey (n + 1) S := fun S q => by
      rcases mS_c q.1 with l | ⟨S1, l, rfl⟩
      · exact Or.inl ⟨l, (mG_w l).mp q, fkey_w l⟩
      · have z := m0 S1 ((mG_y l).mp q).2
        rw [ky, fkey_y l]
        exact Or.inr (by omega)
    have b1 := fkey_b (by omega) gy.1
    rcases d with ⟨u, no⟩ | ⟨S1, g1, k1, m1⟩
    · refine Or.inr ⟨2 ^ n + S0, gy, by omega, fun S q => ?_⟩
      rcases al S q with ⟨l, z, _⟩ | z
      · exact absurd z (no S)
      · exact z
    · have k1' := fkey_w g1.1
      by_cases c : fkey (n + 1) S1 ≤ fkey (n + 1) (2 ^ n + S0)
      · refine Or.inr ⟨S1, (mG_w g1.1).mpr g1, by omega, fun S q => ?_⟩
        rcases al S q with ⟨l, z, e⟩ | z
        · have y := m1 S z; omega
        · omega
      · refine Or.inr ⟨2 ^ n + S0, gy, by omega, fun S q => ?_⟩
        rcases al S q with ⟨l, z, e⟩ | z
        · have y := m1 S z; omega
        · exact z
/-- out of reach -/
theorem mE_o {f : Int → Int} {w R : Int} (hg : hr n = true ∧ 0 < W (n : Int)) (hw : w = W (n : Int)) (rc : ∀ s S, mG W hr n s S → s ≤ R) (o : s < w ∨ R + w < s) (d : mE W hr n s (f s)) : mE W hr (n + 1) s (f s) := by
  subst hw
  refine mE_w (fun S q => ?_) d
  rcases mS_c q.1 with l | ⟨S1, l, rfl⟩
  · exact l
  · have z := ((mG_y l).mp q).2
    have z0 := mG_0 z
    have y := rc _ _ z
    omega
end ME
/-- how far sums reach -/
def mT (W : Int → Int) (hr : Nat → Bool) : Nat → Int
  | 0 => 0
  | n + 1 => mT W hr n + (if hr n = true ∧ 0 < W (n : Int) then W (n : Int) else 0)
theorem mT_0 (W : Int → Int) (hr : Nat → Bool) : ∀ n : Nat, 0 ≤ mT W hr n
  | 0 => Int.le_refl _
  | n + 1 => by
    have := mT_0 W hr n
    show 0 ≤ mT W hr n + (if hr n = true ∧ 0 < W (n : Int) then W (n : Int) else 0)
    by_cases e : hr n = true ∧ 0 < W (n : Int)
    · rw [if_pos e]; have := e.2; omega
    · rw [if_neg e]; omega
theorem mG_T {W : Int → Int} {hr : Nat → Bool} : ∀ {n : Nat} {s : Int} {S : Nat}, mG W hr n s S → s ≤ mT W hr n
  | 0, s, S, h => by have z : (0 : Int) = s := h.2.2; show s ≤ 0; omega
  | n + 1, s, S, h => by
    show s ≤ mT W hr n + (if hr n = true ∧ 0 < W (n : Int) then W (n : Int) else 0)
    rcases mS_c h.1 with q | ⟨S0, q, rfl⟩
    · have y := mG_T ((mG_w q).mp h)
      by_cases e : hr n = true ∧ 0 < W (n : Int)
      · rw [if_pos e]; have := e.2; omega
      · rw [if_neg e]; omega
    · have z := (mG_y q).mp h
      have y := mG_T z.2
      rw [if_pos z.1]; omega
/-- the reference's sets: all that are here -/
def mI (W : Int → Int) (hr : Nat → Bool) (n : Nat) (m : Int) (S : Nat) : Prop := S < 2 ^ n ∧ (∀ i, i < n → S.testBit i = true → hr i = true) ∧ fsm W (fun i => S.testBit i) n = m
def mOn (n S : Nat) : Int := fct (fun i => S.testBit i) n
/-- who winds nothing is left out -/
theorem mI_g {W : Int → Int} {hr : Nat → Bool} (w0 : ∀ i : Nat, 0 ≤ W (i : Int)) : ∀ {n : Nat} {m : Int} {S : Nat}, mI W hr n m S → ∃ S', mG W hr n m S' ∧ (S' = S ∨ mOn n S' < mOn n S)
  | 0, m, S, h => ⟨S, ⟨h.1, fun i q => absurd q (Nat.not_lt_zero _), h.2.2⟩, Or.inl rfl⟩
  | n + 1, m, S, h => by
    obtain ⟨a, b, c⟩ := h
    rcases mS_c a with l | ⟨S0, l, rfl⟩
    · have t := Nat.testBit_lt_two_pow l
      have e : fsm W (fun i => S.testBit i) (n + 1) = fsm W (fun i => S.testBit i) n := by
        rw [fsm_n, t, if_neg (by decide)]; omega
      obtain ⟨S', g, o⟩ := mI_g w0 (n := n) (m := m) (S := S) ⟨l, fun i q => b i (by omega), by rw [← e]; exact c⟩
      refine ⟨S', (mG_w g.1).mpr g, ?_⟩
      rcases o with o | o
      · exact Or.inl o
      · refine Or.inr ?_
        unfold mOn at o ⊢
        rw [fcN_s, fcN_s, t, Nat.testBit_lt_two_pow g.1, if_neg (by decide)]
        omega
    · have t := mS_t l
      have e : fsm W (fun i => (2 ^ n + S0).testBit i) (n + 1) = fsm W (fun i => S0.testBit i) n + W (n : Int) := by
        rw [fsm_n, t.1, if_pos rfl, fsm_x (q := fun i => S0.testBit i) n (fun j q => t.2 j q)]
      have o1 : mOn (n + 1) (2 ^ n + S0) = mOn n S0 + 1 := by
        unfold mOn
        rw [fcN_s, t.1, if_pos rfl, fct_x (q := fun i => S0.testBit i) n (fun j q => t.2 j q)]
      obtain ⟨S', g, o⟩ := mI_g w0 (n := n) (m := m - W (n : Int)) (S := S0) ⟨l, fun i q z => b i (by omega) ((t.2 i q).trans z), by rw [e] at c; omega⟩
      have hn := b n (by omega) t.1
      by_cases y : 0 < W (n : Int)
      · refine ⟨2 ^ n + S', (mG_y g.1).mpr ⟨⟨hn, y⟩, g⟩, ?_⟩
        rcases o with o | o
        · exact Or.inl (by rw [o])
        · refine Or.inr ?_
          have o2 : mOn (n + 1) (2 ^ n + S') = mOn n S' + 1 := by
            have t2 := mS_t g.1
            unfold mOn
            rw [fcN_s, t2.1, if_pos rfl, fct_x (q := fun i => S'.testBit i) n (fun j q => t2.2 j q)]
          omega
      · have z := w0 n
        have wz : W (n : Int) = 0 := by omega
        rw [wz, Int.sub_zero] at g
        refine ⟨S', (mG_w g.1).mpr g, Or.inr ?_⟩
        have o2 : mOn (n + 1) S' = mOn n S' := by
          unfold mOn
          rw [fcN_s, Nat.testBit_lt_two_pow g.1, if_neg (by decide)]; omega
        rcases o with o | o
        · rw [o] at o2 ⊢; omega
        · omega
theorem mG_I {W : Int → Int} {hr : Nat → Bool} {n : Nat} {m : Int} {S : Nat} (h : mG W hr n m S) : mI W hr n m S := ⟨h.1, fun i q z => (h.2.1 i q z).1, h.2.2⟩
/-- the reference, behind t sets -/
def mR (W : Int → Int) (hr : Nat → Bool) (n : Nat) (m : Int) (t : Nat) (b : Int) : Prop := (b = -1 ∧ ∀ S, S < t → ¬ mI W hr n m S) ∨ (∃ B : Nat, b = (B : Int) ∧ B < t ∧ mI W hr n m B ∧ ∀ S, S < t → mI W hr n m S → mOn n B < mOn n S ∨ (mOn n B = mOn n S ∧ B ≤ S))
theorem mR_0 {W : Int → Int} {hr : Nat → Bool} {n : Nat} {m : Int} : mR W hr n m 0 (-1) := Or.inl ⟨rfl, fun S q => absurd q (Nat.not_lt_zero _)⟩
/-- a set that is no better, or none -/
theorem mR_n {W : Int → Int} {hr : Nat → Bool} {n t : Nat} {m b : Int} (h : mR W hr n m t b) (o : ¬ mI W hr n m t ∨ ∃ B : Nat, b = (B : Int) ∧ mOn n B ≤ mOn n t) : mR W hr n m (t + 1) b := by
  rcases h with ⟨a, c⟩ | ⟨B, a, c, d, e⟩
  · refine Or.inl ⟨a, fun S q => ?_⟩
    by_cases y : S = t
    · rw [y]
      rcases o with o | ⟨B, o, _⟩
      · exact o
      · exfalso; omega
    · exact c S (by omega)
  · refine Or.inr ⟨B, a, by omega, d, fun S q z => ?_⟩
    by_cases y : S = t
    · rw [y] at z ⊢
      rcases o with o | ⟨B', o, o2⟩
      · exact absurd z o
      · have eb : B = B' := by omega
        rw [← eb] at o2
        by_cases w : mOn n B < mOn n t
        · exact Or.inl w
        · exact Or.inr ⟨by omega, by omega⟩
    · exact e S (by omega) z
/-- a better one -/
theorem mR_y {W : Int → Int} {hr : Nat → Bool} {n t : Nat} {m b : Int} (h : mR W hr n m t b) (g : mI W hr n m t) (o : b = -1 ∨ ∃ B : Nat, b = (B : Int) ∧ mOn n t < mOn n B) : mR W hr n m (t + 1) (t : Int) := by
  refine Or.inr ⟨t, rfl, by omega, g, fun S q z => ?_⟩
  by_cases y : S = t
  · rw [y]; exact Or.inr ⟨rfl, Nat.le_refl _⟩
  · rcases h with ⟨a, c⟩ | ⟨B, a, c, d, e⟩
    · exact absurd z (c S (by omega))
    · rcases o with o | ⟨B', o, o2⟩
      · exfalso; omega
      · have eb : B = B' := by omega
        rw [← eb] at o2
        have w := e S (by omega) z
        omega
/-- both find the same -/
theorem mR_E {W : Int → Int} {hr : Nat → Bool} {n : Nat} {m v b : Int} (w0 : ∀ i : Nat, 0 ≤ W (i : Int)) (n18 : n ≤ 18) (e : mE W hr n m v) (r : mR W hr n m (2 ^ n) b) : (v = 2147483647 ∧ b = -1) ∨ (∃ B : Nat, ¬ v = 2147483647 ∧ b = (B : Int) ∧ (B : Int) < 262144 ∧ v = 262144 * mOn n B + (B : Int) ∧ 0 ≤ mOn n B ∧ mOn n B ≤ 18) := by
  rcases e with ⟨a, no⟩ | ⟨S, g, k, mi⟩
  · rcases r with ⟨c, _⟩ | ⟨B, c, d, i, _⟩
    · exact Or.inl ⟨a, c⟩
    · obtain ⟨S', g', _⟩ := mI_g w0 i
      exact absurd g' (no S')
  · have kb := fkey_b n18 g.1
    rcases r with ⟨c, no⟩ | ⟨B, c, d, i, le⟩
    · exact absurd (mG_I g) (no S g.1)
    · obtain ⟨S', g', o⟩ := mI_g w0 i
      have b1 := le S g.1 (mG_I g)
      have m1 := mi S' g'
      have p : 2 ^ n ≤ 2 ^ 18 := Nat.pow_le_pow_right (by decide) n18
      have p2 : (2 : Nat) ^ 18 = 262144 := by decide
      have s1 := g.1
      have s2 := g'.1
      have ob := fct_b (fun i => B.testBit i) n
      have eq : B = S := by
        unfold fkey at m1
        unfold mOn at b1 o
        rcases o with o | o
        · rw [o] at m1
          omega
        · omega
      refine Or.inr ⟨B, by omega, c, by omega, ?_, ?_, ?_⟩
      · rw [eq, k]; rfl
      · show 0 ≤ fct (fun i => B.testBit i) n; omega
      · show fct (fun i => B.testBit i) n ≤ 18; omega
/-! ===== what each person winds; the rows of sums ===== -/
def fWi (E : fE) (r : fR) (i : Int) : Int := if r (9 + i) = 0 then fTl E r 1 i else 0
theorem fWi_b (E : fE) (r : fR) (i : Int) : 0 ≤ fWi E r i ∧ fWi E r i ≤ 999 := by
  have t := fTl_b E r 1 i
  have m : fMo 1 = 999 := rfl
  unfold fWi
  by_cases h : r (9 + i) = 0
  · rw [if_pos h]; omega
  · rw [if_neg h]; omega
theorem fWi_h {E : fE} {r : fR} {i : Int} (h : r (9 + i) = 0) : fWi E r i = fTl E r 1 i := if_pos h
theorem fWi_a {E : fE} {r : fR} {i : Int} (h : ¬ r (9 + i) = 0) : fWi E r i = 0 := if_neg h
theorem fsm_b {W : Int → Int} (w : ∀ i : Int, 0 ≤ W i ∧ W i ≤ 999) (p : Nat → Bool) : ∀ n : Nat, 0 ≤ fsm W p n ∧ fsm W p n ≤ 999 * (n : Int)
  | 0 => ⟨Int.le_refl _, Int.le_refl _⟩
  | n + 1 => by
    have h := fsm_b w p n
    have k := w (n : Int)
    rw [fsm_n]
    by_cases e : p n = true
    · rw [if_pos e]; omega
    · rw [if_neg e]; omega
def fAd (f : Int → Int) (w more t : Int) : Int := if f (t - w) = 2147483647 then f t else zm_min (f t) (zwp (f (t - w) + more))
def fAi (f : Int → Int) (w R more x t : Int) : Int := if x < t ∧ t ≤ R ∧ w ≤ t then fAd f w more t else f t
section FA
variable {f : Int → Int} {w R more x t : Int}
theorem fAi_b (h : ¬ (x < t ∧ t ≤ R ∧ w ≤ t)) : fAi f w R more x t = f t := if_neg h
theorem fAi_y (h : x < t ∧ t ≤ R ∧ w ≤ t) : fAi f w R more x t = fAd f w more t := if_pos h
theorem fAi_s (h : ¬ t = x) : fAi f w R more (x - 1) t = fAi f w R more x t := by
  by_cases q : x < t ∧ t ≤ R ∧ w ≤ t
  · rw [fAi_y q, fAi_y (by omega)]
  · rw [fAi_b q, fAi_b (by omega)]
theorem fAi_n (hx : w ≤ x ∧ x ≤ R) (u : f (x - w) = 2147483647) : fAi f w R more x t = fAi f w R more (x - 1) t := by
  by_cases e : t = x
  · subst e
    rw [fAi_b (by omega), fAi_y (by omega)]
    unfold fAd
    rw [if_pos u]
  · exact (fAi_s e).symm
theorem fAi_w {g g' : Int → Int} (hg : ∀ t, g t = fAi f w R more x t) (hx : w ≤ x ∧ x ≤ R) (u : ¬ f (x - w) = 2147483647) (hv : g' x = zm_min (f x) (zwp (f (x - w) + more))) (ho : ∀ t, ¬ t = x → g' t = g t) : ∀ t, g' t = fAi f w R more (x - 1) t := by
  intro t
  by_cases e : t = x
  · subst e
    rw [hv, fAi_y (by omega)]
    unfold fAd
    rw [if_neg u]
  · rw [ho t e, hg t, fAi_s e]
theorem fAi_e (h : x < w) : fAi f w R more x t = if w ≤ t ∧ t ≤ R then fAd f w more t else f t := by
  by_cases q : w ≤ t ∧ t ≤ R
  · rw [if_pos q, fAi_y (by omega)]
  · rw [if_neg q, fAi_b (by omega)]
end FA
theorem fAd_e {W : Int → Int} {hr : Nat → Bool} {n : Nat} {f : Int → Int} {w more s : Int} (n18 : n ≤ 18) (hm : 0 ≤ more ∧ more ≤ 1000000) (d2 : mE W hr n (s - w) (f (s - w))) : fAd f w more s = if f (s - w) = 2147483647 then f s else zm_min (f s) (f (s - w) + more) := by
  unfold fAd
  by_cases u : f (s - w) = 2147483647
  · rw [if_pos u, if_pos u]
  · rw [if_neg u, if_neg u]
    rcases d2 with ⟨a, _⟩ | ⟨S, g, k, _⟩
    · exact absurd a u
    · have b := fkey_b n18 g.1
      have p : 2 ^ n ≤ 2 ^ 18 := Nat.pow_le_pow_right (by decide) n18
      have p2 : (2 : Nat) ^ 18 = 262144 := by decide
      have ob := fct_b (fun i => S.testBit i) n
      have s1 := g.1
      unfold fkey at k
      rw [zwp_id (by omega)]
theorem mT_n {W : Int → Int} {hr : Nat → Bool} {n : Nat} (h : ¬ (hr n = true ∧ 0 < W (n : Int))) : mT W hr (n + 1) = mT W hr n := by
  show mT W hr n + (if hr n = true ∧ 0 < W (n : Int) then W (n : Int) else 0) = _
  rw [if_neg h]; omega
theorem mT_y {W : Int → Int} {hr : Nat → Bool} {n : Nat} (h : hr n = true ∧ 0 < W (n : Int)) : mT W hr (n + 1) = mT W hr n + W (n : Int) := by
  show mT W hr n + (if hr n = true ∧ 0 < W (n : Int) then W (n : Int) else 0) = _
  rw [if_pos h]
theorem zshl_2 : ∀ k : Nat, k < 31 → zshl 1 (k : Int) = ((2 ^ k : Nat) : Int) := by decide +kernel
/-- one person more: reach and rows -/
def mS (W : Int → Int) (hr : Nat → Bool) (n : Nat) (m L : Int) (f : Int → Int) : Prop := (L ≤ m ∧ L ≤ mT W hr n ∧ (L = m ∨ L = mT W hr n)) ∧ ∀ s, 0 ≤ s → s ≤ m → mE W hr n s (f s)
theorem mS_0 {W : Int → Int} {hr : Nat → Bool} {m : Int} {f : Int → Int} (m0 : 0 ≤ m) (h0 : f 0 = 0) (h1 : ∀ s, 1 ≤ s → s ≤ m → f s = 2147483647) : mS W hr 0 m 0 f :=
  ⟨⟨m0, Int.le_refl _, Or.inr rfl⟩, fun s a b => mE_0 (fun e => by rw [e]; exact h0) (fun e => h1 s (by omega) b)⟩
theorem mS_n {W : Int → Int} {hr : Nat → Bool} {n : Nat} {m L : Int} {f g : Int → Int} (d : mS W hr n m L f) (h : ¬ (hr n = true ∧ 0 < W (n : Int))) (e : ∀ s, g s = f s) : mS W hr (n + 1) m L g := by
  obtain ⟨a, b⟩ := d
  refine ⟨?_, fun s p q => by rw [e]; exact mE_n h (b s p q)⟩
  rw [mT_n h]; exact a
theorem mS_y {W : Int → Int} {hr : Nat → Bool} {n : Nat} {m L L' w more : Int} {f g : Int → Int} (d : mS W hr n m L f) (n18 : n < 18) (h : hr n = true ∧ 0 < W (n : Int)) (hw : w = W (n : Int)) (hm : more = 262144 + ((2 ^ n : Nat) : Int)) (hL : L' = zm_min m (L + w)) (e : ∀ s, g s = if w ≤ s ∧ s ≤ L' then fAd f w more s else f s) : mS W hr (n + 1) m L' g := by
  obtain ⟨⟨a1, a2, a3⟩, b⟩ := d
  have mn := zm_min_f m (L + w)
  have t0 := mT_0 W hr n
  have h2 := h.2
  refine ⟨?_, fun s p q => ?_⟩
  · rw [mT_y h]; omega
  · rw [e s]
    have p2 : 2 ^ n ≤ 2 ^ 17 := Nat.pow_le_pow_right (by decide) (by omega)
    have p3 : (2 : Nat) ^ 17 = 131072 := by decide
    by_cases c : w ≤ s ∧ s ≤ L'
    · rw [if_pos c]
      have d2 := b (s - w) (by omega) (by omega)
      have p0 : (0 : Int) ≤ ((2 ^ n : Nat) : Int) := Int.natCast_nonneg _
      rw [fAd_e (by omega) (by omega) d2]
      exact mE_s n18 h hw hm (b s p q) d2
    · rw [if_neg c]
      exact mE_o (R := mT W hr n) h hw (fun s' S g' => mG_T g') (by omega) (b s p q)
/-- what must comes to -/
def fMc (W : Int → Int) (hr : Nat → Bool) (n : Nat) (m p v : Int) : Prop := (¬ ((0 ≤ m ∧ m ≤ 9999) ∧ (0 ≤ p ∧ p ≤ 1)) → v = -1) ∧ (((0 ≤ m ∧ m ≤ 9999) ∧ (0 ≤ p ∧ p ≤ 1)) → ∃ u, mE W hr n m u ∧ ((u = 2147483647 ∧ v = -1) ∨ (¬ u = 2147483647 ∧ (p = 0 → v = zshr u 18) ∧ (¬ p = 0 → v = zand u 262143))))
def fMm (W : Int → Int) (hr : Nat → Bool) (n : Nat) (m p v : Int) : Prop := (¬ ((0 ≤ m ∧ m ≤ 9999) ∧ (0 ≤ p ∧ p ≤ 1)) → v = -1) ∧ (((0 ≤ m ∧ m ≤ 9999) ∧ (0 ≤ p ∧ p ≤ 1)) → ∃ b, mR W hr n m (2 ^ n) b ∧ ((b = -1 ∨ p = 1) → v = b) ∧ (¬ (b = -1 ∨ p = 1) → v = fct (fgb b) 31))
theorem fMu {W : Int → Int} {hr : Nat → Bool} {n : Nat} {m p v v' : Int} (w0 : ∀ i : Nat, 0 ≤ W (i : Int)) (n18 : n ≤ 18) (c : fMc W hr n m p v) (k : fMm W hr n m p v') : v = v' := by
  by_cases r : (0 ≤ m ∧ m ≤ 9999) ∧ (0 ≤ p ∧ p ≤ 1)
  · obtain ⟨u, e, cu⟩ := c.2 r
    obtain ⟨b, q, k1, k2⟩ := k.2 r
    rcases mR_E w0 n18 e q with ⟨a1, a2⟩ | ⟨B, a1, a2, a3, a4, a5, a6⟩
    · have z := k1 (Or.inl a2)
      omega
    · rcases cu with ⟨x, _⟩ | ⟨x, x0, x1⟩
      · exact absurd x a1
      · have q1 := q
        have bl : B < 2 ^ n := by
          rcases q with ⟨y, _⟩ | ⟨B', y, y2, _⟩
          · exfalso; omega
          · have : B = B' := by omega
            rw [this]; exact y2
        by_cases y : p = 0
        · have z := k2 (by omega)
          rw [x0 y, z, a2, zshr_p (by omega) (by decide)]
          have e1 : fct (fgb (B : Int)) 31 = fct (fun i => B.testBit i) 31 := fct_x 31 (fun i _ => by rw [fgb_p (by omega)]; rfl)
          have e2 : (31 : Nat) = n + (31 - n) := by omega
          rw [e1, e2, fct_z (31 - n) (fun i g1 g2 => Nat.testBit_lt_two_pow (Nat.lt_of_lt_of_le bl (Nat.pow_le_pow_right (by decide) g1)))]
          have e3 : (18 : Int).toNat = 18 := rfl
          have e4 : (2 : Nat) ^ 18 = 262144 := by decide
          rw [e3, e4]
          unfold mOn at a4 a5
          omega
        · have z := k1 (Or.inr (by omega))
          rw [x1 y, z, a2, zand_m (d := 262144) 18 (by decide) (by decide) (by decide)]
          omega
  · rw [c.1 r, k.1 r]
/-- the reference's sets: here, or not -/
theorem mI_h {W : Int → Int} {n : Nat} {r : fR} {v s : Int} {S : Nat} (t : zHs v n r) (n18 : n ≤ 18) (hv : 0 ≤ v ∧ v ≤ 262143) (hs : s = (S : Int)) (hS : S < 2 ^ n) : (zand s (zxor v (-1)) = 0 → ∀ i, i < n → S.testBit i = true → fHr r i = true) ∧ (¬ zand s (zxor v (-1)) = 0 → ∀ m, ¬ mI W (fHr r) n m S) := by
  have p : 2 ^ n ≤ 2 ^ 18 := Nat.pow_le_pow_right (by decide) n18
  have p2 : (2 : Nat) ^ 18 = 262144 := by decide
  have b : ∀ i : Nat, i < 32 → fgb (zand s (zxor v (-1))) i = (S.testBit i && !(decide ((i : Int) < n) && decide (r (9 + (i : Int)) = 0))) := fun i q => by
    rw [fgb_and, fgb_xor, fgb_m1 i q, t i q, hs, fgb_p (by omega)]
    cases (decide ((i : Int) < (n : Int)) && decide (r (9 + (i : Int)) = 0)) <;> rfl
  constructor
  · intro z i q y
    have e := b i (by omega)
    rw [z, fgb_0, y, decide_eq_true (show (i : Int) < n by omega)] at e
    show decide (r (9 + (i : Int)) = 0) = true
    cases h : decide (r (9 + (i : Int)) = 0) with
    | true => rfl
    | false => rw [h] at e; exact absurd e (by decide)
  · intro z m g
    apply z
    refine fgb_x (zand_in _ _) (by decide) (fun i q => ?_)
    rw [b i q, fgb_0]
    by_cases y : S.testBit i = true
    · have l : i < n := by
        by_cases w : i < n
        · exact w
        · rw [Nat.testBit_lt_two_pow (Nat.lt_of_lt_of_le hS (Nat.pow_le_pow_right (by decide) (by omega)))] at y; exact absurd y (by decide)
      have h : decide (r (9 + (i : Int)) = 0) = true := g.2.1 i l y
      rw [y, h, decide_eq_true (show (i : Int) < n by omega)]; rfl
    · have y' : S.testBit i = false := by cases h : S.testBit i with
        | true => exact absurd h y
        | false => rfl
      rw [y']; rfl
theorem mOn_f {n S : Nat} {s : Int} (n18 : n ≤ 18) (hs : s = (S : Int)) (hS : S < 2 ^ n) : fct (fgb s) 31 = mOn n S := by
  have p : 2 ^ n ≤ 2 ^ 18 := Nat.pow_le_pow_right (by decide) n18
  have p2 : (2 : Nat) ^ 18 = 262144 := by decide
  have e1 : fct (fgb s) 31 = fct (fun i => S.testBit i) 31 := fct_x 31 (fun i _ => by rw [hs, fgb_p (by omega)]; rfl)
  have e2 : (31 : Nat) = n + (31 - n) := by omega
  rw [e1, e2, fct_z (31 - n) (fun i g1 g2 => Nat.testBit_lt_two_pow (Nat.lt_of_lt_of_le hS (Nat.pow_le_pow_right (by decide) g1)))]
  rfl
theorem zRF_must {x m p vC vM : Int} {fs cs : List Int} {hC hC' hM hM' : zM} (s : okC hC) (r : zRF x hC hM) (e : ∀ a b, zpK a b → hC'.2 a b = hC.2 a b) (q : zfr fs cs hM hM') (k : zokK fs cs = true) (k2 : zokJ fs cs = true) (qC : ∀ E x, xC hC 1 E false x → fMc (fWi E x.1) (fHr x.1) E.n.toNat m p vC) (qM : ∀ E th x, zY hM E th x → fMm (fWi E x.1) (fHr x.1) E.n.toNat m p vM) : vC = vM ∧ zRF (x + 6) hC' hM' := by
  refine ⟨?_, zRF_o s r e q k k2⟩
  obtain ⟨z, rC, rM, _, _⟩ := r
  have n18 := rC.1.1.1
  exact fMu (fun i => (fWi_b _ _ _).1) (by omega) (qC z.e z.x rC.1) (qM z.e false z.x rM.1)
theorem mR_b {W : Int → Int} {hr : Nat → Bool} {n t : Nat} {m b : Int} (d : mR W hr n m t b) (h : ¬ b = -1) : 0 ≤ b ∧ b.toNat < t := by
  rcases d with ⟨a, _⟩ | ⟨B, a, c, _⟩
  · exact absurd a h
  · subst a; exact ⟨by omega, by omega⟩
theorem mHr {r : fR} {i : Int} (h : 0 ≤ i) : fHr r i.toNat = true ↔ r (9 + i) = 0 := by
  unfold fHr
  rw [Int.toNat_of_nonneg h]; exact decide_eq_true_iff
theorem mS_ni {E : fE} {r : fR} {i m L : Int} {f g : Int → Int} (h0 : 0 ≤ i) (d : mS (fWi E r) (fHr r) i.toNat m L f) (h : ¬ r (9 + i) = 0 ∨ fTl E r 1 i ≤ 0) (e : ∀ s, g s = f s) : mS (fWi E r) (fHr r) (i + 1).toNat m L g := by
  have e0 : ((i.toNat : Nat) : Int) = i := Int.toNat_of_nonneg h0
  rw [show (i + 1).toNat = i.toNat + 1 by omega]
  refine mS_n d (fun q => ?_) e
  have q1 := (mHr h0).mp q.1
  have q2 := q.2
  rw [e0] at q2
  rcases h with h | h
  · exact h q1
  · rw [fWi_h q1] at q2; omega
theorem mS_yi {E : fE} {r : fR} {i m L L' w more : Int} {f g : Int → Int} (h0 : 0 ≤ i ∧ i < 18) (d : mS (fWi E r) (fHr r) i.toNat m L f) (h : r (9 + i) = 0) (hw : w = fTl E r 1 i) (w0 : 0 < w) (hm : more = 262144 + zshl 1 i) (hL : L' = zm_min m (L + w)) (e : ∀ s, g s = if w ≤ s ∧ s ≤ L' then fAd f w more s else f s) : mS (fWi E r) (fHr r) (i + 1).toNat m L' g := by
  have e0 : ((i.toNat : Nat) : Int) = i := Int.toNat_of_nonneg h0.1
  rw [show (i + 1).toNat = i.toNat + 1 by omega]
  have z9 := zshl_2 i.toNat (by omega)
  rw [e0] at z9
  have hW : w = fWi E r ((i.toNat : Nat) : Int) := by rw [e0, fWi_h h]; exact hw
  exact mS_y d (by omega) ⟨(mHr h0.1).mpr h, by rw [← hW]; exact w0⟩ hW (by rw [hm, z9]) hL e
theorem mPow {k s : Int} (hk : 0 ≤ k ∧ k ≤ 18) (h : 0 ≤ s ∧ s < zshl 1 k) : s.toNat < 2 ^ k.toNat := by
  have z9 := zshl_2 k.toNat (by omega)
  rw [Int.toNat_of_nonneg hk.1] at z9
  have h2 := h.2
  rw [z9] at h2
  have h1 := h.1
  generalize 2 ^ k.toNat = P at h2 ⊢
  omega
theorem mPow_e {k s : Int} (hk : 0 ≤ k ∧ k ≤ 18) (h : zshl 1 k ≤ s) (h2 : s ≤ zshl 1 k) : s.toNat = 2 ^ k.toNat := by
  have z9 := zshl_2 k.toNat (by omega)
  rw [Int.toNat_of_nonneg hk.1] at z9
  rw [z9] at h h2
  generalize 2 ^ k.toNat = P at h h2 ⊢
  omega
theorem mPow_0 {k : Int} (hk : 0 ≤ k ∧ k ≤ 18) : 0 ≤ zshl 1 k := by
  have z9 := zshl_2 k.toNat (by omega)
  rw [Int.toNat_of_nonneg hk.1] at z9
  rw [z9]
  exact Int.natCast_nonneg _
section MRX
variable {E : fE} {r : fR} {v s m b k x i : Int}
theorem mR_h (n18 : 0 ≤ E.n ∧ E.n ≤ 18) (t : zHs v E.n r) (hv : 0 ≤ v ∧ v ≤ 262143) (d : mR (fWi E r) (fHr r) E.n.toNat m s.toNat b) (hs : 0 ≤ s ∧ s < zshl 1 E.n) (c : ¬ zand s (zxor v (-1)) = 0) : mR (fWi E r) (fHr r) E.n.toNat m (s + 1).toNat b := by
  have h1 := hs.1
  rw [show (s + 1).toNat = s.toNat + 1 by omega]
  have t2 : zHs v ((E.n.toNat : Nat) : Int) r := by rw [Int.toNat_of_nonneg n18.1]; exact t
  exact mR_n d (Or.inl ((mI_h (W := fWi E r) t2 (by omega) hv (show s = ((s.toNat : Nat) : Int) by omega) (mPow n18 hs)).2 c m))
theorem mR_o (n18 : 0 ≤ E.n ∧ E.n ≤ 18) (d : mR (fWi E r) (fHr r) E.n.toNat m s.toNat b) (hs : 0 ≤ s ∧ s < zshl 1 E.n) (hb : ¬ b = -1) (c : fct (fgb b) 31 ≤ fct (fgb s) 31) : mR (fWi E r) (fHr r) E.n.toNat m (s + 1).toNat b := by
  have h1 := hs.1
  rw [show (s + 1).toNat = s.toNat + 1 by omega]
  have k := mR_b d hb
  have hS := mPow n18 hs
  refine mR_n d (Or.inr ⟨b.toNat, by omega, ?_⟩)
  have e1 := mOn_f (n := E.n.toNat) (s := b) (S := b.toNat) (by omega) (by omega) (Nat.lt_trans k.2 hS)
  have e2 := mOn_f (n := E.n.toNat) (s := s) (S := s.toNat) (by omega) (by omega) hS
  rw [← e1, ← e2]
  exact c
theorem mR_s (n18 : 0 ≤ E.n ∧ E.n ≤ 18) (t : zHs v E.n r) (hv : 0 ≤ v ∧ v ≤ 262143) (d : mR (fWi E r) (fHr r) E.n.toNat m s.toNat b) (hs : 0 ≤ s ∧ s < zshl 1 E.n) (c : zand s (zxor v (-1)) = 0) (e : k = fsm (fWi E r) (fun j => s.toNat.testBit j) E.n.toNat) (o : b = -1 ∨ (¬ b = -1 ∧ fct (fgb s) 31 < fct (fgb b) 31)) : (¬ k = m → mR (fWi E r) (fHr r) E.n.toNat m (s + 1).toNat b) ∧ (k = m → mR (fWi E r) (fHr r) E.n.toNat m (s + 1).toNat s) := by
  have h1 := hs.1
  rw [show (s + 1).toNat = s.toNat + 1 by omega]
  have t2 : zHs v ((E.n.toNat : Nat) : Int) r := by rw [Int.toNat_of_nonneg n18.1]; exact t
  have hS := mPow n18 hs
  have es : s = ((s.toNat : Nat) : Int) := by omega
  have hr := (mI_h (W := fWi E r) t2 (by omega) hv es hS).1 c
  have e2 := mOn_f (n := E.n.toNat) (s := s) (S := s.toNat) (by omega) es hS
  refine ⟨fun q => mR_n d (Or.inl (fun g => q (by rw [e]; exact g.2.2))), fun q => ?_⟩
  have o2 : b = -1 ∨ ∃ B : Nat, b = (B : Int) ∧ mOn E.n.toNat s.toNat < mOn E.n.toNat B := by
    rcases o with o | ⟨o1, o2⟩
    · exact Or.inl o
    · have k := mR_b d o1
      have e1 := mOn_f (n := E.n.toNat) (s := b) (S := b.toNat) (by omega) (by omega) (Nat.lt_trans k.2 hS)
      exact Or.inr ⟨b.toNat, by omega, by rw [← e1, ← e2]; exact o2⟩
  have w := mR_y d ⟨hS, hr, by rw [← e]; exact q⟩ o2
  rw [← es] at w
  exact w
theorem fsm_y {W : Int → Int} {p : Nat → Bool} {n : Nat} (h : p n = true) : fsm W p (n + 1) = fsm W p n + W (n : Int) := by rw [fsm_n, if_pos h]
theorem fsm_o {W : Int → Int} {p : Nat → Bool} {n : Nat} (h : ¬ p n = true) : fsm W p (n + 1) = fsm W p n := by rw [fsm_n, if_neg h]; omega
theorem fsm_i (hs : 0 ≤ s ∧ s ≤ 262144) (hi : 0 ≤ i ∧ i < 18) (e : k = fsm (fWi E r) (fun j => s.toNat.testBit j) i.toNat) : (zand (zshr s i) 1 = 1 → x = fWi E r i → zwp (k + x) = fsm (fWi E r) (fun j => s.toNat.testBit j) (i + 1).toNat) ∧ (¬ zand (zshr s i) 1 = 1 → k = fsm (fWi E r) (fun j => s.toNat.testBit j) (i + 1).toNat) := by
  have e0 : ((i.toNat : Nat) : Int) = i := Int.toNat_of_nonneg hi.1
  have b := fsm_b (fWi_b E r) (fun j => s.toNat.testBit j) i.toNat
  have g := fgb_t1 (x := s) (i := i) (by omega) (by omega)
  rw [fgb_p (by omega)] at g
  rw [show (i + 1).toNat = i.toNat + 1 by omega]
  refine ⟨fun c hx => ?_, fun c => ?_⟩
  · rw [fsm_y (p := fun j => s.toNat.testBit j) (g.mp c), e0, ← hx, ← e]
    have bx := fWi_b E r i
    exact zwp_id (by unfold zin; omega)
  · rw [fsm_o (p := fun j => s.toNat.testBit j) (fun q => c (g.mpr q))]
    exact e
end MRX
