/-! ===== texts: places, tokens, words ===== -/
def tWd : List (List Int) := [[108, 101, 97, 118, 101, 115], [119, 105, 110, 100, 115], [114, 101, 116, 117, 114, 110, 115], [119, 104, 101, 110], [111, 114], [97, 110, 100], [110, 111, 116], [119, 101, 105, 103, 104, 116], [108, 111, 110, 103], [108, 101, 102, 116], [104, 101, 114, 101], [112, 101, 111, 112, 108, 101], [119, 111, 117, 110, 100], [116, 105, 109, 101], [115, 99, 104, 111, 111, 108], [107, 105, 110], [100, 97, 121], [111, 110], [98, 111, 97, 116], [111, 117, 116], [98, 97, 99, 107], [98, 101, 103], [105, 115, 108, 97, 110, 100, 101, 114], [102, 114, 101, 101], [104, 111, 108, 105, 100, 97, 121], [105, 110, 116, 101, 114, 101, 115, 116], [112, 117, 115, 104]]
def tSl : List (List Int) := [[0, 7, 13, 21, 26, 29, 33, 37, 44, 49, 54, 59, 66, 72, 77, 84, 88, 92], [0], [0, 3, 8, 12, 17], [0, 3, 7, 12, 19, 27, 36, 41], [0, 9, 13]]
def tMp : List (List Nat) := [[0, 1, 2, 3, 4, 5, 6, 7, 8, 9, 10, 11, 12, 13, 14, 15, 16], [], [17, 18, 19, 20], [17, 21, 23, 14, 24, 25, 26], [22, 15]]
def tRs : List Int := [0, 7, 13, 21, 26, 29, 33, 37, 44, 49, 54, 59, 66, 72, 77, 84, 88, 92, 95, 100, 104, 109, 113, 122, 127, 135, 144, 149]
def tBt : List (List Int) := [[108, 101, 97, 118, 101, 115, 32, 119, 105, 110, 100, 115, 32, 114, 101, 116, 117, 114, 110, 115, 32, 119, 104, 101, 110, 32, 111, 114, 32, 97, 110, 100, 32, 110, 111, 116, 32, 119, 101, 105, 103, 104, 116, 32, 108, 111, 110, 103, 32, 108, 101, 102, 116, 32, 104, 101, 114, 101, 32, 112, 101, 111, 112, 108, 101, 32, 119, 111, 117, 110, 100, 32, 116, 105, 109, 101, 32, 115, 99, 104, 111, 111, 108, 32, 107, 105, 110, 32, 100, 97, 121, 32], [59, 43, 45, 42, 47, 40, 41, 60, 61, 62], [111, 110, 32, 98, 111, 97, 116, 32, 111, 117, 116, 32, 98, 97, 99, 107, 32], [111, 110, 32, 98, 101, 103, 32, 102, 114, 101, 101, 32, 115, 99, 104, 111, 111, 108, 32, 104, 111, 108, 105, 100, 97, 121, 32, 105, 110, 116, 101, 114, 101, 115, 116, 32, 112, 117, 115, 104, 32], [105, 115, 108, 97, 110, 100, 101, 114, 32, 107, 105, 110, 32]]
def tBv (i k : Nat) : Int := (tBt.getD i []).getD k 0
def tNw (i : Nat) : Nat := (tMp.getD i []).length
def tSa (i : Nat) (k : Int) : Int := (tSl.getD i []).getD k.toNat 0
def tSb (i : Nat) (k : Int) : Int := tSa i (k + 1) - 1
abbrev tLt (c : Int) : Prop := (97 ≤ c ∧ c ≤ 122) ∨ (65 ≤ c ∧ c ≤ 90)
abbrev tDg (c : Int) : Prop := 48 ≤ c ∧ c ≤ 57
abbrev tBl (c : Int) : Prop := c = 32 ∨ c = 10
abbrev tSg (c : Int) : Prop := c = 59 ∨ c = 43 ∨ c = 45 ∨ c = 42 ∨ c = 47 ∨ c = 40 ∨ c = 41 ∨ c = 60 ∨ c = 61 ∨ c = 62
def tRun (P : Int → Prop) (B : Int → Int) (n p e : Int) : Prop := p ≤ e ∧ e ≤ n ∧ (∀ i, p ≤ i → i < e → P (B i)) ∧ (e < n → ¬ P (B e))
theorem tRun_u {P : Int → Prop} {B : Int → Int} {n p e e' : Int} (a : tRun P B n p e) (b : tRun P B n p e') : e = e' := by
  obtain ⟨a1, a2, a3, a4⟩ := a
  obtain ⟨b1, b2, b3, b4⟩ := b
  rcases Int.lt_trichotomy e e' with c | c | c
  · exact absurd (b3 e a1 c) (a4 (by omega))
  · exact c
  · exact absurd (a3 e' b1 c) (b4 (by omega))
theorem tRun_x {P : Int → Prop} {B B' : Int → Int} {n p e : Int} (p0 : 0 ≤ p) (x : ∀ i, 0 ≤ i → i < n → B' i = B i) (a : tRun P B n p e) : tRun P B' n p e := by
  obtain ⟨a1, a2, a3, a4⟩ := a
  refine ⟨a1, a2, fun i h1 h2 => ?_, fun h => ?_⟩
  · rw [x i (by omega) (by omega)]; exact a3 i h1 h2
  · rw [x e (by omega) h]; exact a4 h
theorem tRun_0 {P : Int → Prop} {B : Int → Int} {n p : Int} (h : p ≤ n) (a : p < n → ¬ P (B p)) : tRun P B n p p := ⟨Int.le_refl p, h, fun i h1 h2 => absurd h1 (by omega), a⟩
theorem tRun_s {P : Int → Prop} {B : Int → Int} {n p e : Int} (h : P (B p)) (a : tRun P B n (p + 1) e) : tRun P B n p e := by
  obtain ⟨a1, a2, a3, a4⟩ := a
  refine ⟨by omega, a2, fun i h1 h2 => ?_, a4⟩
  by_cases c : i = p
  · rw [c]; exact h
  · exact a3 i (by omega) h2
def tEnd (B : Int → Int) (n q e : Int) : Prop := (tLt (B q) ∧ tRun tLt B n (q + 1) e) ∨ (tDg (B q) ∧ tRun tDg B n (q + 1) e) ∨ (¬ tLt (B q) ∧ ¬ tDg (B q) ∧ e = q + 1)
theorem tEnd_u {B : Int → Int} {n q e e' : Int} (a : tEnd B n q e) (b : tEnd B n q e') : e = e' := by
  rcases a with ⟨a1, a2⟩ | ⟨a1, a2⟩ | ⟨a1, a2, a3⟩ <;> rcases b with ⟨b1, b2⟩ | ⟨b1, b2⟩ | ⟨b1, b2, b3⟩
  · exact tRun_u a2 b2
  · exact absurd a1 (by omega)
  · exact absurd a1 b1
  · exact absurd b1 (by omega)
  · exact tRun_u a2 b2
  · exact absurd a1 b2
  · exact absurd b1 a1
  · exact absurd b1 a2
  · omega
theorem tEnd_x {B B' : Int → Int} {n q e : Int} (q0 : 0 ≤ q ∧ q < n) (x : ∀ i, 0 ≤ i → i < n → B' i = B i) (a : tEnd B n q e) : tEnd B' n q e := by
  unfold tEnd at a ⊢
  rw [x q q0.1 q0.2]
  rcases a with ⟨a1, a2⟩ | ⟨a1, a2⟩ | a
  · exact Or.inl ⟨a1, tRun_x (by omega) x a2⟩
  · exact Or.inr (Or.inl ⟨a1, tRun_x (by omega) x a2⟩)
  · exact Or.inr (Or.inr a)
theorem tEnd_b {B : Int → Int} {n q e : Int} (q0 : q < n) (a : tEnd B n q e) : q + 1 ≤ e ∧ e ≤ n := by
  rcases a with ⟨_, a⟩ | ⟨_, a⟩ | ⟨_, _, a⟩
  · exact ⟨a.1, a.2.1⟩
  · exact ⟨a.1, a.2.1⟩
  · omega
/-- where the tokens stand -/
def tQ (B : Int → Int) (n : Int) : Nat → Int → Prop
  | 0, q => tRun tBl B n 0 q
  | j + 1, r => ∃ q e, tQ B n j q ∧ q < n ∧ tEnd B n q e ∧ tRun tBl B n e r
theorem tQ_u {B : Int → Int} {n : Int} : ∀ (j : Nat) (q r : Int), tQ B n j q → tQ B n j r → q = r
  | 0, q, r, a, b => tRun_u a b
  | j + 1, q, r, ⟨q1, e1, a1, a2, a3, a4⟩, ⟨q2, e2, b1, b2, b3, b4⟩ => by
    have h := tQ_u j q1 q2 a1 b1
    subst h
    have h2 := tEnd_u a3 b3
    subst h2
    exact tRun_u a4 b4
theorem tQ_b {B : Int → Int} {n : Int} : ∀ (j : Nat) (q : Int), tQ B n j q → 0 ≤ q ∧ q ≤ n ∧ (j : Int) ≤ q
  | 0, q, a => ⟨a.1, a.2.1, a.1⟩
  | j + 1, r, ⟨q, e, a1, a2, a3, a4⟩ => by
    have h := tQ_b j q a1
    have h2 := tEnd_b a2 a3
    have h3 := a4.1
    have h4 := a4.2.1
    omega
theorem tQ_x {B B' : Int → Int} {n : Int} (x : ∀ i, 0 ≤ i → i < n → B' i = B i) : ∀ (j : Nat) (q : Int), tQ B n j q → tQ B' n j q
  | 0, q, a => tRun_x (Int.le_refl 0) x a
  | j + 1, r, ⟨q, e, a1, a2, a3, a4⟩ => by
    have h := tQ_b j q a1
    have h2 := tEnd_b a2 a3
    exact ⟨q, e, tQ_x x j q a1, a2, tEnd_x ⟨h.1, a2⟩ x a3, tRun_x (by omega) x a4⟩
/-- words -/
def tEq (B : Int → Int) (q e : Int) (w : List Int) : Prop := e - q = w.length ∧ ∀ i : Nat, i < w.length → B (q + i) = w.getD i 0
theorem tEq_u {B : Int → Int} {q e : Int} {w w' : List Int} (a : tEq B q e w) (b : tEq B q e w') : w = w' := by
  have hl : w.length = w'.length := by have := a.1; have := b.1; omega
  apply List.ext_getElem hl
  intro i h1 h2
  have h3 := a.2 i h1
  have h4 := b.2 i h2
  rw [List.getD_eq_getElem?_getD, List.getElem?_eq_getElem h1] at h3
  rw [List.getD_eq_getElem?_getD, List.getElem?_eq_getElem h2] at h4
  exact h3.symm.trans h4
/-- the class's words: word k of string i stands between tSa and tSb -/
def tSm (i : Nat) (B : Int → Int) (q e k : Int) : Prop := tSb i k - tSa i k = e - q ∧ ∀ t, 0 ≤ t → t < e - q → zbv i (tSa i k + t).toNat = B (q + t)
theorem tB_z : ∀ i, i < 5 → ∀ k, k < zln i → zbv i k = tBv i k := by decide +kernel
theorem tS_n' : ∀ i, i < 5 → ∀ k, k < tNw i → (0 ≤ tSa i (k : Int) ∧ tSa i (k : Int) < tSb i (k : Int) ∧ tSb i (k : Int) < (zln i : Int) ∧ tBv i (tSb i (k : Int)).toNat = 32) := by decide +kernel
theorem tS_n (i : Nat) (hi : i < 5) (k : Nat) (hk : k < tNw i) : (0 ≤ tSa i (k : Int) ∧ tSa i (k : Int) < tSb i (k : Int) ∧ tSb i (k : Int) < (zln i : Int) ∧ zbv i (tSb i (k : Int)).toNat = 32) := by
  have h := tS_n' i hi k hk
  rw [tB_z i hi _ (by omega)]
  exact h
theorem tS_m' : ∀ i, i < 5 → ∀ k, k < tNw i → ∀ d : Nat, d < 9 → (tSa i (k : Int) + (d : Int) < tSb i (k : Int) → ¬ tBv i (tSa i (k : Int) + (d : Int)).toNat = 32) := by decide +kernel
theorem tS_l : ∀ i, i < 5 → ∀ k, k < tNw i → tSb i (k : Int) - tSa i (k : Int) ≤ 8 := by decide +kernel
theorem tS_m (i : Nat) (hi : i < 5) (k : Nat) (hk : k < tNw i) (t : Nat) (ht : t < zln i) (h1 : tSa i (k : Int) ≤ (t : Int)) (h2 : (t : Int) < tSb i (k : Int)) : ¬ zbv i t = 32 := by
  have l := tS_l i hi k hk
  have n := tS_n' i hi k hk
  have m := tS_m' i hi k hk ((t : Int) - tSa i (k : Int)).toNat (by omega)
  rw [show tSa i (k : Int) + ((((t : Int) - tSa i (k : Int)).toNat : Nat) : Int) = (t : Int) by omega, Int.toNat_natCast] at m
  rw [tB_z i hi t ht]
  exact m (by omega)
theorem tS_w' : ∀ i, i < 5 → ∀ k, k < tNw i → ((((tWd.getD ((tMp.getD i []).getD k 0) []).length : Nat) : Int) = tSb i (k : Int) - tSa i (k : Int) ∧ ∀ t : Nat, t < 9 → ((t : Int) < tSb i (k : Int) - tSa i (k : Int) → tBv i (tSa i (k : Int) + (t : Int)).toNat = (tWd.getD ((tMp.getD i []).getD k 0) []).getD t 0)) := by decide +kernel
theorem tS_w (i : Nat) (hi : i < 5) (k : Nat) (hk : k < tNw i) : ((((tWd.getD ((tMp.getD i []).getD k 0) []).length : Nat) : Int) = tSb i (k : Int) - tSa i (k : Int) ∧ ∀ t : Nat, t < 9 → ((t : Int) < tSb i (k : Int) - tSa i (k : Int) → zbv i (tSa i (k : Int) + (t : Int)).toNat = (tWd.getD ((tMp.getD i []).getD k 0) []).getD t 0)) := by
  have h := tS_w' i hi k hk
  have n := tS_n' i hi k hk
  refine ⟨h.1, fun t ht h2 => ?_⟩
  rw [tB_z i hi _ (by omega)]
  exact h.2 t ht h2
theorem tS_e' : ∀ i, i < 5 → tSa i 0 = 0 ∧ (¬ i = 1 → tSa i (tNw i : Int) = (zln i : Int)) ∧ (∀ t : Nat, t < 10 → (i = 1 → ¬ tBv i t = 32)) ∧ tNw i ≤ 17 := by decide +kernel
theorem tS_e (i : Nat) (hi : i < 5) : tSa i 0 = 0 ∧ (¬ i = 1 → tSa i (tNw i : Int) = (zln i : Int)) ∧ (∀ t : Nat, t < zln i → (i = 1 → ¬ zbv i t = 32)) ∧ tNw i ≤ 17 := by
  have h := tS_e' i hi
  refine ⟨h.1, h.2.1, fun t ht h1 => ?_, h.2.2.2⟩
  rw [tB_z i hi t ht]
  exact h.2.2.1 t (by subst h1; exact ht) h1
def tWk (i : Nat) (k : Int) : List Int := tWd.getD ((tMp.getD i []).getD k.toNat 0) []
theorem tSm_e {i : Nat} (hi : i < 5) {B : Int → Int} {q e k : Int} (hk : 0 ≤ k ∧ k < tNw i) (qe : q ≤ e) : tSm i B q e k ↔ tEq B q e (tWk i k) := by
  obtain ⟨k, rfl⟩ : ∃ x : Nat, k = x := ⟨k.toNat, by omega⟩
  have w := tS_w i hi k (by omega)
  have l := tS_l i hi k (by omega)
  have s := tS_n i hi k (by omega)
  unfold tSm tEq tWk
  rw [Int.toNat_natCast]
  constructor
  · intro a
    refine ⟨by omega, fun t ht => ?_⟩
    have h1 := w.2 t (by omega) (by omega)
    have h2 := a.2 t (by omega) (by omega)
    rw [← h2, h1]
  · intro a
    refine ⟨by omega, fun t t0 t1 => ?_⟩
    obtain ⟨t, rfl⟩ : ∃ x : Nat, t = x := ⟨t.toNat, by omega⟩
    have h1 := w.2 t (by omega) (by omega)
    have h2 := a.2 t (by omega)
    rw [h2, h1]
/-- what the class finds at a word; at a number -/
def tWp (i : Nat) (B : Int → Int) (q e v : Int) : Prop := (∃ k : Int, (0 ≤ k ∧ k < tNw i) ∧ v = 200 + k ∧ tSm i B q e k) ∨ (v = 1 ∧ ∀ k : Int, 0 ≤ k → k < tNw i → ¬ tSm i B q e k)
def tvl (B : Int → Int) (q : Int) : Nat → Int
  | 0 => 0
  | k + 1 => tvl B q k * 10 + B (q + k) - 48
theorem tvl_s (B : Int → Int) {q x : Int} (h : q ≤ x) : tvl B q (x + 1 - q).toNat = tvl B q (x - q).toNat * 10 + B x - 48 := by
  rw [show (x + 1 - q).toNat = (x - q).toNat + 1 by omega]
  show tvl B q (x - q).toNat * 10 + B (q + ((x - q).toNat : Int)) - 48 = _
  rw [show q + ((x - q).toNat : Int) = x by omega]
theorem tvl_b {B : Int → Int} {q : Int} : ∀ k : Nat, (∀ i, q ≤ i → i < q + k → tDg (B i)) → 0 ≤ tvl B q k ∧ tvl B q k + 1 ≤ ((10 ^ k : Nat) : Int)
  | 0, _ => by show (0 : Int) ≤ 0 ∧ (0 : Int) + 1 ≤ ((10 ^ 0 : Nat) : Int); decide
  | k + 1, h => by
    have a := tvl_b k (fun i h1 h2 => h i h1 (by omega))
    have b := h (q + k) (by omega) (by omega)
    show 0 ≤ tvl B q k * 10 + B (q + k) - 48 ∧ tvl B q k * 10 + B (q + k) - 48 + 1 ≤ _
    rw [Nat.pow_succ]
    omega
theorem tvl_x {B B' : Int → Int} {q : Int} : ∀ k : Nat, (∀ i, q ≤ i → i < q + k → B' i = B i) → tvl B' q k = tvl B q k
  | 0, _ => rfl
  | k + 1, h => by
    show tvl B' q k * 10 + B' (q + k) - 48 = tvl B q k * 10 + B (q + k) - 48
    rw [tvl_x k (fun i h1 h2 => h i h1 (by omega)), h (q + k) (by omega) (by omega)]
/-- the class's token at a place (string i) -/
def tC (i : Nat) (B : Int → Int) (n q c : Int) : Prop := (q = n ∧ c = 0) ∨ (q < n ∧ ∃ e, tEnd B n q e ∧ (
  (tLt (B q) ∧ tWp i B q e c) ∨ (tDg (B q) ∧ e - q ≤ 4 ∧ c = 1000 + tvl B q (e - q).toNat) ∨ (tDg (B q) ∧ 4 < e - q ∧ c = 1) ∨
  (¬ tLt (B q) ∧ ¬ tDg (B q) ∧ tSg (B q) ∧ c = B q) ∨ (¬ tLt (B q) ∧ ¬ tDg (B q) ∧ ¬ tSg (B q) ∧ c = 1)))
/-- the reference's -/
def tRt (B : Int → Int) (q e t v : Int) : Prop := (tLt (B q) ∧ ((t = 2 ∧ (0 ≤ v ∧ v < 27) ∧ tEq B q e (tWd.getD v.toNat [])) ∨ (t = 1 ∧ ∀ k : Nat, k < 27 → ¬ tEq B q e (tWd.getD k [])))) ∨
  (tDg (B q) ∧ e - q ≤ 4 ∧ t = 3 ∧ v = tvl B q (e - q).toNat) ∨ (tDg (B q) ∧ 4 < e - q ∧ t = 1) ∨
  (¬ tLt (B q) ∧ ¬ tDg (B q) ∧ tSg (B q) ∧ t = 4 ∧ v = B q) ∨ (¬ tLt (B q) ∧ ¬ tDg (B q) ∧ ¬ tSg (B q) ∧ t = 1)
/-- a token of the class and one of the reference: the words of text i -/
def tKw (i : Nat) (v c : Int) : Prop := (c = 1 ∧ ∀ k : Nat, k < tNw i → ¬ (((tMp.getD i []).getD k 0 : Nat) : Int) = v) ∨ (∃ k : Nat, k < tNw i ∧ (((tMp.getD i []).getD k 0 : Nat) : Int) = v ∧ c = 200 + k)
def tTk (i : Nat) (c t v : Int) : Prop := (t = 0 ∧ c = 0) ∨ (t = 3 ∧ (0 ≤ v ∧ v ≤ 9999) ∧ c = 1000 + v) ∨ (t = 4 ∧ tSg v ∧ c = v) ∨ (t = 2 ∧ (0 ≤ v ∧ v < 27) ∧ tKw i v c) ∨ (t = 1 ∧ c = 1)
theorem tW_d : ∀ a, a < 27 → ∀ b, b < 27 → tWd.getD a [] = tWd.getD b [] → a = b := by decide +kernel
theorem tM_b : ∀ i, i < 5 → ∀ k, k < tNw i → (tMp.getD i []).getD k 0 < 27 := by decide +kernel
theorem tC_R {i : Nat} (hi : i < 5) {B : Int → Int} {n q e c t v : Int} (q0 : q < n) (he : tEnd B n q e) (a : tC i B n q c) (b : tRt B q e t v) : tTk i c t v := by
  have hb := tEnd_b q0 he
  rcases a with ⟨a, _⟩ | ⟨_, e', he', a⟩
  · exact absurd a (by omega)
  have ee := tEnd_u he he'
  subst ee
  rcases b with ⟨b0, b⟩ | ⟨b0, b1, b2, b3⟩ | ⟨b0, b1, b2⟩ | ⟨b0, b1, b2, b3, b4⟩ | ⟨b0, b1, b2, b3⟩
  · rcases a with ⟨a0, a⟩ | ⟨a0, _⟩ | ⟨a0, _⟩ | ⟨a0, _⟩ | ⟨a0, _⟩
    · rcases b with ⟨b1, b2, b3⟩ | ⟨b1, b2⟩
      · refine Or.inr (Or.inr (Or.inr (Or.inl ⟨b1, b2, ?_⟩)))
        rcases a with ⟨k, k0, k1, k2⟩ | ⟨a1, a2⟩
        · have k3 := (tSm_e hi k0 (by omega)).mp k2
          have m := tM_b i hi k.toNat (by omega)
          have m2 := tW_d _ m v.toNat (by omega) (tEq_u k3 b3)
          exact Or.inr ⟨k.toNat, by omega, by omega, by omega⟩
        · refine Or.inl ⟨a1, fun k hk z => ?_⟩
          refine a2 k (by omega) (by omega) ((tSm_e hi (by omega) (by omega)).mpr ?_)
          unfold tWk
          rw [Int.toNat_natCast, show (tMp.getD i []).getD k 0 = v.toNat by omega]
          exact b3
      · refine Or.inr (Or.inr (Or.inr (Or.inr ⟨b1, ?_⟩)))
        rcases a with ⟨k, k0, k1, k2⟩ | ⟨a1, a2⟩
        · have k3 := (tSm_e hi k0 (by omega)).mp k2
          exact absurd k3 (b2 _ (tM_b i hi k.toNat (by omega)))
        · exact a1
    · exact absurd b0 (by omega)
    · exact absurd b0 (by omega)
    · exact absurd b0 a0
    · exact absurd b0 a0
  · have tb := tvl_b (B := B) (q := q) (e - q).toNat (fun j h1 h2 => by
      rcases he with ⟨h, _⟩ | ⟨_, h⟩ | ⟨_, h, _⟩
      · exact absurd b0 (by omega)
      · by_cases z : j = q
        · rw [z]; exact b0
        · exact h.2.2.1 j (by omega) (by omega)
      · exact absurd b0 h)
    have p4 : (10 : Nat) ^ (e - q).toNat ≤ 10 ^ 4 := Nat.pow_le_pow_right (by decide) (by omega)
    have p5 : (10 : Nat) ^ 4 = 10000 := by decide
    rcases a with ⟨a0, _⟩ | ⟨_, a1, a2⟩ | ⟨_, a1, _⟩ | ⟨_, a1, _⟩ | ⟨_, a1, _⟩
    · exact absurd b0 (by omega)
    · exact Or.inr (Or.inl ⟨b2, by omega, by omega⟩)
    · exact absurd a1 (by omega)
    · exact absurd b0 a1
    · exact absurd b0 a1
  · rcases a with ⟨a0, _⟩ | ⟨_, a1, a2⟩ | ⟨_, a1, a2⟩ | ⟨_, a1, _⟩ | ⟨_, a1, _⟩
    · exact absurd b0 (by omega)
    · exact absurd a1 (by omega)
    · exact Or.inr (Or.inr (Or.inr (Or.inr ⟨b2, a2⟩)))
    · exact absurd b0 a1
    · exact absurd b0 a1
  · rcases a with ⟨a0, _⟩ | ⟨a0, _⟩ | ⟨a0, _⟩ | ⟨_, _, a1, a2⟩ | ⟨_, _, a1, _⟩
    · exact absurd a0 b0
    · exact absurd a0 b1
    · exact absurd a0 b1
    · exact Or.inr (Or.inr (Or.inl ⟨b3, by rw [b4]; exact b2, by omega⟩))
    · exact absurd b2 a1
  · rcases a with ⟨a0, _⟩ | ⟨a0, _⟩ | ⟨a0, _⟩ | ⟨_, _, a1, a2⟩ | ⟨_, _, a1, a2⟩
    · exact absurd a0 b0
    · exact absurd a0 b1
    · exact absurd a0 b1
    · exact absurd a1 b2
    · exact Or.inr (Or.inr (Or.inr (Or.inr ⟨b3, a2⟩)))
theorem tSm_x {i : Nat} {B B' : Int → Int} {q e k n : Int} (q0 : 0 ≤ q ∧ e ≤ n) (x : ∀ j, 0 ≤ j → j < n → B' j = B j) : tSm i B' q e k ↔ tSm i B q e k := by
  unfold tSm
  constructor
  · intro a
    exact ⟨a.1, fun t h1 h2 => by rw [a.2 t h1 h2, x (q + t) (by omega) (by omega)]⟩
  · intro a
    exact ⟨a.1, fun t h1 h2 => by rw [a.2 t h1 h2, x (q + t) (by omega) (by omega)]⟩
theorem tC_x {i : Nat} {B B' : Int → Int} {n q c : Int} (q0 : 0 ≤ q) (x : ∀ j, 0 ≤ j → j < n → B' j = B j) (a : tC i B n q c) : tC i B' n q c := by
  rcases a with a | ⟨q1, e, he, a⟩
  · exact Or.inl a
  have hb := tEnd_b q1 he
  have xq := x q q0 q1
  refine Or.inr ⟨q1, e, tEnd_x ⟨q0, q1⟩ x he, ?_⟩
  rw [xq]
  rcases a with ⟨a0, a⟩ | ⟨a0, a1, a2⟩ | a | a | a
  · refine Or.inl ⟨a0, ?_⟩
    rcases a with ⟨k, k0, k1, k2⟩ | ⟨a1, a2⟩
    · exact Or.inl ⟨k, k0, k1, (tSm_x ⟨q0, hb.2⟩ x).mpr k2⟩
    · exact Or.inr ⟨a1, fun k k0 k1 z => a2 k k0 k1 ((tSm_x ⟨q0, hb.2⟩ x).mp z)⟩
  · exact Or.inr (Or.inl ⟨a0, a1, by rw [tvl_x (B := B) (B' := B') _ (fun j h1 h2 => x j (by omega) (by omega))]; exact a2⟩)
  · exact Or.inr (Or.inr (Or.inl a))
  · exact Or.inr (Or.inr (Or.inr (Or.inl a)))
  · exact Or.inr (Or.inr (Or.inr (Or.inr a)))

theorem tKw_0 {v c : Int} (h : tKw 0 v c) : (c = 1 ∧ ¬ v = 0 ∧ ¬ v = 1 ∧ ¬ v = 2 ∧ ¬ v = 3 ∧ ¬ v = 4 ∧ ¬ v = 5 ∧ ¬ v = 6 ∧ ¬ v = 7 ∧ ¬ v = 8 ∧ ¬ v = 9 ∧ ¬ v = 10 ∧ ¬ v = 11 ∧ ¬ v = 12 ∧ ¬ v = 13 ∧ ¬ v = 14 ∧ ¬ v = 15 ∧ ¬ v = 16) ∨ (v = 0 ∧ c = 200) ∨ (v = 1 ∧ c = 201) ∨ (v = 2 ∧ c = 202) ∨ (v = 3 ∧ c = 203) ∨ (v = 4 ∧ c = 204) ∨ (v = 5 ∧ c = 205) ∨ (v = 6 ∧ c = 206) ∨ (v = 7 ∧ c = 207) ∨ (v = 8 ∧ c = 208) ∨ (v = 9 ∧ c = 209) ∨ (v = 10 ∧ c = 210) ∨ (v = 11 ∧ c = 211) ∨ (v = 12 ∧ c = 212) ∨ (v = 13 ∧ c = 213) ∨ (v = 14 ∧ c = 214) ∨ (v = 15 ∧ c = 215) ∨ (v = 16 ∧ c = 216) := by
  rcases h with ⟨h1, h2⟩ | ⟨k, k1, k2, k3⟩
  · have z0 : ¬ (((0 : Nat)) : Int) = v := h2 0 (by decide)
    have z1 : ¬ (((1 : Nat)) : Int) = v := h2 1 (by decide)
    have z2 : ¬ (((2 : Nat)) : Int) = v := h2 2 (by decide)
    have z3 : ¬ (((3 : Nat)) : Int) = v := h2 3 (by decide)
    have z4 : ¬ (((4 : Nat)) : Int) = v := h2 4 (by decide)
    have z5 : ¬ (((5 : Nat)) : Int) = v := h2 5 (by decide)
    have z6 : ¬ (((6 : Nat)) : Int) = v := h2 6 (by decide)
    have z7 : ¬ (((7 : Nat)) : Int) = v := h2 7 (by decide)
    have z8 : ¬ (((8 : Nat)) : Int) = v := h2 8 (by decide)
    have z9 : ¬ (((9 : Nat)) : Int) = v := h2 9 (by decide)
    have z10 : ¬ (((10 : Nat)) : Int) = v := h2 10 (by decide)
    have z11 : ¬ (((11 : Nat)) : Int) = v := h2 11 (by decide)
    have z12 : ¬ (((12 : Nat)) : Int) = v := h2 12 (by decide)
    have z13 : ¬ (((13 : Nat)) : Int) = v := h2 13 (by decide)
    have z14 : ¬ (((14 : Nat)) : Int) = v := h2 14 (by decide)
    have z15 : ¬ (((15 : Nat)) : Int) = v := h2 15 (by decide)
    have z16 : ¬ (((16 : Nat)) : Int) = v := h2 16 (by decide)
    exact Or.inl ⟨h1, by omega, by omega, by omega, by omega, by omega, by omega, by omega, by omega, by omega, by omega, by omega, by omega, by omega, by omega, by omega, by omega, by omega⟩
  · have hk : k < 17 := k1
    have : k = 0 ∨ k = 1 ∨ k = 2 ∨ k = 3 ∨ k = 4 ∨ k = 5 ∨ k = 6 ∨ k = 7 ∨ k = 8 ∨ k = 9 ∨ k = 10 ∨ k = 11 ∨ k = 12 ∨ k = 13 ∨ k = 14 ∨ k = 15 ∨ k = 16 := by omega
    rcases this with rfl | rfl | rfl | rfl | rfl | rfl | rfl | rfl | rfl | rfl | rfl | rfl | rfl | rfl | rfl | rfl | rfl
    · have y : (((0 : Nat)) : Int) = v := k2
      exact (Or.inr (Or.inl ⟨by omega, by omega⟩))
    · have y : (((1 : Nat)) : Int) = v := k2
      exact (Or.inr (Or.inr (Or.inl ⟨by omega, by omega⟩)))
    · have y : (((2 : Nat)) : Int) = v := k2
      exact (Or.inr (Or.inr (Or.inr (Or.inl ⟨by omega, by omega⟩))))
    · have y : (((3 : Nat)) : Int) = v := k2
      exact (Or.inr (Or.inr (Or.inr (Or.inr (Or.inl ⟨by omega, by omega⟩)))))
    · have y : (((4 : Nat)) : Int) = v := k2
      exact (Or.inr (Or.inr (Or.inr (Or.inr (Or.inr (Or.inl ⟨by omega, by omega⟩))))))
    · have y : (((5 : Nat)) : Int) = v := k2
      exact (Or.inr (Or.inr (Or.inr (Or.inr (Or.inr (Or.inr (Or.inl ⟨by omega, by omega⟩)))))))
    · have y : (((6 : Nat)) : Int) = v := k2
      exact (Or.inr (Or.inr (Or.inr (Or.inr (Or.inr (Or.inr (Or.inr (Or.inl ⟨by omega, by omega⟩))))))))
    · have y : (((7 : Nat)) : Int) = v := k2
      exact (Or.inr (Or.inr (Or.inr (Or.inr (Or.inr (Or.inr (Or.inr (Or.inr (Or.inl ⟨by omega, by omega⟩)))))))))
    · have y : (((8 : Nat)) : Int) = v := k2
      exact (Or.inr (Or.inr (Or.inr (Or.inr (Or.inr (Or.inr (Or.inr (Or.inr (Or.inr (Or.inl ⟨by omega, by omega⟩))))))))))
    · have y : (((9 : Nat)) : Int) = v := k2
      exact (Or.inr (Or.inr (Or.inr (Or.inr (Or.inr (Or.inr (Or.inr (Or.inr (Or.inr (Or.inr (Or.inl ⟨by omega, by omega⟩)))))))))))
    · have y : (((10 : Nat)) : Int) = v := k2
      exact (Or.inr (Or.inr (Or.inr (Or.inr (Or.inr (Or.inr (Or.inr (Or.inr (Or.inr (Or.inr (Or.inr (Or.inl ⟨by omega, by omega⟩))))))))))))
    · have y : (((11 : Nat)) : Int) = v := k2
      exact (Or.inr (Or.inr (Or.inr (Or.inr (Or.inr (Or.inr (Or.inr (Or.inr (Or.inr (Or.inr (Or.inr (Or.inr (Or.inl ⟨by omega, by omega⟩)))))))))))))
    · have y : (((12 : Nat)) : Int) = v := k2
      exact (Or.inr (Or.inr (Or.inr (Or.inr (Or.inr (Or.inr (Or.inr (Or.inr (Or.inr (Or.inr (Or.inr (Or.inr (Or.inr (Or.inl ⟨by omega, by omega⟩))))))))))))))
    · have y : (((13 : Nat)) : Int) = v := k2
      exact (Or.inr (Or.inr (Or.inr (Or.inr (Or.inr (Or.inr (Or.inr (Or.inr (Or.inr (Or.inr (Or.inr (Or.inr (Or.inr (Or.inr (Or.inl ⟨by omega, by omega⟩)))))))))))))))
    · have y : (((14 : Nat)) : Int) = v := k2
      exact (Or.inr (Or.inr (Or.inr (Or.inr (Or.inr (Or.inr (Or.inr (Or.inr (Or.inr (Or.inr (Or.inr (Or.inr (Or.inr (Or.inr (Or.inr (Or.inl ⟨by omega, by omega⟩))))))))))))))))
    · have y : (((15 : Nat)) : Int) = v := k2
      exact (Or.inr (Or.inr (Or.inr (Or.inr (Or.inr (Or.inr (Or.inr (Or.inr (Or.inr (Or.inr (Or.inr (Or.inr (Or.inr (Or.inr (Or.inr (Or.inr (Or.inl ⟨by omega, by omega⟩)))))))))))))))))
    · have y : (((16 : Nat)) : Int) = v := k2
      exact (Or.inr (Or.inr (Or.inr (Or.inr (Or.inr (Or.inr (Or.inr (Or.inr (Or.inr (Or.inr (Or.inr (Or.inr (Or.inr (Or.inr (Or.inr (Or.inr (Or.inr ⟨by omega, by omega⟩)))))))))))))))))
theorem tKw_2 {v c : Int} (h : tKw 2 v c) : (c = 1 ∧ ¬ v = 17 ∧ ¬ v = 18 ∧ ¬ v = 19 ∧ ¬ v = 20) ∨ (v = 17 ∧ c = 200) ∨ (v = 18 ∧ c = 201) ∨ (v = 19 ∧ c = 202) ∨ (v = 20 ∧ c = 203) := by
  rcases h with ⟨h1, h2⟩ | ⟨k, k1, k2, k3⟩
  · have z0 : ¬ (((17 : Nat)) : Int) = v := h2 0 (by decide)
    have z1 : ¬ (((18 : Nat)) : Int) = v := h2 1 (by decide)
    have z2 : ¬ (((19 : Nat)) : Int) = v := h2 2 (by decide)
    have z3 : ¬ (((20 : Nat)) : Int) = v := h2 3 (by decide)
    exact Or.inl ⟨h1, by omega, by omega, by omega, by omega⟩
  · have hk : k < 4 := k1
    have : k = 0 ∨ k = 1 ∨ k = 2 ∨ k = 3 := by omega
    rcases this with rfl | rfl | rfl | rfl
    · have y : (((17 : Nat)) : Int) = v := k2
      exact (Or.inr (Or.inl ⟨by omega, by omega⟩))
    · have y : (((18 : Nat)) : Int) = v := k2
      exact (Or.inr (Or.inr (Or.inl ⟨by omega, by omega⟩)))
    · have y : (((19 : Nat)) : Int) = v := k2
      exact (Or.inr (Or.inr (Or.inr (Or.inl ⟨by omega, by omega⟩))))
    · have y : (((20 : Nat)) : Int) = v := k2
      exact (Or.inr (Or.inr (Or.inr (Or.inr ⟨by omega, by omega⟩))))
theorem tKw_3 {v c : Int} (h : tKw 3 v c) : (c = 1 ∧ ¬ v = 17 ∧ ¬ v = 21 ∧ ¬ v = 23 ∧ ¬ v = 14 ∧ ¬ v = 24 ∧ ¬ v = 25 ∧ ¬ v = 26) ∨ (v = 17 ∧ c = 200) ∨ (v = 21 ∧ c = 201) ∨ (v = 23 ∧ c = 202) ∨ (v = 14 ∧ c = 203) ∨ (v = 24 ∧ c = 204) ∨ (v = 25 ∧ c = 205) ∨ (v = 26 ∧ c = 206) := by
  rcases h with ⟨h1, h2⟩ | ⟨k, k1, k2, k3⟩
  · have z0 : ¬ (((17 : Nat)) : Int) = v := h2 0 (by decide)
    have z1 : ¬ (((21 : Nat)) : Int) = v := h2 1 (by decide)
    have z2 : ¬ (((23 : Nat)) : Int) = v := h2 2 (by decide)
    have z3 : ¬ (((14 : Nat)) : Int) = v := h2 3 (by decide)
    have z4 : ¬ (((24 : Nat)) : Int) = v := h2 4 (by decide)
    have z5 : ¬ (((25 : Nat)) : Int) = v := h2 5 (by decide)
    have z6 : ¬ (((26 : Nat)) : Int) = v := h2 6 (by decide)
    exact Or.inl ⟨h1, by omega, by omega, by omega, by omega, by omega, by omega, by omega⟩
  · have hk : k < 7 := k1
    have : k = 0 ∨ k = 1 ∨ k = 2 ∨ k = 3 ∨ k = 4 ∨ k = 5 ∨ k = 6 := by omega
    rcases this with rfl | rfl | rfl | rfl | rfl | rfl | rfl
    · have y : (((17 : Nat)) : Int) = v := k2
      exact (Or.inr (Or.inl ⟨by omega, by omega⟩))
    · have y : (((21 : Nat)) : Int) = v := k2
      exact (Or.inr (Or.inr (Or.inl ⟨by omega, by omega⟩)))
    · have y : (((23 : Nat)) : Int) = v := k2
      exact (Or.inr (Or.inr (Or.inr (Or.inl ⟨by omega, by omega⟩))))
    · have y : (((14 : Nat)) : Int) = v := k2
      exact (Or.inr (Or.inr (Or.inr (Or.inr (Or.inl ⟨by omega, by omega⟩)))))
    · have y : (((24 : Nat)) : Int) = v := k2
      exact (Or.inr (Or.inr (Or.inr (Or.inr (Or.inr (Or.inl ⟨by omega, by omega⟩))))))
    · have y : (((25 : Nat)) : Int) = v := k2
      exact (Or.inr (Or.inr (Or.inr (Or.inr (Or.inr (Or.inr (Or.inl ⟨by omega, by omega⟩)))))))
    · have y : (((26 : Nat)) : Int) = v := k2
      exact (Or.inr (Or.inr (Or.inr (Or.inr (Or.inr (Or.inr (Or.inr ⟨by omega, by omega⟩)))))))
theorem tKw_4 {v c : Int} (h : tKw 4 v c) : (c = 1 ∧ ¬ v = 22 ∧ ¬ v = 15) ∨ (v = 22 ∧ c = 200) ∨ (v = 15 ∧ c = 201) := by
  rcases h with ⟨h1, h2⟩ | ⟨k, k1, k2, k3⟩
  · have z0 : ¬ (((22 : Nat)) : Int) = v := h2 0 (by decide)
    have z1 : ¬ (((15 : Nat)) : Int) = v := h2 1 (by decide)
    exact Or.inl ⟨h1, by omega, by omega⟩
  · have hk : k < 2 := k1
    have : k = 0 ∨ k = 1 := by omega
    rcases this with rfl | rfl
    · have y : (((22 : Nat)) : Int) = v := k2
      exact (Or.inr (Or.inl ⟨by omega, by omega⟩))
    · have y : (((15 : Nat)) : Int) = v := k2
      exact (Or.inr (Or.inr ⟨by omega, by omega⟩))
/-! ===== texts: the machine that both readers follow ===== -/
/-- mode, token, what waits, stack, code, what was told -/
abbrev tS : Type := Int × Int × Int × List Int × List Int × List Int
def tEr (j f : Int) : tS := (0, j, f, [], [], [])
/-- an operand: its code, or -fault -/
def tOp (dv c : Int) : Int := if 1000 ≤ c then (if ¬ dv = 0 ∧ c = 1000 then -2 else c - 1000) else if dv = 0 ∧ 207 ≤ c ∧ c ≤ 216 then 10000 + (c - 200) else -1
/-- a number between two: itself, or -fault -/
def tNm (lo hi c : Int) : Int := if c < 1000 then -1 else if lo ≤ c - 1000 ∧ c - 1000 ≤ hi then c - 1000 else -2
/-- what waits is put out -/
def tWt (w : Int) (c : List Int) : List Int := if w = 0 then c else (20000 + w) :: c
def tOpn : List Int → Int
  | [] => 0
  | x :: s => tOpn s + (if x = 9 ∨ x = 12 then 1 else 0)
def tHd (s : List Int) : Int := s.headD 0
def tStp (T : Int → Int) (p : Int) (x : tS) : tS :=
  let m := x.1; let j := x.2.1; let w := x.2.2.1; let s := x.2.2.2.1; let c := x.2.2.2.2.1; let d := x.2.2.2.2.2
  if m = 2 then
    if T j = 0 then (1, j, w, [], c, d)
    else if 200 ≤ T j ∧ T j ≤ 202 then (if w < 16 then (3, j + 1, 0, [100, w + 1000], c, (c.length : Int) :: (T j - 200) :: d) else tEr j 3)
    else tEr j 1
  else if m = 3 then (if 0 ≤ tOp 0 (T j) then (4, j + 1, w, s, (tOp 0 (T j)) :: c, d) else tEr j (-(tOp 0 (T j))))
  else if m = 4 then
    if T j = 42 ∨ T j = 47 then
      (if 0 ≤ tOp (T j - 42) (T (j + 1)) then (4, j + 2, w, s, (20000 + T j) :: (tOp (T j - 42) (T (j + 1))) :: c, d) else tEr (j + 1) (-(tOp (T j - 42) (T (j + 1)))))
    else if T j = 43 ∨ T j = 45 then (3, j + 1, T j, s, tWt w c, d)
    else (5, j, 0, s, tWt w c, d)
  else if m = 5 then
    if tHd s = 100 then (if T j = 203 then (8, j + 1, 0, 90 :: s.tail, c, (c.length : Int) :: d) else (10, j, tHd s.tail - 1000, [], c, (c.length : Int) :: d))
    else if tHd s = 101 then (if T j = 60 ∨ T j = 61 ∨ T j = 62 then (3, j + 1, 0, T j :: s.tail, c, d) else tEr j 1)
    else (9, j, 0, s.tail, (20000 + tHd s) :: c, d)
  else if m = 8 then
    if T j = 206 ∨ T j = 40 then (if tOpn s < 8 then (8, j + 1, 0, (if T j = 206 then 9 else 12) :: s, c, d) else tEr j 3)
    else (3, j, 0, 101 :: s, c, d)
  else if m = 9 then
    if tHd s = 9 then (9, j, 0, s.tail, 20006 :: c, d)
    else if tHd s = 10 then (11, j, 0, s.tail, 20005 :: c, d)
    else (11, j, 0, s, c, d)
  else if m = 11 then
    if T j = 205 then (8, j + 1, 0, 10 :: s, c, d)
    else if T j = 204 then (if tHd s = 11 then (8, j + 1, 0, s, 20004 :: c, d) else (8, j + 1, 0, 11 :: s, c, d))
    else (if tHd s = 11 then (12, j, 0, s.tail, 20004 :: c, d) else (12, j, 0, s, c, d))
  else if m = 12 then
    if tHd s = 90 then (10, j, tHd s.tail - 1000, [], c, d)
    else (if T j = 41 then (9, j + 1, 0, s.tail, c, d) else tEr j 1)
  else if m = 10 then (if T j = 59 then (2, j + 1, w + 1, [], c, (c.length : Int) :: d) else tEr j 1)
  else if m = 20 ∨ m = 30 ∨ m = 40 then
    if T j = 0 then (1, j, w, [], c, d)
    else if T j = 200 then (if w < 16 then (m + 1, j + 1, w, [], c, d) else tEr j 3)
    else tEr j 1
  else if m = 21 ∨ m = 31 then (if 0 ≤ tNm 0 999 (T j) then (m + 1, j + 1, w, [], c, (tNm 0 999 (T j)) :: d) else tEr j (-(tNm 0 999 (T j))))
  else if m = 22 then (if T j = 201 then (23, j + 1, w, [], c, d) else tEr j 1)
  else if m = 23 then (if 0 ≤ tNm 1 18 (T j) then (24, j + 1, w, [], c, (tNm 1 18 (T j)) :: d) else tEr j (-(tNm 1 18 (T j))))
  else if m = 24 then (if T j = 202 ∨ T j = 203 then (25, j + 1, w, [], c, (T j - 200) :: d) else tEr j 1)
  else if m = 32 then
    if 201 ≤ T j ∧ T j ≤ 206 then (if T j = 203 ∨ T j = 204 then (34, j + 1, w, [], c, 0 :: (T j - 200) :: d) else (33, j + 1, w, [T j - 200], c, (T j - 200) :: d))
    else tEr j 1
  else if m = 33 then
    (if 0 ≤ tNm (if 5 ≤ tHd s then 1 else 0) (if tHd s = 5 then 99 else if tHd s = 6 then 719 else p - 1) (T j) then (34, j + 1, w, [], c, (tNm (if 5 ≤ tHd s then 1 else 0) (if tHd s = 5 then 99 else if tHd s = 6 then 719 else p - 1) (T j)) :: d) else tEr j (-(tNm (if 5 ≤ tHd s then 1 else 0) (if tHd s = 5 then 99 else if tHd s = 6 then 719 else p - 1) (T j))))
  else if m = 41 then (if 0 ≤ tNm 0 (p - 1) (T j) then (42, j + 1, w, [tNm 0 (p - 1) (T j)], c, d) else tEr j (-(tNm 0 (p - 1) (T j))))
  else if m = 42 then (if T j = 201 then (43, j + 1, w, s, c, d) else tEr j 1)
  else if m = 43 then
    (if T j = 1000 + tHd s then tEr j 2 else if 0 ≤ tNm 0 (p - 1) (T j) then (44, j + 1, w, [], c, (tNm 0 (p - 1) (T j)) :: (tHd s) :: d) else tEr j (-(tNm 0 (p - 1) (T j))))
  else if m = 25 ∨ m = 34 ∨ m = 44 then (if T j = 59 then (m / 10 * 10, j + 1, w + 1, [], c, d) else tEr j 1)
  else x
def tIt (T : Int → Int) (p : Int) : Nat → tS → tS
  | 0, x => x
  | n + 1, x => tIt T p n (tStp T p x)
def tRe (T : Int → Int) (p : Int) (x y : tS) : Prop := ∃ n, tIt T p n x = y
section TM
variable {T : Int → Int} {p : Int} {x y z : tS}
theorem tRe_r : tRe T p x x := ⟨0, rfl⟩
theorem tIt_a : ∀ (n m : Nat) (x : tS), tIt T p (n + m) x = tIt T p m (tIt T p n x)
  | 0, m, x => by rw [Nat.zero_add]; rfl
  | n + 1, m, x => by rw [show n + 1 + m = (n + m) + 1 by omega]; exact tIt_a n m (tStp T p x)
theorem tRe_t (a : tRe T p x y) (b : tRe T p y z) : tRe T p x z := by
  obtain ⟨n, a⟩ := a
  obtain ⟨m, b⟩ := b
  exact ⟨n + m, by rw [tIt_a, a, b]⟩
theorem tRe_1 (a : tStp T p x = y) : tRe T p x y := ⟨1, a⟩
theorem tRe_s (a : tRe T p x y) (b : tStp T p y = z) : tRe T p x z := tRe_t a (tRe_1 b)
theorem tIt_f (a : tStp T p x = x) : ∀ n, tIt T p n x = x
  | 0 => rfl
  | n + 1 => by show tIt T p n (tStp T p x) = x; rw [a]; exact tIt_f a n
theorem tRe_d (a : tRe T p x y) (b : tRe T p x z) (hy : tStp T p y = y) (hz : tStp T p z = z) : y = z := by
  obtain ⟨n, a⟩ := a
  obtain ⟨m, b⟩ := b
  rcases Nat.le_total n m with h | h
  · obtain ⟨k, rfl⟩ : ∃ k, m = n + k := ⟨m - n, by omega⟩
    rw [tIt_a, a, tIt_f hy] at b
    exact b
  · obtain ⟨k, rfl⟩ : ∃ k, n = m + k := ⟨n - m, by omega⟩
    rw [tIt_a, b, tIt_f hz] at a
    exact a.symm
theorem tEr_f (j f : Int) : tStp T p (tEr j f) = tEr j f := by simp [tStp, tEr]
theorem tOk_f (j w : Int) (s c d : List Int) : tStp T p (1, j, w, s, c, d) = (1, j, w, s, c, d) := by simp [tStp]
variable {j w f : Int} {s c d : List Int}
theorem tM2_e (h : T j = 0) : tStp T p (2, j, w, s, c, d) = (1, j, w, [], c, d) := by simp [tStp, h]
theorem tM2_l (h : 200 ≤ T j ∧ T j ≤ 202) (hw : w < 16) : tStp T p (2, j, w, s, c, d) = (3, j + 1, 0, [100, w + 1000], c, (c.length : Int) :: (T j - 200) :: d) := by
  have h0 : ¬ T j = 0 := by omega
  simp [tStp, h0, h, hw]
theorem tM2_3 (h : 200 ≤ T j ∧ T j ≤ 202) (hw : ¬ w < 16) : tStp T p (2, j, w, s, c, d) = tEr j 3 := by
  have h0 : ¬ T j = 0 := by omega
  simp [tStp, h0, h, hw]
theorem tM2_1 (h0 : ¬ T j = 0) (h : ¬ (200 ≤ T j ∧ T j ≤ 202)) : tStp T p (2, j, w, s, c, d) = tEr j 1 := by
  simp [tStp, h0, h]
theorem tM3_y {o : Int} (e : tOp 0 (T j) = o) (h : 0 ≤ o) : tStp T p (3, j, w, s, c, d) = (4, j + 1, w, s, o :: c, d) := by
  subst e; simp [tStp, h]
theorem tM3_n {o f : Int} (e : tOp 0 (T j) = o) (h : ¬ 0 ≤ o) (hf : f = -o) : tStp T p (3, j, w, s, c, d) = tEr j f := by
  subst e; subst hf; simp [tStp, h]
theorem tM4_y {o : Int} (h1 : T j = 42 ∨ T j = 47) (e : tOp (T j - 42) (T (j + 1)) = o) (h : 0 ≤ o) : tStp T p (4, j, w, s, c, d) = (4, j + 2, w, s, (20000 + T j) :: o :: c, d) := by
  subst e; simp [tStp, h, h1]
theorem tM4_n {o f : Int} (h1 : T j = 42 ∨ T j = 47) (e : tOp (T j - 42) (T (j + 1)) = o) (h : ¬ 0 ≤ o) (hf : f = -o) : tStp T p (4, j, w, s, c, d) = tEr (j + 1) f := by
  subst e; subst hf; simp [tStp, h, h1]
theorem tM4_s (h1 : T j = 43 ∨ T j = 45) : tStp T p (4, j, w, s, c, d) = (3, j + 1, T j, s, tWt w c, d) := by
  have h2 : ¬ (T j = 42 ∨ T j = 47) := by omega
  simp [tStp, h1, h2]
theorem tM4_e (h1 : ¬ (T j = 42 ∨ T j = 47)) (h2 : ¬ (T j = 43 ∨ T j = 45)) : tStp T p (4, j, w, s, c, d) = (5, j, 0, s, tWt w c, d) := by
  simp [tStp, h1, h2]
theorem tM5_w {n : Int} (h : T j = 203) : tStp T p (5, j, w, [100, n], c, d) = (8, j + 1, 0, [90, n], c, (c.length : Int) :: d) := by simp [tStp, tHd, h]
theorem tM5_v {n : Int} (h : ¬ T j = 203) : tStp T p (5, j, w, [100, n], c, d) = (10, j, n - 1000, [], c, (c.length : Int) :: d) := by simp [tStp, tHd, h]
theorem tM5_c (h : T j = 60 ∨ T j = 61 ∨ T j = 62) : tStp T p (5, j, w, 101 :: s, c, d) = (3, j + 1, 0, T j :: s, c, d) := by simp [tStp, tHd, h]
theorem tM5_n (h : ¬ (T j = 60 ∨ T j = 61 ∨ T j = 62)) : tStp T p (5, j, w, 101 :: s, c, d) = tEr j 1 := by simp [tStp, tHd, h]
theorem tM5_r {g : Int} (h : g = 60 ∨ g = 61 ∨ g = 62) : tStp T p (5, j, w, g :: s, c, d) = (9, j, 0, s, (20000 + g) :: c, d) := by
  have h1 : ¬ g = 100 := by omega
  have h2 : ¬ g = 101 := by omega
  simp [tStp, tHd, h1, h2]
theorem tM8_n (h : T j = 206) (o : tOpn s < 8) : tStp T p (8, j, w, s, c, d) = (8, j + 1, 0, 9 :: s, c, d) := by simp [tStp, h, o]
theorem tM8_b (h : T j = 40) (o : tOpn s < 8) : tStp T p (8, j, w, s, c, d) = (8, j + 1, 0, 12 :: s, c, d) := by simp [tStp, h, o]
theorem tM8_3 (h : T j = 206 ∨ T j = 40) (o : ¬ tOpn s < 8) : tStp T p (8, j, w, s, c, d) = tEr j 3 := by simp [tStp, h, o]
theorem tM8_s (h : ¬ (T j = 206 ∨ T j = 40)) : tStp T p (8, j, w, s, c, d) = (3, j, 0, 101 :: s, c, d) := by simp [tStp, h]
theorem tM9_n : tStp T p (9, j, w, 9 :: s, c, d) = (9, j, 0, s, 20006 :: c, d) := by simp [tStp, tHd]
theorem tM9_a : tStp T p (9, j, w, 10 :: s, c, d) = (11, j, 0, s, 20005 :: c, d) := by simp [tStp, tHd]
theorem tM9_e (h : ¬ tHd s = 9) (h2 : ¬ tHd s = 10) : tStp T p (9, j, w, s, c, d) = (11, j, 0, s, c, d) := by simp [tStp, h, h2]
theorem tM11_a (h : T j = 205) : tStp T p (11, j, w, s, c, d) = (8, j + 1, 0, 10 :: s, c, d) := by simp [tStp, h]
theorem tM11_o (h : T j = 204) : tStp T p (11, j, w, 11 :: s, c, d) = (8, j + 1, 0, 11 :: s, 20004 :: c, d) := by simp [tStp, tHd, h]
theorem tM11_f (h : T j = 204) (t : ¬ tHd s = 11) : tStp T p (11, j, w, s, c, d) = (8, j + 1, 0, 11 :: s, c, d) := by simp [tStp, h, t]
theorem tM11_p (h : ¬ T j = 205) (h2 : ¬ T j = 204) : tStp T p (11, j, w, 11 :: s, c, d) = (12, j, 0, s, 20004 :: c, d) := by simp [tStp, tHd, h, h2]
theorem tM11_e (h : ¬ T j = 205) (h2 : ¬ T j = 204) (t : ¬ tHd s = 11) : tStp T p (11, j, w, s, c, d) = (12, j, 0, s, c, d) := by simp [tStp, h, h2, t]
theorem tM12_z {n : Int} : tStp T p (12, j, w, [90, n], c, d) = (10, j, n - 1000, [], c, d) := by simp [tStp, tHd]
theorem tM12_y (h : T j = 41) : tStp T p (12, j, w, 12 :: s, c, d) = (9, j + 1, 0, s, c, d) := by simp [tStp, tHd, h]
theorem tM12_n (h : ¬ T j = 41) : tStp T p (12, j, w, 12 :: s, c, d) = tEr j 1 := by simp [tStp, tHd, h]
theorem tM10_y (h : T j = 59) : tStp T p (10, j, w, s, c, d) = (2, j + 1, w + 1, [], c, (c.length : Int) :: d) := by simp [tStp, h]
theorem tM10_n (h : ¬ T j = 59) : tStp T p (10, j, w, s, c, d) = tEr j 1 := by simp [tStp, h]
/-- lines of the other texts -/
theorem tMl_e {m : Int} (hm : m = 20 ∨ m = 30 ∨ m = 40) (h : T j = 0) : tStp T p (m, j, w, s, c, d) = (1, j, w, [], c, d) := by rcases hm with rfl | rfl | rfl <;> simp [tStp, h]
theorem tMl_l {m : Int} (hm : m = 20 ∨ m = 30 ∨ m = 40) (h : T j = 200) (hw : w < 16) : tStp T p (m, j, w, s, c, d) = (m + 1, j + 1, w, [], c, d) := by rcases hm with rfl | rfl | rfl <;> simp [tStp, h, hw]
theorem tMl_3 {m : Int} (hm : m = 20 ∨ m = 30 ∨ m = 40) (h : T j = 200) (hw : ¬ w < 16) : tStp T p (m, j, w, s, c, d) = tEr j 3 := by rcases hm with rfl | rfl | rfl <;> simp [tStp, h, hw]
theorem tMl_1 {m : Int} (hm : m = 20 ∨ m = 30 ∨ m = 40) (h : ¬ T j = 0) (h2 : ¬ T j = 200) : tStp T p (m, j, w, s, c, d) = tEr j 1 := by rcases hm with rfl | rfl | rfl <;> simp [tStp, h, h2]
theorem tMd_y {m o : Int} (hm : m = 21 ∨ m = 31) (e : tNm 0 999 (T j) = o) (h : 0 ≤ o) : tStp T p (m, j, w, s, c, d) = (m + 1, j + 1, w, [], c, o :: d) := by subst e; rcases hm with rfl | rfl <;> simp [tStp, h]
theorem tMd_n {m o f : Int} (hm : m = 21 ∨ m = 31) (e : tNm 0 999 (T j) = o) (h : ¬ 0 ≤ o) (hf : f = -o) : tStp T p (m, j, w, s, c, d) = tEr j f := by subst e; subst hf; rcases hm with rfl | rfl <;> simp [tStp, h]
theorem tM22_y (h : T j = 201) : tStp T p (22, j, w, s, c, d) = (23, j + 1, w, [], c, d) := by simp [tStp, h]
theorem tM22_n (h : ¬ T j = 201) : tStp T p (22, j, w, s, c, d) = tEr j 1 := by simp [tStp, h]
theorem tM23_y {o : Int} (e : tNm 1 18 (T j) = o) (h : 0 ≤ o) : tStp T p (23, j, w, s, c, d) = (24, j + 1, w, [], c, o :: d) := by subst e; simp [tStp, h]
theorem tM23_n {o f : Int} (e : tNm 1 18 (T j) = o) (h : ¬ 0 ≤ o) (hf : f = -o) : tStp T p (23, j, w, s, c, d) = tEr j f := by subst e; subst hf; simp [tStp, h]
theorem tM24_y (h : T j = 202 ∨ T j = 203) : tStp T p (24, j, w, s, c, d) = (25, j + 1, w, [], c, (T j - 200) :: d) := by simp [tStp, h]
theorem tM24_n (h : ¬ (T j = 202 ∨ T j = 203)) : tStp T p (24, j, w, s, c, d) = tEr j 1 := by simp [tStp, h]
theorem tMs_y {m m' : Int} (hm : (m = 25 ∧ m' = 20) ∨ (m = 34 ∧ m' = 30) ∨ (m = 44 ∧ m' = 40)) (h : T j = 59) : tStp T p (m, j, w, s, c, d) = (m', j + 1, w + 1, [], c, d) := by rcases hm with ⟨rfl, rfl⟩ | ⟨rfl, rfl⟩ | ⟨rfl, rfl⟩ <;> simp [tStp, h]
theorem tMs_n {m : Int} (hm : m = 25 ∨ m = 34 ∨ m = 44) (h : ¬ T j = 59) : tStp T p (m, j, w, s, c, d) = tEr j 1 := by rcases hm with rfl | rfl | rfl <;> simp [tStp, h]
theorem tM32_s (h : T j = 203 ∨ T j = 204) : tStp T p (32, j, w, s, c, d) = (34, j + 1, w, [], c, 0 :: (T j - 200) :: d) := by
  have h1 : 201 ≤ T j ∧ T j ≤ 206 := by omega
  simp [tStp, h, h1]
theorem tM32_y (h1 : 201 ≤ T j ∧ T j ≤ 206) (h : ¬ (T j = 203 ∨ T j = 204)) : tStp T p (32, j, w, s, c, d) = (33, j + 1, w, [T j - 200], c, (T j - 200) :: d) := by simp [tStp, h, h1]
theorem tM32_n (h1 : ¬ (201 ≤ T j ∧ T j ≤ 206)) : tStp T p (32, j, w, s, c, d) = tEr j 1 := by simp [tStp, h1]
theorem tM33_y {o k lo hi : Int} (hl : lo = if 5 ≤ k then 1 else 0) (hh : hi = if k = 5 then 99 else if k = 6 then 719 else p - 1) (e : tNm lo hi (T j) = o) (h : 0 ≤ o) : tStp T p (33, j, w, [k], c, d) = (34, j + 1, w, [], c, o :: d) := by subst e; subst hl; subst hh; simp [tStp, tHd, h]
theorem tM33_n {o k lo hi f : Int} (hl : lo = if 5 ≤ k then 1 else 0) (hh : hi = if k = 5 then 99 else if k = 6 then 719 else p - 1) (e : tNm lo hi (T j) = o) (h : ¬ 0 ≤ o) (hf : f = -o) : tStp T p (33, j, w, [k], c, d) = tEr j f := by subst e; subst hl; subst hh; subst hf; simp [tStp, tHd, h]
theorem tM41_y {o : Int} (e : tNm 0 (p - 1) (T j) = o) (h : 0 ≤ o) : tStp T p (41, j, w, s, c, d) = (42, j + 1, w, [o], c, d) := by subst e; simp [tStp, h]
theorem tM41_n {o f : Int} (e : tNm 0 (p - 1) (T j) = o) (h : ¬ 0 ≤ o) (hf : f = -o) : tStp T p (41, j, w, s, c, d) = tEr j f := by subst e; subst hf; simp [tStp, h]
theorem tM42_y (h : T j = 201) : tStp T p (42, j, w, s, c, d) = (43, j + 1, w, s, c, d) := by simp [tStp, h]
theorem tM42_n (h : ¬ T j = 201) : tStp T p (42, j, w, s, c, d) = tEr j 1 := by simp [tStp, h]
theorem tM43_2 {a : Int} (h : T j = 1000 + a) : tStp T p (43, j, w, [a], c, d) = tEr j 2 := by simp [tStp, tHd, h]
theorem tM43_y {a o : Int} (h0 : ¬ T j = 1000 + a) (e : tNm 0 (p - 1) (T j) = o) (h : 0 ≤ o) : tStp T p (43, j, w, [a], c, d) = (44, j + 1, w, [], c, o :: a :: d) := by subst e; simp [tStp, tHd, h, h0]
theorem tM43_n {a o f : Int} (h0 : ¬ T j = 1000 + a) (e : tNm 0 (p - 1) (T j) = o) (h : ¬ 0 ≤ o) (hf : f = -o) : tStp T p (43, j, w, [a], c, d) = tEr j f := by subst e; subst hf; simp [tStp, tHd, h, h0]
end TM
theorem tNm_f (lo hi c : Int) : (c < 1000 ∧ tNm lo hi c = -1) ∨ (1000 ≤ c ∧ (lo ≤ c - 1000 ∧ c - 1000 ≤ hi) ∧ tNm lo hi c = c - 1000) ∨ (1000 ≤ c ∧ ¬ (lo ≤ c - 1000 ∧ c - 1000 ≤ hi) ∧ tNm lo hi c = -2) := by
  unfold tNm
  by_cases h1 : c < 1000
  · rw [if_pos h1]; omega
  · rw [if_neg h1]
    by_cases h2 : lo ≤ c - 1000 ∧ c - 1000 ≤ hi
    · rw [if_pos h2]; omega
    · rw [if_neg h2]; omega
theorem tOp_f (dv c : Int) : (1000 ≤ c ∧ ¬ dv = 0 ∧ c = 1000 ∧ tOp dv c = -2) ∨ (1000 ≤ c ∧ (dv = 0 ∨ ¬ c = 1000) ∧ tOp dv c = c - 1000) ∨ (dv = 0 ∧ 207 ≤ c ∧ c ≤ 216 ∧ tOp dv c = 9800 + c) ∨ (c < 1000 ∧ ¬ (dv = 0 ∧ 207 ≤ c ∧ c ≤ 216) ∧ tOp dv c = -1) := by
  unfold tOp
  by_cases h1 : 1000 ≤ c
  · rw [if_pos h1]
    by_cases h2 : ¬ dv = 0 ∧ c = 1000
    · rw [if_pos h2]; omega
    · rw [if_neg h2]; omega
  · rw [if_neg h1]
    by_cases h2 : dv = 0 ∧ 207 ≤ c ∧ c ≤ 216
    · rw [if_pos h2]; omega
    · rw [if_neg h2]; omega
theorem tOpn_12 (s : List Int) : tOpn (12 :: s) = tOpn s + 1 := by show tOpn s + (if (12 : Int) = 9 ∨ (12 : Int) = 12 then 1 else 0) = _; rw [if_pos (by decide)]
theorem tOpn_9 (s : List Int) : tOpn (9 :: s) = tOpn s + 1 := by show tOpn s + (if (9 : Int) = 9 ∨ (9 : Int) = 12 then 1 else 0) = _; rw [if_pos (by decide)]
theorem tOpn_10 (s : List Int) : tOpn (10 :: s) = tOpn s := by show tOpn s + (if (10 : Int) = 9 ∨ (10 : Int) = 12 then 1 else 0) = _; rw [if_neg (by decide)]; omega
theorem tOpn_11 (s : List Int) : tOpn (11 :: s) = tOpn s := by show tOpn s + (if (11 : Int) = 9 ∨ (11 : Int) = 12 then 1 else 0) = _; rw [if_neg (by decide)]; omega
theorem tOpn_90 {x : Int} (h : 1000 ≤ x) : tOpn [90, x] = 0 := by
  show tOpn [] + (if x = 9 ∨ x = 12 then 1 else 0) + (if (90 : Int) = 9 ∨ (90 : Int) = 12 then 1 else 0) = 0
  rw [if_neg (by omega), if_neg (by decide)]; rfl
theorem tOpn_if {x : Int} (s : List Int) : tOpn (if x = 0 then s else 11 :: s) = tOpn s := by
  by_cases h : x = 0
  · rw [if_pos h]
  · rw [if_neg h]; exact tOpn_11 s
/-! ===== what the machine puts out is well-formed ===== -/
def tBo : List Int → List Bool
  | [] => []
  | x :: s => if x = 10 ∨ x = 11 then true :: tBo s else tBo s
def tVs : List Int → Prop
  | [] => False
  | x :: s => (x = 90 ∧ ∃ n, 1000 ≤ n ∧ s = [n]) ∨ ((x = 9 ∨ x = 12) ∧ tVs s) ∨ (x = 10 ∧ tVs s ∧ ¬ tHd s = 9 ∧ ¬ tHd s = 10) ∨ (x = 11 ∧ tVs s ∧ ¬ tHd s = 9 ∧ ¬ tHd s = 10 ∧ ¬ tHd s = 11)
theorem tBo_n {x : Int} {s : List Int} (h : ¬ (x = 10 ∨ x = 11)) : tBo (x :: s) = tBo s := by show (if x = 10 ∨ x = 11 then true :: tBo s else tBo s) = _; rw [if_neg h]
theorem tBo_y {x : Int} {s : List Int} (h : x = 10 ∨ x = 11) : tBo (x :: s) = true :: tBo s := by show (if x = 10 ∨ x = 11 then true :: tBo s else tBo s) = _; rw [if_pos h]
theorem tBo_0 {n : Int} (h : 1000 ≤ n) : tBo [90, n] = [] := by rw [tBo_n (by decide), tBo_n (by omega)]; rfl
theorem tVs_l : ∀ {s : List Int}, tVs s → ((tBo s).length : Int) ≤ 2 * tOpn s + (if tHd s = 10 then 2 else if tHd s = 11 then 1 else 0) ∧ 0 ≤ tOpn s
  | [], h => h.elim
  | x :: s, h => by
    have hd : tHd (x :: s) = x := rfl
    rw [hd]
    have op : tOpn (x :: s) = tOpn s + (if x = 9 ∨ x = 12 then 1 else 0) := rfl
    rw [op]
    rcases h with ⟨rfl, n, hn, rfl⟩ | ⟨hx, hs⟩ | ⟨rfl, hs, h9, h10⟩ | ⟨rfl, hs, h9, h10, h11⟩
    · rw [tBo_0 hn]
      have : tOpn [n] = 0 := by show tOpn [] + (if n = 9 ∨ n = 12 then 1 else 0) = 0; rw [if_neg (by omega)]; rfl
      rw [this]
      decide
    · have q := tVs_l hs
      rw [tBo_n (by omega), if_pos hx, if_neg (by omega), if_neg (by omega)]
      have : (if tHd s = 10 then (2 : Int) else if tHd s = 11 then 1 else 0) ≤ 2 := by split <;> (try split) <;> omega
      omega
    · have q := tVs_l hs
      rw [tBo_y (Or.inl rfl), if_neg (by decide), if_pos rfl]
      rw [if_neg h10] at q
      have : (if tHd s = 11 then (1 : Int) else 0) ≤ 1 := by split <;> omega
      simp only [List.length_cons]
      omega
    · have q := tVs_l hs
      rw [tBo_y (Or.inr rfl), if_neg (by decide), if_neg (by decide), if_pos rfl]
      rw [if_neg h10, if_neg h11] at q
      simp only [List.length_cons]
      omega
theorem tVs_b {s : List Int} (h : tVs s) (o : tOpn s ≤ 8) : (tBo s).length ≤ 18 := by
  have q := tVs_l h
  have : (if tHd s = 10 then (2 : Int) else if tHd s = 11 then 1 else 0) ≤ 2 := by split <;> (try split) <;> omega
  omega
def tCx (s : List Int) (t : List Bool) : Prop := (∃ n, 1000 ≤ n ∧ s = [100, n] ∧ t = []) ∨ (∃ s', s = 101 :: s' ∧ tVs s' ∧ tOpn s' ≤ 8 ∧ t = tBo s') ∨ (∃ g s', (g = 60 ∨ g = 61 ∨ g = 62) ∧ s = g :: s' ∧ tVs s' ∧ tOpn s' ≤ 8 ∧ t = false :: tBo s')
theorem tCx_l {s : List Int} {t : List Bool} (h : tCx s t) : t.length ≤ 19 := by
  rcases h with ⟨n, hn, rfl, rfl⟩ | ⟨s', rfl, v, o, rfl⟩ | ⟨g, s', hg, rfl, v, o, rfl⟩
  · exact Nat.zero_le _
  · have := tVs_b v o; omega
  · have := tVs_b v o; simp only [List.length_cons]; omega
/-- the first m codes -/
def fsg (c : List Int) (m : Nat) : List Int := c.drop (c.length - m)
theorem fsg_e {e : Int} {c : List Int} {m : Nat} (h : m ≤ c.length) : fsg (e :: c) m = fsg c m := by
  unfold fsg
  rw [List.length_cons, show c.length + 1 - m = (c.length - m) + 1 by omega]
  rfl
theorem fsg_a (c : List Int) : fsg c c.length = c := by unfold fsg; rw [Nat.sub_self]; rfl
def tLn (c : List Int) (fr wh st : Int) : Prop := (0 ≤ fr ∧ fr ≤ wh ∧ wh ≤ st ∧ st ≤ c.length) ∧ fTy (fsg c wh.toNat) (wh - fr).toNat = some [false] ∧ (wh = st ∨ fTy (fsg c st.toNat) (st - wh).toNat = some [true])
theorem tLn_e {e : Int} {c : List Int} {fr wh st : Int} (h : tLn c fr wh st) : tLn (e :: c) fr wh st := by
  obtain ⟨a, b, k⟩ := h
  refine ⟨⟨a.1, a.2.1, a.2.2.1, by simp only [List.length_cons]; omega⟩, ?_, ?_⟩
  · rw [fsg_e (by omega)]; exact b
  · rcases k with k | k
    · exact Or.inl k
    · rw [fsg_e (by omega)]; exact Or.inr k
def tGd (c : List Int) : List Int → Prop
  | [] => True
  | st :: wh :: fr :: wd :: d => ((0 ≤ wd ∧ wd ≤ 2) ∧ tLn c fr wh st) ∧ tGd c d
  | _ => False
theorem tGd_e {e : Int} {c : List Int} : ∀ {d : List Int}, tGd c d → tGd (e :: c) d
  | [], _ => True.intro
  | _ :: _ :: _ :: _ :: _, h => ⟨⟨h.1.1, tLn_e h.1.2⟩, tGd_e h.2⟩
  | [_], h => h.elim
  | [_, _], h => h.elim
  | [_, _, _], h => h.elim
def tS1 (c d : List Int) (ts : List Bool) : Prop := ∃ fr wd d', d = fr :: wd :: d' ∧ (0 ≤ wd ∧ wd ≤ 2) ∧ (0 ≤ fr ∧ fr ≤ c.length) ∧ tGd c d' ∧ fTy c (c.length - fr.toNat) = some ts
def tS2 (c d : List Int) (ts : List Bool) : Prop := ∃ wh fr wd d', d = wh :: fr :: wd :: d' ∧ (0 ≤ wd ∧ wd ≤ 2) ∧ (0 ≤ fr ∧ fr ≤ wh ∧ wh ≤ c.length) ∧ fTy (fsg c wh.toNat) (wh - fr).toNat = some [false] ∧ tGd c d' ∧ fTy c (c.length - wh.toNat) = some ts
theorem tS1_e {e : Int} {c d : List Int} {ts us : List Bool} (h : tS1 c d ts) (g : fTs e ts = some us) : tS1 (e :: c) d us := by
  obtain ⟨fr, wd, d', rfl, hw, hf, hg, ht⟩ := h
  refine ⟨fr, wd, d', rfl, hw, ⟨hf.1, by simp only [List.length_cons]; omega⟩, tGd_e hg, ?_⟩
  rw [List.length_cons, show c.length + 1 - fr.toNat = (c.length - fr.toNat) + 1 by omega]
  exact fTy_s ht g
theorem tS2_e {e : Int} {c d : List Int} {ts us : List Bool} (h : tS2 c d ts) (g : fTs e ts = some us) : tS2 (e :: c) d us := by
  obtain ⟨wh, fr, wd, d', rfl, hw, hf, hv, hg, ht⟩ := h
  refine ⟨wh, fr, wd, d', rfl, hw, ⟨hf.1, hf.2.1, by simp only [List.length_cons]; omega⟩, by rw [fsg_e (by omega)]; exact hv, tGd_e hg, ?_⟩
  rw [List.length_cons, show c.length + 1 - wh.toNat = (c.length - wh.toNat) + 1 by omega]
  exact fTy_s ht g
def tSgn (s c d : List Int) (ts : List Bool) : Prop := (tHd s = 100 → tS1 c d ts) ∧ (¬ tHd s = 100 → tS2 c d ts)
theorem tSgn_e {e : Int} {s c d : List Int} {ts us : List Bool} (h : tSgn s c d ts) (g : fTs e ts = some us) : tSgn s (e :: c) d us := ⟨fun z => tS1_e (h.1 z) g, fun z => tS2_e (h.2 z) g⟩
def tWl (w : Int) : List Bool := if w = 0 then [] else [false]
def tWo (w : Int) : Prop := w = 0 ∨ w = 43 ∨ w = 45
/-- behind what waits -/
theorem tSgn_w {w : Int} {s c d : List Int} {t : List Bool} (hw : tWo w) (h : tSgn s c d (false :: (tWl w ++ t))) : tSgn s (tWt w c) d (false :: t) := by
  unfold tWl at h
  unfold tWt
  rcases hw with rfl | rfl | rfl
  · rw [if_pos rfl] at h ⊢; exact h
  · rw [if_neg (by decide)] at h ⊢; exact tSgn_e h (fTs_a (by decide))
  · rw [if_neg (by decide)] at h ⊢; exact tSgn_e h (fTs_a (by decide))
def tInv (x : tS) : Prop := match x with
  | (m, _, w, s, c, d) =>
    (m = 0 ∨ (m = 1 ∧ tGd c d) ∨ (m = 2 ∧ 0 ≤ w ∧ tGd c d) ∨
    (m = 3 ∧ tWo w ∧ ∃ t, tCx s t ∧ tSgn s c d (tWl w ++ t)) ∨
    (m = 4 ∧ tWo w ∧ ∃ t, tCx s t ∧ tSgn s c d (false :: (tWl w ++ t))) ∨
    (m = 5 ∧ ∃ t, tCx s t ∧ tSgn s c d (false :: t)) ∨
    (m = 8 ∧ tVs s ∧ tOpn s ≤ 8 ∧ tS2 c d (tBo s)) ∨
    (m = 9 ∧ tVs s ∧ tOpn s ≤ 8 ∧ tS2 c d (true :: tBo s)) ∨
    (m = 11 ∧ tVs s ∧ tOpn s ≤ 8 ∧ tS2 c d (true :: tBo s) ∧ ¬ tHd s = 9 ∧ ¬ tHd s = 10) ∨
    (m = 12 ∧ tVs s ∧ tOpn s ≤ 8 ∧ tS2 c d (true :: tBo s) ∧ ¬ tHd s = 9 ∧ ¬ tHd s = 10 ∧ ¬ tHd s = 11) ∨
    (m = 10 ∧ 0 ≤ w ∧ ∃ wh fr wd d', d = wh :: fr :: wd :: d' ∧ (0 ≤ wd ∧ wd ≤ 2) ∧ tLn c fr wh c.length ∧ tGd c d'))
section TI
variable {T : Int → Int} {p j w : Int} {s c d : List Int}
theorem tInv_er (j f : Int) : tInv (tEr j f) := Or.inl rfl
theorem tCo {dv x : Int} (hx : x ≤ 10999) (h : 0 ≤ tOp dv x) : (0 ≤ tOp dv x ∧ tOp dv x < 10000) ∨ (10007 ≤ tOp dv x ∧ tOp dv x ≤ 10016) := by
  have := tOp_f dv x; omega
theorem tInv_2 (h0 : 0 ≤ w) (h : tGd c d) : tInv (tStp T p (2, j, w, s, c, d)) := by
  by_cases e : T j = 0
  · rw [tM2_e e]; exact Or.inr (Or.inl ⟨rfl, h⟩)
  by_cases l : 200 ≤ T j ∧ T j ≤ 202
  · by_cases v : w < 16
    · rw [tM2_l l v]
      refine Or.inr (Or.inr (Or.inr (Or.inl ⟨rfl, Or.inl rfl, [], Or.inl ⟨w + 1000, by omega, rfl, rfl⟩, ?_, ?_⟩)))
      · intro _
        refine ⟨(c.length : Int), T j - 200, d, rfl, by omega, by omega, h, ?_⟩
        rw [show c.length - ((c.length : Int)).toNat = 0 by omega]
        cases c <;> rfl
      · intro z; exact absurd rfl z
    · rw [tM2_3 l v]; exact tInv_er _ _
  · rw [tM2_1 e l]; exact tInv_er _ _
theorem tInv_3 (hT : ∀ j, T j ≤ 10999) (hw : tWo w) {t : List Bool} (hc : tCx s t) (h : tSgn s c d (tWl w ++ t)) : tInv (tStp T p (3, j, w, s, c, d)) := by
  by_cases o : 0 ≤ tOp 0 (T j)
  · rw [tM3_y rfl o]
    refine Or.inr (Or.inr (Or.inr (Or.inr (Or.inl ⟨rfl, hw, t, hc, tSgn_e h (fTs_p (tCo (hT j) o) ?_)⟩))))
    have l := tCx_l hc
    have : (tWl w).length ≤ 1 := by unfold tWl; split <;> simp
    rw [List.length_append]; omega
  · rw [tM3_n rfl o rfl]; exact tInv_er _ _
theorem tInv_4 (hT : ∀ j, T j ≤ 10999) (hw : tWo w) {t : List Bool} (hc : tCx s t) (h : tSgn s c d (false :: (tWl w ++ t))) : tInv (tStp T p (4, j, w, s, c, d)) := by
  by_cases a : T j = 42 ∨ T j = 47
  · by_cases o : 0 ≤ tOp (T j - 42) (T (j + 1))
    · rw [tM4_y a rfl o]
      refine Or.inr (Or.inr (Or.inr (Or.inr (Or.inl ⟨rfl, hw, t, hc, tSgn_e (tSgn_e h (fTs_p (tCo (hT _) o) ?_)) (fTs_a (by omega))⟩))))
      have l := tCx_l hc
      have : (tWl w).length ≤ 1 := by unfold tWl; split <;> simp
      rw [List.length_cons, List.length_append]; omega
    · rw [tM4_n a rfl o rfl]; exact tInv_er _ _
  by_cases b : T j = 43 ∨ T j = 45
  · rw [tM4_s b]
    refine Or.inr (Or.inr (Or.inr (Or.inl ⟨rfl, by unfold tWo; omega, t, hc, ?_⟩)))
    have q := tSgn_w hw h
    have e : tWl (T j) = [false] := by unfold tWl; rw [if_neg (by omega)]
    rw [e]; exact q
  · rw [tM4_e a b]
    exact Or.inr (Or.inr (Or.inr (Or.inr (Or.inr (Or.inl ⟨rfl, t, hc, tSgn_w hw h⟩)))))
theorem tInv_5 {t : List Bool} (hc : tCx s t) (h : tSgn s c d (false :: t)) : tInv (tStp T p (5, j, w, s, c, d)) := by
  rcases hc with ⟨n, hn, rfl, rfl⟩ | ⟨s', rfl, v, o, rfl⟩ | ⟨g, s', hg, rfl, v, o, rfl⟩
  · obtain ⟨fr, wd, d', rfl, hw, hf, hg, ht⟩ := h.1 rfl
    have hv : fTy (fsg c ((c.length : Int)).toNat) ((c.length : Int) - fr).toNat = some [false] := by
      rw [Int.toNat_natCast, fsg_a, show ((c.length : Int) - fr).toNat = c.length - fr.toNat by omega]; exact ht
    by_cases e : T j = 203
    · rw [tM5_w e]
      refine Or.inr (Or.inr (Or.inr (Or.inr (Or.inr (Or.inr (Or.inl ⟨rfl, Or.inl ⟨rfl, n, hn, rfl⟩, by rw [tOpn_90 hn]; decide, ?_⟩))))))
      rw [tBo_0 hn]
      refine ⟨(c.length : Int), fr, wd, d', rfl, hw, ⟨hf.1, hf.2, Int.le_refl _⟩, hv, hg, ?_⟩
      rw [show c.length - ((c.length : Int)).toNat = 0 by omega]
      cases c <;> rfl
    · rw [tM5_v e]
      refine Or.inr (Or.inr (Or.inr (Or.inr (Or.inr (Or.inr (Or.inr (Or.inr (Or.inr (Or.inr ⟨rfl, by omega, (c.length : Int), fr, wd, d', rfl, hw, ?_, hg⟩)))))))))
      exact ⟨⟨hf.1, hf.2, Int.le_refl _, Int.le_refl _⟩, hv, Or.inl rfl⟩
  · by_cases e : T j = 60 ∨ T j = 61 ∨ T j = 62
    · rw [tM5_c e]
      refine Or.inr (Or.inr (Or.inr (Or.inl ⟨rfl, Or.inl rfl, false :: tBo s', Or.inr (Or.inr ⟨T j, s', e, rfl, v, o, rfl⟩), ?_, ?_⟩)))
      · intro z; have z2 : T j = 100 := z; omega
      · intro _; exact h.2 (by show ¬ (101 : Int) = 100; decide)
    · rw [tM5_n e]; exact tInv_er _ _
  · rw [tM5_r hg]
    refine Or.inr (Or.inr (Or.inr (Or.inr (Or.inr (Or.inr (Or.inr (Or.inl ⟨rfl, v, o, ?_⟩)))))))
    exact tS2_e (h.2 (by show ¬ g = 100; omega)) (fTs_c (by omega))
theorem tInv_8 (v : tVs s) (o : tOpn s ≤ 8) (h : tS2 c d (tBo s)) : tInv (tStp T p (8, j, w, s, c, d)) := by
  by_cases a : T j = 206 ∨ T j = 40
  · by_cases k : tOpn s < 8
    · rcases a with a | a
      · rw [tM8_n a k]
        exact Or.inr (Or.inr (Or.inr (Or.inr (Or.inr (Or.inr (Or.inl ⟨rfl, Or.inr (Or.inl ⟨Or.inl rfl, v⟩), by rw [tOpn_9]; omega, by rw [tBo_n (by decide)]; exact h⟩))))))
      · rw [tM8_b a k]
        exact Or.inr (Or.inr (Or.inr (Or.inr (Or.inr (Or.inr (Or.inl ⟨rfl, Or.inr (Or.inl ⟨Or.inr rfl, v⟩), by rw [tOpn_12]; omega, by rw [tBo_n (by decide)]; exact h⟩))))))
    · rw [tM8_3 a k]; exact tInv_er _ _
  · rw [tM8_s a]
    exact Or.inr (Or.inr (Or.inr (Or.inl ⟨rfl, Or.inl rfl, tBo s, Or.inr (Or.inl ⟨s, rfl, v, o, rfl⟩), fun z => absurd (show (101 : Int) = 100 from z) (by decide), fun _ => h⟩)))
theorem tInv_9 (v : tVs s) (o : tOpn s ≤ 8) (h : tS2 c d (true :: tBo s)) : tInv (tStp T p (9, j, w, s, c, d)) := by
  match s, v, o, h with
  | x :: s, v, o, h =>
    by_cases e9 : x = 9
    · subst e9
      rw [tM9_n]
      rw [tBo_n (by decide)] at h
      rw [tOpn_9] at o
      have v' : tVs s := by rcases v with ⟨q, _⟩ | ⟨_, q⟩ | ⟨q, _⟩ | ⟨q, _⟩ <;> first | exact q | exact absurd q (by decide)
      exact Or.inr (Or.inr (Or.inr (Or.inr (Or.inr (Or.inr (Or.inr (Or.inl ⟨rfl, v', by omega, tS2_e h fTs_n⟩)))))))
    by_cases e10 : x = 10
    · subst e10
      rw [tM9_a]
      rw [tBo_y (by decide)] at h
      rw [tOpn_10] at o
      have v' : tVs s ∧ ¬ tHd s = 9 ∧ ¬ tHd s = 10 := by rcases v with ⟨q, _⟩ | ⟨q, _⟩ | ⟨_, q⟩ | ⟨q, _⟩ <;> first | exact q | exact absurd q (by decide)
      exact Or.inr (Or.inr (Or.inr (Or.inr (Or.inr (Or.inr (Or.inr (Or.inr (Or.inl ⟨rfl, v'.1, o, tS2_e h (fTs_b (by decide)), v'.2⟩))))))))
    · rw [tM9_e (by exact e9) (by exact e10)]
      exact Or.inr (Or.inr (Or.inr (Or.inr (Or.inr (Or.inr (Or.inr (Or.inr (Or.inl ⟨rfl, v, o, h, e9, e10⟩))))))))
theorem tInv_11 (v : tVs s) (o : tOpn s ≤ 8) (h : tS2 c d (true :: tBo s)) (h9 : ¬ tHd s = 9) (h10 : ¬ tHd s = 10) : tInv (tStp T p (11, j, w, s, c, d)) := by
  by_cases a : T j = 205
  · rw [tM11_a a]
    exact Or.inr (Or.inr (Or.inr (Or.inr (Or.inr (Or.inr (Or.inl ⟨rfl, Or.inr (Or.inr (Or.inl ⟨rfl, v, h9, h10⟩)), by rw [tOpn_10]; exact o, by rw [tBo_y (by decide)]; exact h⟩))))))
  match s, v, o, h, h9, h10 with
  | x :: s, v, o, h, h9, h10 =>
    by_cases e11 : x = 11
    · subst e11
      have v' : tVs s ∧ ¬ tHd s = 9 ∧ ¬ tHd s = 10 ∧ ¬ tHd s = 11 := by rcases v with ⟨q, _⟩ | ⟨q, _⟩ | ⟨q, _⟩ | ⟨_, q⟩ <;> first | exact q | exact absurd q (by decide)
      have h' := h
      rw [tBo_y (by decide)] at h'
      have h2 := tS2_e h' (fTs_b (e := 20004) (by decide))
      by_cases b : T j = 204
      · rw [tM11_o b]
        exact Or.inr (Or.inr (Or.inr (Or.inr (Or.inr (Or.inr (Or.inl ⟨rfl, v, o, by rw [tBo_y (by decide)]; exact h2⟩))))))
      · rw [tM11_p a b]
        rw [tOpn_11] at o
        exact Or.inr (Or.inr (Or.inr (Or.inr (Or.inr (Or.inr (Or.inr (Or.inr (Or.inr (Or.inl ⟨rfl, v'.1, o, h2, v'.2⟩)))))))))
    · by_cases b : T j = 204
      · rw [tM11_f b (by exact e11)]
        exact Or.inr (Or.inr (Or.inr (Or.inr (Or.inr (Or.inr (Or.inl ⟨rfl, Or.inr (Or.inr (Or.inr ⟨rfl, v, h9, h10, e11⟩)), by rw [tOpn_11]; exact o, by rw [tBo_y (x := 11) (by decide)]; exact h⟩))))))
      · rw [tM11_e a b (by exact e11)]
        exact Or.inr (Or.inr (Or.inr (Or.inr (Or.inr (Or.inr (Or.inr (Or.inr (Or.inr (Or.inl ⟨rfl, v, o, h, h9, h10, e11⟩)))))))))
theorem tInv_12 (v : tVs s) (o : tOpn s ≤ 8) (h : tS2 c d (true :: tBo s)) (h9 : ¬ tHd s = 9) (h10 : ¬ tHd s = 10) (h11 : ¬ tHd s = 11) : tInv (tStp T p (12, j, w, s, c, d)) := by
  match s, v, o, h, h9, h10, h11 with
  | x :: s, v, o, h, h9, h10, h11 =>
    rcases v with ⟨rfl, n, hn, rfl⟩ | ⟨q, v'⟩ | ⟨q, _⟩ | ⟨q, _⟩
    · rw [tM12_z]
      rw [tBo_0 hn] at h
      obtain ⟨wh, fr, wd, d', rfl, hw, hf, hv, hg, ht⟩ := h
      refine Or.inr (Or.inr (Or.inr (Or.inr (Or.inr (Or.inr (Or.inr (Or.inr (Or.inr (Or.inr ⟨rfl, by omega, wh, fr, wd, d', rfl, hw, ?_, hg⟩)))))))))
      refine ⟨⟨hf.1, hf.2.1, hf.2.2, Int.le_refl _⟩, hv, Or.inr ?_⟩
      rw [Int.toNat_natCast, fsg_a, show ((c.length : Int) - wh).toNat = c.length - wh.toNat by omega]; exact ht
    · have q' : x = 12 := by
        rcases q with q | q
        · exact absurd q h9
        · exact q
      subst q'
      by_cases e : T j = 41
      · rw [tM12_y e]
        rw [tBo_n (by decide)] at h
        rw [tOpn_12] at o
        exact Or.inr (Or.inr (Or.inr (Or.inr (Or.inr (Or.inr (Or.inr (Or.inl ⟨rfl, v', by omega, h⟩)))))))
      · rw [tM12_n e]; exact tInv_er _ _
    · exact absurd q h10
    · exact absurd q h11
theorem tInv_10 (h0 : 0 ≤ w) {wh fr wd : Int} {d' : List Int} (hd : d = wh :: fr :: wd :: d') (hw : 0 ≤ wd ∧ wd ≤ 2) (hl : tLn c fr wh c.length) (hg : tGd c d') : tInv (tStp T p (10, j, w, s, c, d)) := by
  subst hd
  by_cases e : T j = 59
  · rw [tM10_y e]
    exact Or.inr (Or.inr (Or.inl ⟨rfl, by omega, ⟨hw, hl⟩, hg⟩))
  · rw [tM10_n e]; exact tInv_er _ _
theorem tInv_s (hT : ∀ j, T j ≤ 10999) : ∀ {x : tS}, tInv x → tInv (tStp T p x)
  | (m, j, w, s, c, d), h => by
    rcases h with rfl | ⟨rfl, h⟩ | ⟨rfl, h0, h⟩ | ⟨rfl, hw, t, hc, h⟩ | ⟨rfl, hw, t, hc, h⟩ | ⟨rfl, t, hc, h⟩ | ⟨rfl, v, o, h⟩ | ⟨rfl, v, o, h⟩ | ⟨rfl, v, o, h, h9, h10⟩ | ⟨rfl, v, o, h, h9, h10, h11⟩ | ⟨rfl, h0, wh, fr, wd, d', hd, hw, hl, hg⟩
    · rw [show tStp T p (0, j, w, s, c, d) = (0, j, w, s, c, d) by simp [tStp]]; exact Or.inl rfl
    · rw [tOk_f]; exact Or.inr (Or.inl ⟨rfl, h⟩)
    · exact tInv_2 h0 h
    · exact tInv_3 hT hw hc h
    · exact tInv_4 hT hw hc h
    · exact tInv_5 hc h
    · exact tInv_8 v o h
    · exact tInv_9 v o h
    · exact tInv_11 v o h h9 h10
    · exact tInv_12 v o h h9 h10 h11
    · exact tInv_10 h0 hd hw hl hg
theorem tInv_r (hT : ∀ j, T j ≤ 10999) {x y : tS} (h : tInv x) (r : tRe T p x y) : tInv y := by
  obtain ⟨n, r⟩ := r
  subst r
  have q : ∀ (n : Nat) (x : tS), tInv x → tInv (tIt T p n x) := by
    intro n
    induction n with
    | zero => intro x h; exact h
    | succ n ih => intro x h; exact ih _ (tInv_s hT h)
  exact q n x h
/-- the law that was read -/
theorem tInv_law (hT : ∀ j, T j ≤ 10999) {j' v : Int} {c' d' : List Int} (r : tRe T p (2, 0, 0, [], [], []) (1, j', v, [], c', d')) : tGd c' d' := by
  have h := tInv_r hT (x := (2, 0, 0, [], [], [])) (Or.inr (Or.inr (Or.inl ⟨rfl, Int.le_refl _, True.intro⟩))) r
  rcases h with q | ⟨_, h⟩ | ⟨q, _⟩ | ⟨q, _⟩ | ⟨q, _⟩ | ⟨q, _⟩ | ⟨q, _⟩ | ⟨q, _⟩ | ⟨q, _⟩ | ⟨q, _⟩ | ⟨q, _⟩ <;> first | exact h | exact absurd q (by decide)
end TI

