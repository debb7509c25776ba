/-! ===== what a text tells, as told things ===== -/
/-- the j-th of a list whose newest is its first -/
def fRv : List Int → Int → Int
  | [], _ => 0
  | x :: d, j => if j = (d.length : Int) then x else fRv d j
theorem fRv_x {x : Int} {d : List Int} {j : Int} (h : j < d.length) : fRv (x :: d) j = fRv d j := if_neg (by omega)
theorem fRv_h {x j : Int} {d : List Int} (h : j = d.length) : fRv (x :: d) j = x := if_pos h
theorem fRv_s (f : Int → Int) : ∀ (n : Nat) (i : Int), 0 ≤ i → i < n → fRv (tSk f n) i = f i
  | 0, i, a, b => absurd b (by omega)
  | n + 1, i, a, b => by
    show (if i = ((tSk f n).length : Int) then f n else fRv (tSk f n) i) = f i
    rw [tSk_l]
    by_cases e : i = (n : Int)
    · rw [if_pos e, e]
    · rw [if_neg e]; exact fRv_s f n i a (by omega)
theorem fRv_g : ∀ (c : List Int) (m : Nat), m ≤ c.length → tSk (fRv c) m = fsg c m
  | [], m, h => by
    have e : m = 0 := Nat.le_zero.mp h
    subst e; rfl
  | x :: c, m, h => by
    rw [List.length_cons] at h
    by_cases e : m = c.length + 1
    · subst e
      show fRv (x :: c) ((c.length : Nat) : Int) :: tSk (fRv (x :: c)) c.length = fsg (x :: c) (c.length + 1)
      rw [fRv_h rfl, tSk_x (f := fRv c) c.length (fun i a b => fRv_x b), fRv_g c c.length (Nat.le_refl _), fsg_a]
      exact (fsg_a (x :: c)).symm
    · have l : m ≤ c.length := by omega
      rw [fsg_e l, ← fRv_g c m l]
      exact tSk_x (f := fRv c) m (fun i a b => fRv_x (by omega))
theorem fRv_3 {x y z j : Int} {d : List Int} (h : j < d.length) : fRv (x :: y :: z :: d) j = fRv d j := by
  rw [fRv_x (by simp only [List.length_cons]; omega), fRv_x (by simp only [List.length_cons]; omega), fRv_x h]
theorem fRv_4 {x y z w j : Int} {d : List Int} (h : j < d.length) : fRv (x :: y :: z :: w :: d) j = fRv d j := by
  rw [fRv_x (by simp only [List.length_cons]; omega), fRv_3 h]
/-- lines of four, of three -/
def fF4 (d : List Int) (n : Int) (a b e f : Int → Int) : Prop := (d.length : Int) = 4 * n ∧ ∀ l, 0 ≤ l → l < n → fRv d (4 * l) = a l ∧ fRv d (4 * l + 1) = b l ∧ fRv d (4 * l + 2) = e l ∧ fRv d (4 * l + 3) = f l
def fF3 (d : List Int) (n : Int) (a b e : Int → Int) : Prop := (d.length : Int) = 3 * n ∧ ∀ l, 0 ≤ l → l < n → fRv d (3 * l) = a l ∧ fRv d (3 * l + 1) = b l ∧ fRv d (3 * l + 2) = e l
theorem fF4_n {d : List Int} {n : Nat} {a b e f : Int → Int} (h : fF4 d n a b e f) : fF4 (f n :: e n :: b n :: a n :: d) ((n : Int) + 1) a b e f := by
  obtain ⟨h1, h2⟩ := h
  refine ⟨by simp only [List.length_cons]; omega, fun l p q => ?_⟩
  by_cases y : l = (n : Int)
  · subst y
    refine ⟨?_, ?_, ?_, ?_⟩
    · rw [fRv_x (by simp only [List.length_cons]; omega), fRv_x (by simp only [List.length_cons]; omega), fRv_x (by simp only [List.length_cons]; omega), fRv_h (by omega)]
    · rw [fRv_x (by simp only [List.length_cons]; omega), fRv_x (by simp only [List.length_cons]; omega), fRv_h (by simp only [List.length_cons]; omega)]
    · rw [fRv_x (by simp only [List.length_cons]; omega), fRv_h (by simp only [List.length_cons]; omega)]
    · rw [fRv_h (by simp only [List.length_cons]; omega)]
  · have z := h2 l p (by omega)
    rw [fRv_4 (by omega), fRv_4 (by omega), fRv_4 (by omega), fRv_4 (by omega)]
    exact z
theorem fF3_n {d : List Int} {n : Nat} {a b e : Int → Int} (h : fF3 d n a b e) : fF3 (e n :: b n :: a n :: d) ((n : Int) + 1) a b e := by
  obtain ⟨h1, h2⟩ := h
  refine ⟨by simp only [List.length_cons]; omega, fun l p q => ?_⟩
  by_cases y : l = (n : Int)
  · subst y
    refine ⟨?_, ?_, ?_⟩
    · rw [fRv_x (by simp only [List.length_cons]; omega), fRv_x (by simp only [List.length_cons]; omega), fRv_h (by omega)]
    · rw [fRv_x (by simp only [List.length_cons]; omega), fRv_h (by simp only [List.length_cons]; omega)]
    · rw [fRv_h (by simp only [List.length_cons]; omega)]
  · have z := h2 l p (by omega)
    rw [fRv_3 (by omega), fRv_3 (by omega), fRv_3 (by omega)]
    exact z
theorem fF4_0 {a b e f : Int → Int} : fF4 [] ((0 : Nat) : Int) a b e f := ⟨rfl, fun l p q => absurd q (by omega)⟩
theorem fF3_0 {a b e : Int → Int} : fF3 [] ((0 : Nat) : Int) a b e := ⟨rfl, fun l p q => absurd q (by omega)⟩
theorem tD4_f (h : zM) (l : Int) : ∀ n : Nat, fF4 (tD4 h l n) (n : Int) (h.2 (l + 1)) (h.2 (l + 2)) (h.2 (l + 3)) (h.2 (l + 4))
  | 0 => fF4_0
  | n + 1 => fF4_n (tD4_f h l n)
theorem tP3_f (h : zM) (l a b d : Int) : ∀ n : Nat, fF3 (tP3 h l a b d n) (n : Int) (h.2 (l + d)) (h.2 (l + b)) (h.2 (l + a))
  | 0 => fF3_0
  | n + 1 => fF3_n (tP3_f h l a b d n)
theorem tL4_f (h : zM) : ∀ n : Nat, fF4 (tL4 h n) (n : Int) (fun i => h.2 10 (32 + i)) (fun i => h.2 11 (32 + i)) (fun i => h.2 12 (32 + i)) (fun i => h.2 13 (32 + i))
  | 0 => fF4_0
  | n + 1 => fF4_n (a := fun i => h.2 10 (32 + i)) (b := fun i => h.2 11 (32 + i)) (e := fun i => h.2 12 (32 + i)) (f := fun i => h.2 13 (32 + i)) (tL4_f h n)
theorem tB3_f (h : zM) : ∀ n : Nat, fF3 (tB3 h n) (n : Int) (fun i => h.2 17 (48 + 3 * i)) (fun i => h.2 17 (48 + 3 * i + 1)) (fun i => 3 - h.2 17 (48 + 3 * i + 2))
  | 0 => fF3_0
  | n + 1 => fF3_n (a := fun i => h.2 17 (48 + 3 * i)) (b := fun i => h.2 17 (48 + 3 * i + 1)) (e := fun i => 3 - h.2 17 (48 + 3 * i + 2)) (tB3_f h n)
theorem tT3d_f (h : zM) : ∀ n : Nat, fF3 (tT3d h n) (n : Int) (fun i => h.2 18 (48 + 3 * i)) (fun i => h.2 18 (48 + 3 * i + 1) + 1) (fun i => h.2 18 (48 + 3 * i + 2))
  | 0 => fF3_0
  | n + 1 => fF3_n (a := fun i => h.2 18 (48 + 3 * i)) (b := fun i => h.2 18 (48 + 3 * i + 1) + 1) (e := fun i => h.2 18 (48 + 3 * i + 2)) (tT3d_f h n)
/-- the told things anew -/
def fTx0 (E : fE) (v : Int) (c d : List Int) : fE := fun a b => if a = 4 then v else if a = 5 then fRv d (4 * b) else if a = 6 then fRv d (4 * b + 1) else if a = 7 then fRv d (4 * b + 2) else if a = 8 then fRv d (4 * b + 3) else if a = 9 then fRv c b else if a = 10 then (c.length : Int) else E a b
def fTx1 (E : fE) (v : Int) (d : List Int) : fE := fun a b => if a = 11 then v else if a = 12 then fRv d (3 * b) else if a = 13 then fRv d (3 * b + 1) else if a = 14 then 3 - fRv d (3 * b + 2) else E a b
def fTx2 (E : fE) (v : Int) (d : List Int) : fE := fun a b => if a = 15 then v else if a = 16 then fRv d (3 * b) else if a = 17 then fRv d (3 * b + 1) - 1 else if a = 18 then fRv d (3 * b + 2) else E a b
def fTx3 (E : fE) (v : Int) (d : List Int) : fE := fun a b => if a = 19 then v else if a = 3 then tKs d b else E a b
def fTx (k : Int) (E : fE) (v : Int) (c d : List Int) : fE := if k = 0 then fTx0 E v c d else if k = 1 then fTx1 E v d else if k = 2 then fTx2 E v d else fTx3 E v d
/-- what a boats' text tells -/
theorem tNm_b {lo hi x : Int} (h : 0 ≤ tNm lo hi x) : lo ≤ tNm lo hi x ∧ tNm lo hi x ≤ hi := by
  have := tNm_f lo hi x; omega
def tGb : List Int → Prop
  | [] => True
  | wh :: st :: da :: d => ((0 ≤ da ∧ da ≤ 999) ∧ (1 ≤ st ∧ st ≤ 18) ∧ (wh = 2 ∨ wh = 3)) ∧ tGb d
  | _ => False
def tGt (p : Int) : List Int → Prop
  | [] => True
  | n :: k :: da :: d => ((0 ≤ da ∧ da ≤ 999) ∧ (1 ≤ k ∧ k ≤ 6) ∧ (0 ≤ n ∧ n ≤ 719) ∧ (k ≤ 2 → n < p) ∧ (k = 5 → n ≤ 99)) ∧ tGt p d
  | _ => False
def tGk (p : Int) : List Int → Prop
  | [] => True
  | b :: a :: d => ((0 ≤ a ∧ a < p) ∧ (0 ≤ b ∧ b < p)) ∧ tGk p d
  | _ => False
def tIb (x : tS) : Prop := match x with
  | (m, _, _, _, _, d) => m = 0 ∨ (m = 1 ∧ tGb d) ∨ (m = 20 ∧ tGb d) ∨ (m = 21 ∧ tGb d) ∨ (m = 22 ∧ ∃ a d', d = a :: d' ∧ (0 ≤ a ∧ a ≤ 999) ∧ tGb d') ∨ (m = 23 ∧ ∃ a d', d = a :: d' ∧ (0 ≤ a ∧ a ≤ 999) ∧ tGb d') ∨ (m = 24 ∧ ∃ b a d', d = b :: a :: d' ∧ (0 ≤ a ∧ a ≤ 999) ∧ (1 ≤ b ∧ b ≤ 18) ∧ tGb d') ∨ (m = 25 ∧ tGb d)
def tIt2 (p : Int) (x : tS) : Prop := match x with
  | (m, _, _, s, _, d) => m = 0 ∨ (m = 1 ∧ tGt p d) ∨ (m = 30 ∧ tGt p d) ∨ (m = 31 ∧ tGt p d) ∨ (m = 32 ∧ ∃ a d', d = a :: d' ∧ (0 ≤ a ∧ a ≤ 999) ∧ tGt p d') ∨ (m = 33 ∧ ∃ k a d', s = [k] ∧ d = k :: a :: d' ∧ (0 ≤ a ∧ a ≤ 999) ∧ (k = 1 ∨ k = 2 ∨ k = 5 ∨ k = 6) ∧ tGt p d') ∨ (m = 34 ∧ tGt p d)
def tIk (p : Int) (x : tS) : Prop := match x with
  | (m, _, _, s, _, d) => m = 0 ∨ (m = 1 ∧ tGk p d) ∨ (m = 40 ∧ tGk p d) ∨ (m = 41 ∧ tGk p d) ∨ (m = 42 ∧ (∃ a, s = [a] ∧ 0 ≤ a ∧ a < p) ∧ tGk p d) ∨ (m = 43 ∧ (∃ a, s = [a] ∧ 0 ≤ a ∧ a < p) ∧ tGk p d) ∨ (m = 44 ∧ tGk p d)
section TJ
variable {T : Int → Int} {p j w : Int} {s c d : List Int}
theorem tS0_f : tStp T p (0, j, w, s, c, d) = (0, j, w, s, c, d) := by simp [tStp]
theorem tIb_s : ∀ {x : tS}, tIb x → tIb (tStp T p x)
  | (m, j, w, s, c, d), h => by
    rcases h with rfl | ⟨rfl, h⟩ | ⟨rfl, h⟩ | ⟨rfl, h⟩ | ⟨rfl, a, d', rfl, ha, h⟩ | ⟨rfl, a, d', rfl, ha, h⟩ | ⟨rfl, b, a, d', rfl, ha, hb, h⟩ | ⟨rfl, h⟩
    · rw [tS0_f]; exact Or.inl rfl
    · rw [tOk_f]; exact Or.inr (Or.inl ⟨rfl, h⟩)
    · by_cases e : T j = 0
      · rw [tMl_e (Or.inl rfl) e]; exact Or.inr (Or.inl ⟨rfl, h⟩)
      · by_cases e2 : T j = 200
        · by_cases hw : w < 16
          · rw [tMl_l (Or.inl rfl) e2 hw]; exact Or.inr (Or.inr (Or.inr (Or.inl ⟨by decide, h⟩)))
          · rw [tMl_3 (Or.inl rfl) e2 hw]; exact Or.inl rfl
        · rw [tMl_1 (Or.inl rfl) e e2]; exact Or.inl rfl
    · by_cases e : 0 ≤ tNm 0 999 (T j)
      · rw [tMd_y (Or.inl rfl) rfl e]; exact Or.inr (Or.inr (Or.inr (Or.inr (Or.inl ⟨by decide, _, _, rfl, tNm_b e, h⟩))))
      · rw [tMd_n (Or.inl rfl) rfl e rfl]; exact Or.inl rfl
    · by_cases e : T j = 201
      · rw [tM22_y e]; exact Or.inr (Or.inr (Or.inr (Or.inr (Or.inr (Or.inl ⟨rfl, _, _, rfl, ha, h⟩)))))
      · rw [tM22_n e]; exact Or.inl rfl
    · by_cases e : 0 ≤ tNm 1 18 (T j)
      · rw [tM23_y rfl e]; exact Or.inr (Or.inr (Or.inr (Or.inr (Or.inr (Or.inr (Or.inl ⟨rfl, _, _, _, rfl, ha, tNm_b e, h⟩))))))
      · rw [tM23_n rfl e rfl]; exact Or.inl rfl
    · by_cases e : T j = 202 ∨ T j = 203
      · rw [tM24_y e]; exact Or.inr (Or.inr (Or.inr (Or.inr (Or.inr (Or.inr (Or.inr ⟨rfl, ⟨ha, hb, by omega⟩, h⟩))))))
      · rw [tM24_n e]; exact Or.inl rfl
    · by_cases e : T j = 59
      · rw [tMs_y (Or.inl ⟨rfl, rfl⟩) e]; exact Or.inr (Or.inr (Or.inl ⟨rfl, h⟩))
      · rw [tMs_n (Or.inl rfl) e]; exact Or.inl rfl
theorem tIt2_s (hp : p ≤ 18) : ∀ {x : tS}, tIt2 p x → tIt2 p (tStp T p x)
  | (m, j, w, s, c, d), h => by
    rcases h with rfl | ⟨rfl, h⟩ | ⟨rfl, h⟩ | ⟨rfl, h⟩ | ⟨rfl, a, d', rfl, ha, h⟩ | ⟨rfl, k, a, d', rfl, rfl, ha, hk, h⟩ | ⟨rfl, h⟩
    · rw [tS0_f]; exact Or.inl rfl
    · rw [tOk_f]; exact Or.inr (Or.inl ⟨rfl, h⟩)
    · by_cases e : T j = 0
      · rw [tMl_e (Or.inr (Or.inl rfl)) e]; exact Or.inr (Or.inl ⟨rfl, h⟩)
      · by_cases e2 : T j = 200
        · by_cases hw : w < 16
          · rw [tMl_l (Or.inr (Or.inl rfl)) e2 hw]; exact Or.inr (Or.inr (Or.inr (Or.inl ⟨by decide, h⟩)))
          · rw [tMl_3 (Or.inr (Or.inl rfl)) e2 hw]; exact Or.inl rfl
        · rw [tMl_1 (Or.inr (Or.inl rfl)) e e2]; exact Or.inl rfl
    · by_cases e : 0 ≤ tNm 0 999 (T j)
      · rw [tMd_y (Or.inr rfl) rfl e]; exact Or.inr (Or.inr (Or.inr (Or.inr (Or.inl ⟨by decide, _, _, rfl, tNm_b e, h⟩))))
      · rw [tMd_n (Or.inr rfl) rfl e rfl]; exact Or.inl rfl
    · by_cases e : 201 ≤ T j ∧ T j ≤ 206
      · by_cases e2 : T j = 203 ∨ T j = 204
        · rw [tM32_s e2]; exact Or.inr (Or.inr (Or.inr (Or.inr (Or.inr (Or.inr ⟨rfl, ⟨ha, by omega, by omega, by omega, by omega⟩, h⟩)))))
        · rw [tM32_y e e2]; exact Or.inr (Or.inr (Or.inr (Or.inr (Or.inr (Or.inl ⟨rfl, _, _, _, rfl, rfl, ha, by omega, h⟩)))))
      · rw [tM32_n e]; exact Or.inl rfl
    · have q : ∃ lo hi : Int, (lo = if 5 ≤ k then 1 else 0) ∧ (hi = if k = 5 then 99 else if k = 6 then 719 else p - 1) ∧ 0 ≤ lo ∧ hi ≤ 719 ∧ (k ≤ 2 → hi < p) ∧ (k = 5 → hi ≤ 99) := by
        rcases hk with rfl | rfl | rfl | rfl
        · exact ⟨0, p - 1, rfl, rfl, by omega, by omega, by omega, by omega⟩
        · exact ⟨0, p - 1, rfl, rfl, by omega, by omega, by omega, by omega⟩
        · exact ⟨1, 99, rfl, rfl, by omega, by omega, by omega, by omega⟩
        · exact ⟨1, 719, rfl, rfl, by omega, by omega, by omega, by omega⟩
      obtain ⟨lo, hi, q1, q2, q3, q4, q5, q6⟩ := q
      by_cases e : 0 ≤ tNm lo hi (T j)
      · have b := tNm_b e
        rw [tM33_y q1 q2 rfl e]; exact Or.inr (Or.inr (Or.inr (Or.inr (Or.inr (Or.inr ⟨rfl, ⟨ha, by omega, by omega, fun z => by have := q5 z; omega, fun z => by have := q6 z; omega⟩, h⟩)))))
      · rw [tM33_n q1 q2 rfl e rfl]; exact Or.inl rfl
    · by_cases e : T j = 59
      · rw [tMs_y (Or.inr (Or.inl ⟨rfl, rfl⟩)) e]; exact Or.inr (Or.inr (Or.inl ⟨rfl, h⟩))
      · rw [tMs_n (Or.inr (Or.inl rfl)) e]; exact Or.inl rfl
theorem tIk_s : ∀ {x : tS}, tIk p x → tIk p (tStp T p x)
  | (m, j, w, s, c, d), h => by
    rcases h with rfl | ⟨rfl, h⟩ | ⟨rfl, h⟩ | ⟨rfl, h⟩ | ⟨rfl, ⟨a, rfl, ha⟩, h⟩ | ⟨rfl, ⟨a, rfl, ha⟩, h⟩ | ⟨rfl, h⟩
    · rw [tS0_f]; exact Or.inl rfl
    · rw [tOk_f]; exact Or.inr (Or.inl ⟨rfl, h⟩)
    · by_cases e : T j = 0
      · rw [tMl_e (Or.inr (Or.inr rfl)) e]; exact Or.inr (Or.inl ⟨rfl, h⟩)
      · by_cases e2 : T j = 200
        · by_cases hw : w < 16
          · rw [tMl_l (Or.inr (Or.inr rfl)) e2 hw]; exact Or.inr (Or.inr (Or.inr (Or.inl ⟨by decide, h⟩)))
          · rw [tMl_3 (Or.inr (Or.inr rfl)) e2 hw]; exact Or.inl rfl
        · rw [tMl_1 (Or.inr (Or.inr rfl)) e e2]; exact Or.inl rfl
    · by_cases e : 0 ≤ tNm 0 (p - 1) (T j)
      · have b := tNm_b e
        rw [tM41_y rfl e]; exact Or.inr (Or.inr (Or.inr (Or.inr (Or.inl ⟨rfl, ⟨_, rfl, by omega, by omega⟩, h⟩))))
      · rw [tM41_n rfl e rfl]; exact Or.inl rfl
    · by_cases e : T j = 201
      · rw [tM42_y e]; exact Or.inr (Or.inr (Or.inr (Or.inr (Or.inr (Or.inl ⟨rfl, ⟨a, rfl, ha⟩, h⟩)))))
      · rw [tM42_n e]; exact Or.inl rfl
    · by_cases e2 : T j = 1000 + a
      · rw [tM43_2 e2]; exact Or.inl rfl
      · by_cases e : 0 ≤ tNm 0 (p - 1) (T j)
        · have b := tNm_b e
          rw [tM43_y e2 rfl e]; exact Or.inr (Or.inr (Or.inr (Or.inr (Or.inr (Or.inr ⟨rfl, ⟨ha, by omega, by omega⟩, h⟩)))))
        · rw [tM43_n e2 rfl e rfl]; exact Or.inl rfl
    · by_cases e : T j = 59
      · rw [tMs_y (Or.inr (Or.inr ⟨rfl, rfl⟩)) e]; exact Or.inr (Or.inr (Or.inl ⟨rfl, h⟩))
      · rw [tMs_n (Or.inr (Or.inr rfl)) e]; exact Or.inl rfl
theorem tRe_i {P : tS → Prop} (st : ∀ {x : tS}, P x → P (tStp T p x)) {x y : tS} (h : P x) (r : tRe T p x y) : P y := by
  obtain ⟨n, r⟩ := r
  subst r
  have q : ∀ (n : Nat) (x : tS), P x → P (tIt T p n x) := by
    intro n
    induction n with
    | zero => intro x h; exact h
    | succ n ih => intro x h; exact ih _ (st h)
  exact q n x h
theorem tIb_r {j' v : Int} {c' d' : List Int} (r : tRe T p (20, 0, 0, [], [], []) (1, j', v, [], c', d')) : tGb d' := by
  have h : tIb (1, j', v, [], c', d') := tRe_i (P := tIb) tIb_s (x := (20, 0, 0, [], [], [])) (Or.inr (Or.inr (Or.inl ⟨rfl, True.intro⟩))) r
  rcases h with q | ⟨_, h⟩ | ⟨q, _⟩ | ⟨q, _⟩ | ⟨q, _⟩ | ⟨q, _⟩ | ⟨q, _⟩ | ⟨q, _⟩ <;> first | exact h | exact absurd q (by decide)
theorem tIt2_r (hp : p ≤ 18) {j' v : Int} {c' d' : List Int} (r : tRe T p (30, 0, 0, [], [], []) (1, j', v, [], c', d')) : tGt p d' := by
  have h : tIt2 p (1, j', v, [], c', d') := tRe_i (P := tIt2 p) (tIt2_s hp) (x := (30, 0, 0, [], [], [])) (Or.inr (Or.inr (Or.inl ⟨rfl, True.intro⟩))) r
  rcases h with q | ⟨_, h⟩ | ⟨q, _⟩ | ⟨q, _⟩ | ⟨q, _⟩ | ⟨q, _⟩ | ⟨q, _⟩ <;> first | exact h | exact absurd q (by decide)
theorem tIk_r {j' v : Int} {c' d' : List Int} (r : tRe T p (40, 0, 0, [], [], []) (1, j', v, [], c', d')) : tGk p d' := by
  have h : tIk p (1, j', v, [], c', d') := tRe_i (P := tIk p) tIk_s (x := (40, 0, 0, [], [], [])) (Or.inr (Or.inr (Or.inl ⟨rfl, True.intro⟩))) r
  rcases h with q | ⟨_, h⟩ | ⟨q, _⟩ | ⟨q, _⟩ | ⟨q, _⟩ | ⟨q, _⟩ | ⟨q, _⟩ <;> first | exact h | exact absurd q (by decide)
end TJ
/-- line by line -/
theorem tGd_l {c : List Int} : ∀ {d : List Int} {n : Nat}, tGd c d → (d.length : Int) = 4 * n → ∀ l, 0 ≤ l → l < (n : Int) → tLn c (fRv d (4 * l + 1)) (fRv d (4 * l + 2)) (fRv d (4 * l + 3))
  | [], n, _, e, l, p, q => by exfalso; simp only [List.length_nil] at e; omega
  | st :: wh :: fr :: wd :: d, n, h, e, l, p, q => by
    simp only [List.length_cons] at e
    obtain ⟨m, rfl⟩ : ∃ m : Nat, n = m + 1 := ⟨n - 1, by omega⟩
    by_cases y : 4 * l < d.length
    · rw [fRv_4 (by omega), fRv_4 (by omega), fRv_4 (by omega)]
      exact tGd_l h.2 (n := m) (by omega) l p (by omega)
    · rw [fRv_x (by simp only [List.length_cons]; omega), fRv_x (by simp only [List.length_cons]; omega), fRv_h (x := fr) (by simp only [List.length_cons]; omega), fRv_x (by simp only [List.length_cons]; omega), fRv_h (x := wh) (by simp only [List.length_cons]; omega), fRv_h (x := st) (by simp only [List.length_cons]; omega)]
      exact h.1.2
  | [_], n, h, _, _, _, _ => h.elim
  | [_, _], n, h, _, _, _, _ => h.elim
  | [_, _, _], n, h, _, _, _, _ => h.elim
theorem tGb_l : ∀ {d : List Int} {n : Nat}, tGb d → (d.length : Int) = 3 * n → ∀ l, 0 ≤ l → l < (n : Int) → (0 ≤ fRv d (3 * l) ∧ fRv d (3 * l) ≤ 999) ∧ (1 ≤ fRv d (3 * l + 1) ∧ fRv d (3 * l + 1) ≤ 18) ∧ (fRv d (3 * l + 2) = 2 ∨ fRv d (3 * l + 2) = 3)
  | [], n, _, e, l, p, q => by exfalso; simp only [List.length_nil] at e; omega
  | wh :: st :: da :: d, n, h, e, l, p, q => by
    simp only [List.length_cons] at e
    obtain ⟨m, rfl⟩ : ∃ m : Nat, n = m + 1 := ⟨n - 1, by omega⟩
    by_cases y : 3 * l < d.length
    · rw [fRv_3 (by omega), fRv_3 (by omega), fRv_3 (by omega)]
      exact tGb_l h.2 (n := m) (by omega) l p (by omega)
    · rw [fRv_x (by simp only [List.length_cons]; omega), fRv_x (by simp only [List.length_cons]; omega), fRv_h (x := da) (by omega), fRv_x (by simp only [List.length_cons]; omega), fRv_h (x := st) (by simp only [List.length_cons]; omega), fRv_h (x := wh) (by simp only [List.length_cons]; omega)]
      exact h.1
  | [_], n, h, _, _, _, _ => h.elim
  | [_, _], n, h, _, _, _, _ => h.elim
theorem tGt_l {p' : Int} : ∀ {d : List Int} {n : Nat}, tGt p' d → (d.length : Int) = 3 * n → ∀ l, 0 ≤ l → l < (n : Int) → (0 ≤ fRv d (3 * l) ∧ fRv d (3 * l) ≤ 999) ∧ (1 ≤ fRv d (3 * l + 1) ∧ fRv d (3 * l + 1) ≤ 6) ∧ (0 ≤ fRv d (3 * l + 2) ∧ fRv d (3 * l + 2) ≤ 719) ∧ (fRv d (3 * l + 1) ≤ 2 → fRv d (3 * l + 2) < p') ∧ (fRv d (3 * l + 1) = 5 → fRv d (3 * l + 2) ≤ 99)
  | [], n, _, e, l, p, q => by exfalso; simp only [List.length_nil] at e; omega
  | nn :: k :: da :: d, n, h, e, l, p, q => by
    simp only [List.length_cons] at e
    obtain ⟨m, rfl⟩ : ∃ m : Nat, n = m + 1 := ⟨n - 1, by omega⟩
    by_cases y : 3 * l < d.length
    · rw [fRv_3 (by omega), fRv_3 (by omega), fRv_3 (by omega)]
      exact tGt_l h.2 (n := m) (by omega) l p (by omega)
    · rw [fRv_x (by simp only [List.length_cons]; omega), fRv_x (by simp only [List.length_cons]; omega), fRv_h (x := da) (by omega), fRv_x (by simp only [List.length_cons]; omega), fRv_h (x := k) (by simp only [List.length_cons]; omega), fRv_h (x := nn) (by simp only [List.length_cons]; omega)]
      exact h.1
  | [_], n, h, _, _, _, _ => h.elim
  | [_, _], n, h, _, _, _, _ => h.elim
theorem zor_sb {x o p : Int} (hp : p ≤ 18) (ho : 0 ≤ o ∧ o < p) (hx : ∀ k : Nat, p ≤ (k : Int) → fgb x k = false) : (0 ≤ zor x (zshl 1 o) ∧ zor x (zshl 1 o) < 262144) ∧ ∀ k : Nat, p ≤ (k : Int) → fgb (zor x (zshl 1 o)) k = false := by
  have b : ∀ k : Nat, p ≤ (k : Int) → fgb (zor x (zshl 1 o)) k = false := fun k hk => by
    rw [fgb_set x (by omega) k, hx k hk, decide_eq_false (by omega)]; rfl
  have z := zor_in x (zshl 1 o)
  exact ⟨fgb_k 18 (by decide) z (fun i a c => b i (by omega)), b⟩
theorem tKs_k {p : Int} (hp : p ≤ 18) : ∀ {d : List Int}, tGk p d → ∀ i, (0 ≤ tKs d i ∧ tKs d i < 262144) ∧ ∀ k : Nat, p ≤ (k : Int) → fgb (tKs d i) k = false
  | [], _, i => ⟨by show (0 : Int) ≤ 0 ∧ (0 : Int) < 262144; decide, fun k _ => fgb_0 k⟩
  | b :: a :: d, h, i => by
    have z := tKs_k hp h.2 i
    have y : (0 ≤ (if i = a then zor (tKs d i) (zshl 1 b) else tKs d i) ∧ (if i = a then zor (tKs d i) (zshl 1 b) else tKs d i) < 262144) ∧ ∀ k : Nat, p ≤ (k : Int) → fgb (if i = a then zor (tKs d i) (zshl 1 b) else tKs d i) k = false := by
      by_cases e : i = a
      · rw [if_pos e]; exact zor_sb hp h.1.2 z.2
      · rw [if_neg e]; exact z
    show (0 ≤ (if i = b then zor (if i = a then zor (tKs d i) (zshl 1 b) else tKs d i) (zshl 1 a) else (if i = a then zor (tKs d i) (zshl 1 b) else tKs d i)) ∧ (if i = b then zor (if i = a then zor (tKs d i) (zshl 1 b) else tKs d i) (zshl 1 a) else (if i = a then zor (tKs d i) (zshl 1 b) else tKs d i)) < 262144) ∧ ∀ k : Nat, p ≤ (k : Int) → fgb (if i = b then zor (if i = a then zor (tKs d i) (zshl 1 b) else tKs d i) (zshl 1 a) else (if i = a then zor (tKs d i) (zshl 1 b) else tKs d i)) k = false
    by_cases e : i = b
    · rw [if_pos e]; exact zor_sb hp h.1.1 y.2
    · rw [if_neg e]; exact y
  | [_], h, i => h.elim
/-- they are well-formed -/
theorem fWE_t0 {E : fE} {c d : List Int} {v : Int} (h : fWE E) (hv : 0 ≤ v ∧ v ≤ 16) (hc : c.length ≤ 400) (g : tGd c d) (hd : (d.length : Int) = 4 * v) : fWE (fTx0 E v c d) := by
  obtain ⟨a1, a2, a3, a4, a5, a6⟩ := h
  refine ⟨a1, a2, a3, ⟨hv, ?_, fun l p q => ?_⟩, a5, a6⟩
  · show (0 : Int) ≤ (c.length : Int) ∧ (c.length : Int) ≤ 400
    omega
  · have q' : l < v := q
    obtain ⟨⟨t1, t2, t3, t4⟩, t5, t6⟩ := tGd_l g (n := v.toNat) (by omega) l p (by omega)
    have e1 : tSk (fRv c) (fRv d (4 * l + 2)).toNat = fsg c (fRv d (4 * l + 2)).toNat := fRv_g c _ (by omega)
    have e2 : tSk (fRv c) (fRv d (4 * l + 3)).toNat = fsg c (fRv d (4 * l + 3)).toNat := fRv_g c _ (by omega)
    refine ⟨⟨t1, t2, t3, t4⟩, ?_, ?_⟩
    · show fTy (tSk (fRv c) (fRv d (4 * l + 2)).toNat) (fRv d (4 * l + 2) - fRv d (4 * l + 1)).toNat = some [false]
      rw [e1]; exact t5
    · rcases t6 with t6 | t6
      · exact Or.inl t6
      · refine Or.inr ?_
        show fTy (tSk (fRv c) (fRv d (4 * l + 3)).toNat) (fRv d (4 * l + 3) - fRv d (4 * l + 2)).toNat = some [true]
        rw [e2]; exact t6
theorem fWE_t1 {E : fE} {d : List Int} {v : Int} (h : fWE E) (hv : 0 ≤ v ∧ v ≤ 16) (g : tGb d) (hd : (d.length : Int) = 3 * v) : fWE (fTx1 E v d) := by
  obtain ⟨a1, a2, a3, a4, a5, a6⟩ := h
  refine ⟨a1, a2, a3, a4, ⟨hv, fun l p q => ?_⟩, a6⟩
  have q' : l < v := q
  have z := tGb_l g (n := v.toNat) (by omega) l p (by omega)
  show (0 ≤ fRv d (3 * l + 1) ∧ fRv d (3 * l + 1) ≤ 18) ∧ fRv d (3 * l) ≤ 999
  omega
theorem fWE_t2 {E : fE} {d : List Int} {v : Int} (h : fWE E) (hv : 0 ≤ v ∧ v ≤ 16) (g : tGt E.n d) (hd : (d.length : Int) = 3 * v) : fWE (fTx2 E v d) := by
  obtain ⟨a1, a2, a3, a4, a5, a6⟩ := h
  refine ⟨a1, a2, a3, a4, a5, ⟨hv, fun l p q => ?_⟩⟩
  have q' : l < v := q
  obtain ⟨z1, z2, z3, z4, z5⟩ := tGt_l g (n := v.toNat) (by omega) l p (by omega)
  show (0 ≤ fRv d (3 * l + 1) - 1 ∧ fRv d (3 * l + 1) - 1 ≤ 5) ∧ (0 ≤ fRv d (3 * l + 2) ∧ fRv d (3 * l + 2) ≤ 719) ∧ (fRv d (3 * l + 1) - 1 ≤ 1 → fRv d (3 * l + 2) < E.n) ∧ (fRv d (3 * l + 1) - 1 = 4 → fRv d (3 * l + 2) ≤ 99)
  exact ⟨by omega, z3, fun y => z4 (by omega), fun y => z5 (by omega)⟩
theorem fWE_t3 {E : fE} {d : List Int} {v : Int} (h : fWE E) (g : tGk E.n d) : fWE (fTx3 E v d) := by
  obtain ⟨a1, a2, a3, a4, a5, a6⟩ := h
  exact ⟨a1, a2, fun i p q => tKs_k a1.2 g i, a4, a5, a6⟩
/-- the class's world behind a text -/
theorem xC_t0 {h m k : zM} {E : fE} {x : fS} (t : xC h 1 E false x) (o : ∀ a b, zD 1 a b → ¬ (6 ≤ a ∧ a ≤ 12) → k.2 a b = h.2 a b) (e6 : k.2 6 6 = m.2 74 6) (r : ∀ i j, 1 ≤ i → i ≤ 4 → 0 ≤ j → j < 16 → k.2 (6 + i) j = m.2 (74 + i) j) (cd : ∀ j, 0 ≤ j → j < 400 → k.2 11 j = m.2 79 j) (l : 0 ≤ m.2 74 7 ∧ m.2 74 7 ≤ 400) (hv : 0 ≤ m.2 74 6 ∧ m.2 74 6 ≤ 16) (g : tGd (tCd m 74) (tD4 m 74 (m.2 74 6).toNat)) : xC k 1 (fTx0 E (m.2 74 6) (tCd m 74) (tD4 m 74 (m.2 74 6).toNat)) false x := by
  obtain ⟨t1, t2, t3, ⟨⟨a1, a2, a3⟩, b, c, d⟩, t5⟩ := t
  have ff := tD4_f m 74 (m.2 74 6).toNat
  have le : ((m.2 74 6).toNat : Int) = m.2 74 6 := by omega
  have lc : ((tCd m 74).length : Int) = m.2 74 7 := tCd_l l.1
  have z : ∀ i b, 1 ≤ i → i ≤ 26 → ¬ (5 ≤ i ∧ i ≤ 11) → k.2 (1 + i) b = h.2 (1 + i) b := fun i b z1 z2 z3 => o (1 + i) b (by unfold zD; omega) (by omega)
  refine ⟨fWE_t0 t1 hv (by omega) g (by rw [ff.1, le]), t2, zRi_f (fun a b p q => o a b (by unfold zD; omega) (by omega)) t3, ⟨⟨e6, fun i p q => ?_, fun i p q => ?_⟩, ⟨?_, fun i p q => ?_⟩, ⟨?_, fun i p q => ?_⟩, ⟨?_, fun i p q => ?_⟩⟩, fun w => zBk_f (fun a b p q => o a b (by unfold zD; omega) (by omega)) (t5 w)⟩
  · have q' : i < m.2 74 6 := q
    obtain ⟨f1, f2, f3, f4⟩ := ff.2 i p (by omega)
    refine ⟨?_, ?_, ?_, ?_⟩
    · exact (r 1 i (by decide) (by decide) p (by omega)).trans f1.symm
    · exact (r 2 i (by decide) (by decide) p (by omega)).trans f2.symm
    · exact (r 3 i (by decide) (by decide) p (by omega)).trans f3.symm
    · exact (r 4 i (by decide) (by decide) p (by omega)).trans f4.symm
  · have q' : i < ((tCd m 74).length : Int) := q
    show k.2 11 i = fRv (tCd m 74) i
    rw [cd i p (by omega)]
    exact (fRv_s (m.2 79) (m.2 74 7).toNat i p (by omega)).symm
  · rw [z 12 3 (by decide) (by decide) (by decide)]; exact b.1
  · rw [z 13 i (by decide) (by decide) (by decide), z 14 i (by decide) (by decide) (by decide), z 15 i (by decide) (by decide) (by decide)]; exact b.2 i p q
  · rw [z 16 3 (by decide) (by decide) (by decide)]; exact c.1
  · rw [z 17 i (by decide) (by decide) (by decide), z 18 i (by decide) (by decide) (by decide), z 19 i (by decide) (by decide) (by decide)]; exact c.2 i p q
  · rw [z 20 1 (by decide) (by decide) (by decide)]; exact d.1
  · rw [z 21 i (by decide) (by decide) (by decide)]; exact d.2 i p q
theorem xC_t1 {h m k : zM} {E : fE} {x : fS} (t : xC h 1 E false x) (o : ∀ a b, zD 1 a b → ¬ (13 ≤ a ∧ a ≤ 16) → k.2 a b = h.2 a b) (e3 : k.2 13 3 = m.2 81 3) (r : ∀ i j, 1 ≤ i → i ≤ 3 → 0 ≤ j → j < 16 → k.2 (13 + i) j = m.2 (81 + i) j) (hv : 0 ≤ m.2 81 3 ∧ m.2 81 3 ≤ 16) (g : tGb (tP3 m 81 2 3 1 (m.2 81 3).toNat)) : xC k 1 (fTx1 E (m.2 81 3) (tP3 m 81 2 3 1 (m.2 81 3).toNat)) false x := by
  obtain ⟨t1, t2, t3, ⟨⟨a1, a2, a3⟩, b, c, d⟩, t5⟩ := t
  have ff := tP3_f m 81 2 3 1 (m.2 81 3).toNat
  have le : ((m.2 81 3).toNat : Int) = m.2 81 3 := by omega
  have n := t1.2.2.2.1
  have z : ∀ i b, 1 ≤ i → i ≤ 26 → ¬ i = 11 → ¬ (12 ≤ i ∧ i ≤ 15) → k.2 (1 + i) b = h.2 (1 + i) b := fun i b z1 z2 z3 z4 => o (1 + i) b (by unfold zD; omega) (by omega)
  refine ⟨fWE_t1 t1 hv g (by rw [ff.1, le]), t2, zRi_f (fun a b p q => o a b (by unfold zD; omega) (by omega)) t3, ⟨⟨?_, fun i p q => ?_, fun i p q => ?_⟩, ⟨e3, fun i p q => ?_⟩, ⟨?_, fun i p q => ?_⟩, ⟨?_, fun i p q => ?_⟩⟩, fun w => zBk_f (fun a b p q => o a b (by unfold zD; omega) (by omega)) (t5 w)⟩
  · rw [z 5 6 (by decide) (by decide) (by decide) (by decide)]; exact a1
  · rw [z 6 i (by decide) (by decide) (by decide) (by decide), z 7 i (by decide) (by decide) (by decide) (by decide), z 8 i (by decide) (by decide) (by decide) (by decide), z 9 i (by decide) (by decide) (by decide) (by decide)]; exact a2 i p q
  · rw [z 10 i (by decide) (by decide) (by decide) (by decide)]; exact a3 i p q
  · have q' : i < m.2 81 3 := q
    obtain ⟨f1, f2, f3⟩ := ff.2 i p (by omega)
    have gg := (tGb_l g (n := (m.2 81 3).toNat) (by rw [ff.1]) i p (by omega)).2.2
    have r1 : k.2 14 i = m.2 82 i := r 1 i (by decide) (by decide) p (by omega)
    have r2 : k.2 15 i = m.2 83 i := r 2 i (by decide) (by decide) p (by omega)
    have r3 : k.2 16 i = m.2 84 i := r 3 i (by decide) (by decide) p (by omega)
    have g1 : fRv (tP3 m 81 2 3 1 (m.2 81 3).toNat) (3 * i) = m.2 82 i := f1
    have g2 : fRv (tP3 m 81 2 3 1 (m.2 81 3).toNat) (3 * i + 1) = m.2 84 i := f2
    have g3 : fRv (tP3 m 81 2 3 1 (m.2 81 3).toNat) (3 * i + 2) = m.2 83 i := f3
    show k.2 14 i = fRv (tP3 m 81 2 3 1 (m.2 81 3).toNat) (3 * i) ∧ k.2 16 i = fRv (tP3 m 81 2 3 1 (m.2 81 3).toNat) (3 * i + 1) ∧ ((3 - fRv (tP3 m 81 2 3 1 (m.2 81 3).toNat) (3 * i + 2) = 1 ∧ k.2 15 i = 2) ∨ (¬ 3 - fRv (tP3 m 81 2 3 1 (m.2 81 3).toNat) (3 * i + 2) = 1 ∧ k.2 15 i = 3))
    rw [g3] at gg
    rw [g1, g2, g3, r1, r2, r3]
    exact ⟨rfl, rfl, by omega⟩
  · rw [z 16 3 (by decide) (by decide) (by decide) (by decide)]; exact c.1
  · rw [z 17 i (by decide) (by decide) (by decide) (by decide), z 18 i (by decide) (by decide) (by decide) (by decide), z 19 i (by decide) (by decide) (by decide) (by decide)]; exact c.2 i p q
  · rw [z 20 1 (by decide) (by decide) (by decide) (by decide)]; exact d.1
  · rw [z 21 i (by decide) (by decide) (by decide) (by decide)]; exact d.2 i p q
theorem xC_t2 {h m k : zM} {E : fE} {x : fS} (t : xC h 1 E false x) (o : ∀ a b, zD 1 a b → ¬ (17 ≤ a ∧ a ≤ 20) → k.2 a b = h.2 a b) (e3 : k.2 17 3 = m.2 85 3) (r : ∀ i j, 1 ≤ i → i ≤ 3 → 0 ≤ j → j < 16 → k.2 (17 + i) j = m.2 (85 + i) j) (hv : 0 ≤ m.2 85 3 ∧ m.2 85 3 ≤ 16) (g : tGt E.n (tP3 m 85 3 2 1 (m.2 85 3).toNat)) : xC k 1 (fTx2 E (m.2 85 3) (tP3 m 85 3 2 1 (m.2 85 3).toNat)) false x := by
  obtain ⟨t1, t2, t3, ⟨⟨a1, a2, a3⟩, b, c, d⟩, t5⟩ := t
  have ff := tP3_f m 85 3 2 1 (m.2 85 3).toNat
  have le : ((m.2 85 3).toNat : Int) = m.2 85 3 := by omega
  have z : ∀ i b, 1 ≤ i → i ≤ 26 → ¬ i = 11 → ¬ (16 ≤ i ∧ i ≤ 19) → k.2 (1 + i) b = h.2 (1 + i) b := fun i b z1 z2 z3 z4 => o (1 + i) b (by unfold zD; omega) (by omega)
  refine ⟨fWE_t2 t1 hv g (by rw [ff.1, le]), t2, zRi_f (fun a b p q => o a b (by unfold zD; omega) (by omega)) t3, ⟨⟨?_, fun i p q => ?_, fun i p q => ?_⟩, ⟨?_, fun i p q => ?_⟩, ⟨e3, fun i p q => ?_⟩, ⟨?_, fun i p q => ?_⟩⟩, fun w => zBk_f (fun a b p q => o a b (by unfold zD; omega) (by omega)) (t5 w)⟩
  · rw [z 5 6 (by decide) (by decide) (by decide) (by decide)]; exact a1
  · rw [z 6 i (by decide) (by decide) (by decide) (by decide), z 7 i (by decide) (by decide) (by decide) (by decide), z 8 i (by decide) (by decide) (by decide) (by decide), z 9 i (by decide) (by decide) (by decide) (by decide)]; exact a2 i p q
  · rw [z 10 i (by decide) (by decide) (by decide) (by decide)]; exact a3 i p q
  · rw [z 12 3 (by decide) (by decide) (by decide) (by decide)]; exact b.1
  · rw [z 13 i (by decide) (by decide) (by decide) (by decide), z 14 i (by decide) (by decide) (by decide) (by decide), z 15 i (by decide) (by decide) (by decide) (by decide)]; exact b.2 i p q
  · have q' : i < m.2 85 3 := q
    obtain ⟨f1, f2, f3⟩ := ff.2 i p (by omega)
    have r1 : k.2 18 i = m.2 86 i := r 1 i (by decide) (by decide) p (by omega)
    have r2 : k.2 19 i = m.2 87 i := r 2 i (by decide) (by decide) p (by omega)
    have r3 : k.2 20 i = m.2 88 i := r 3 i (by decide) (by decide) p (by omega)
    have g1 : fRv (tP3 m 85 3 2 1 (m.2 85 3).toNat) (3 * i) = m.2 86 i := f1
    have g2 : fRv (tP3 m 85 3 2 1 (m.2 85 3).toNat) (3 * i + 1) = m.2 87 i := f2
    have g3 : fRv (tP3 m 85 3 2 1 (m.2 85 3).toNat) (3 * i + 2) = m.2 88 i := f3
    show k.2 18 i = fRv (tP3 m 85 3 2 1 (m.2 85 3).toNat) (3 * i) ∧ k.2 19 i = fRv (tP3 m 85 3 2 1 (m.2 85 3).toNat) (3 * i + 1) - 1 + 1 ∧ k.2 20 i = fRv (tP3 m 85 3 2 1 (m.2 85 3).toNat) (3 * i + 2)
    rw [g1, g2, g3, r1, r2, r3]
    exact ⟨rfl, by omega, rfl⟩
  · rw [z 20 1 (by decide) (by decide) (by decide) (by decide)]; exact d.1
  · rw [z 21 i (by decide) (by decide) (by decide) (by decide)]; exact d.2 i p q
theorem xC_t3 {h k : zM} {E : fE} {x : fS} {v : Int} {dd : List Int} (t : xC h 1 E false x) (o : ∀ a b, zD 1 a b → ¬ (21 ≤ a ∧ a ≤ 22) → k.2 a b = h.2 a b) (e3 : k.2 21 1 = v) (r : ∀ j, 0 ≤ j → j < 18 → k.2 22 j = tKs dd j) (g : tGk E.n dd) : xC k 1 (fTx3 E v dd) false x := by
  obtain ⟨t1, t2, t3, ⟨⟨a1, a2, a3⟩, b, c, d⟩, t5⟩ := t
  have z : ∀ i b, 1 ≤ i → i ≤ 26 → ¬ i = 11 → ¬ (20 ≤ i ∧ i ≤ 21) → k.2 (1 + i) b = h.2 (1 + i) b := fun i b z1 z2 z3 z4 => o (1 + i) b (by unfold zD; omega) (by omega)
  refine ⟨fWE_t3 t1 g, t2, zRi_f (fun a b p q => o a b (by unfold zD; omega) (by omega)) t3, ⟨⟨?_, fun i p q => ?_, fun i p q => ?_⟩, ⟨?_, fun i p q => ?_⟩, ⟨?_, fun i p q => ?_⟩, ⟨e3, fun i p q => r i p q⟩⟩, fun w => zBk_f (fun a b p q => o a b (by unfold zD; omega) (by omega)) (t5 w)⟩
  · rw [z 5 6 (by decide) (by decide) (by decide) (by decide)]; exact a1
  · rw [z 6 i (by decide) (by decide) (by decide) (by decide), z 7 i (by decide) (by decide) (by decide) (by decide), z 8 i (by decide) (by decide) (by decide) (by decide), z 9 i (by decide) (by decide) (by decide) (by decide)]; exact a2 i p q
  · rw [z 10 i (by decide) (by decide) (by decide) (by decide)]; exact a3 i p q
  · rw [z 12 3 (by decide) (by decide) (by decide) (by decide)]; exact b.1
  · rw [z 13 i (by decide) (by decide) (by decide) (by decide), z 14 i (by decide) (by decide) (by decide) (by decide), z 15 i (by decide) (by decide) (by decide) (by decide)]; exact b.2 i p q
  · rw [z 16 3 (by decide) (by decide) (by decide) (by decide)]; exact c.1
  · rw [z 17 i (by decide) (by decide) (by decide) (by decide), z 18 i (by decide) (by decide) (by decide) (by decide), z 19 i (by decide) (by decide) (by decide) (by decide)]; exact c.2 i p q
/-- the state behind a text -/
def pTx (k v : Int) (c d : List Int) (z : fZ) : fZ := (fTx k z.e v c d, z.x, if k = 1 ∨ k = 2 then 0 else z.u, z.q, z.g, z.f, z.y)
def tXo (k : Int) (T P : Int → Int) (z : fZ) (v f g : Int) (K : fZ → Prop) : Prop := (∃ j c d, tRe T (tTp k z.e.n) (tTm k, 0, 0, [], [], []) (1, j, v, [], c, d) ∧ 0 ≤ v ∧ f = 0 ∧ g = -1 ∧ K (pTx k v c d z)) ∨ (∃ i f', tRe T (tTp k z.e.n) (tTm k, 0, 0, [], [], []) (tEr i f') ∧ v = -1 ∧ f = f' ∧ g = P i ∧ K z)
def tXT (k : Int) (z : fZ) (B : Int → Int) (n v f g : Int) (K : fZ → Prop) : Prop := (¬ (0 ≤ k ∧ k ≤ 3) → v = -1 ∧ f = 0 ∧ g = -1 ∧ K z) ∧ ((0 ≤ k ∧ k ≤ 3) → ∃ T P c, tCk (tTi k) B n T P c ∧ (∀ j, T j ≤ 10999) ∧ tXo k T P z v f g K)
def tXM (k : Int) (z : fZ) (B : Int → Int) (n v f g : Int) (K : fZ → Prop) : Prop := (¬ (0 ≤ k ∧ k ≤ 3) → v = -1 ∧ f = 0 ∧ g = -1 ∧ K z) ∧ ((0 ≤ k ∧ k ≤ 3) → ∀ T, (∀ (j : Nat) q, tQ B n j q → tC (tTi k) B n q (T j)) → (∀ j, T j ≤ 10999) → (0 ≤ v ∧ f = 0 ∧ g = -1 ∧ ∃ j c d, tRe T (tTp k z.e.n) (tTm k, 0, 0, [], [], []) (1, j, v, [], c, d) ∧ K (pTx k v c d z)) ∨ (v = -1 ∧ ∃ i f', (f = f' ∧ 0 ≤ i ∧ tQ B n i.toNat g) ∧ tRe T (tTp k z.e.n) (tTm k, 0, 0, [], [], []) (tEr i f') ∧ K z))
theorem tXT_y {k : Int} {z : fZ} {B : Int → Int} {n v f g : Int} {K : fZ → Prop} {i : Nat} {m p' : Int} (hk : (k = 0 ∧ i = 0 ∧ m = 2 ∧ p' = 0) ∨ (k = 1 ∧ i = 2 ∧ m = 20 ∧ p' = 0) ∨ (k = 2 ∧ i = 3 ∧ m = 30 ∧ p' = z.e.n) ∨ (k = 3 ∧ i = 4 ∧ m = 40 ∧ p' = z.e.n)) (x : ∃ T P c, tCk i B n T P c ∧ (∀ j, T j ≤ 10999) ∧ ((∃ j c d, tRe T p' (m, 0, 0, [], [], []) (1, j, v, [], c, d) ∧ 0 ≤ v ∧ f = 0 ∧ g = -1 ∧ K (pTx k v c d z)) ∨ (∃ i f', tRe T p' (m, 0, 0, [], [], []) (tEr i f') ∧ v = -1 ∧ f = f' ∧ g = P i ∧ K z))) : tXT k z B n v f g K := by
  rcases hk with ⟨rfl, rfl, rfl, rfl⟩ | ⟨rfl, rfl, rfl, rfl⟩ | ⟨rfl, rfl, rfl, rfl⟩ | ⟨rfl, rfl, rfl, rfl⟩
  · exact ⟨fun z => absurd (by omega) z, fun _ => x⟩
  · exact ⟨fun z => absurd (by omega) z, fun _ => x⟩
  · exact ⟨fun z => absurd (by omega) z, fun _ => x⟩
  · exact ⟨fun z => absurd (by omega) z, fun _ => x⟩
/-- both worlds' -/
theorem tXT_u {k : Int} {z : fZ} {B B' : Int → Int} {n v f g v' f' g' : Int} {K K' : fZ → Prop} (x : ∀ i, 0 ≤ i → i < n → B' i = B i) (c : tXT k z B n v f g K) (m : tXM k z B' n v' f' g' K') : v = v' ∧ f = f' ∧ g = g' ∧ ∃ z', K z' ∧ K' z' ∧ z'.x = z.x ∧ (z'.u = z.u ∨ z'.u = 0) ∧ z'.q = z.q ∧ z'.g = z.g ∧ z'.y = z.y := by
  by_cases hk : 0 ≤ k ∧ k ≤ 3
  · obtain ⟨T, P, cn, ck, tb, co⟩ := c.2 hk
    have x' : ∀ i, 0 ≤ i → i < n → B i = B' i := fun i a b => (x i a b).symm
    have mo := m.2 hk T (fun j q tq => by
      have tq' := tQ_x (B := B') (B' := B) x' j q tq
      have h := tCk_q ck j q tq'
      exact tC_x (B := B) (B' := B') (tQ_b j q tq).1 x h.2.2) tb
    rcases co with ⟨j, cc, dd, c1, c2, c3, c4, c5⟩ | ⟨i, fc, c1, c2, c3, c4, c5⟩
    · rcases mo with ⟨m0, m1, m2, j', cc', dd', m3, m4⟩ | ⟨m0, i', fm, m1, m2, m3⟩
      · have d := tRe_d c1 m3 (tOk_f _ _ _ _ _) (tOk_f _ _ _ _ _)
        have e1 : v = v' := congrArg (fun (y : tS) => y.2.2.1) d
        have e2 : cc = cc' := congrArg (fun (y : tS) => y.2.2.2.2.1) d
        have e3 : dd = dd' := congrArg (fun (y : tS) => y.2.2.2.2.2) d
        rw [← e1, ← e2, ← e3] at m4
        refine ⟨e1, by omega, by omega, _, c5, m4, rfl, ?_, rfl, rfl, rfl⟩
        show (if k = 1 ∨ k = 2 then 0 else z.u) = z.u ∨ (if k = 1 ∨ k = 2 then 0 else z.u) = 0
        by_cases y : k = 1 ∨ k = 2
        · rw [if_pos y]; exact Or.inr rfl
        · rw [if_neg y]; exact Or.inl rfl
      · have d := tRe_d c1 m2 (tOk_f _ _ _ _ _) (tEr_f _ _)
        have e : (1 : Int) = 0 := congrArg (fun (y : tS) => y.1) d
        exact absurd e (by decide)
    · rcases mo with ⟨m0, m1, m2, j', cc', dd', m3, m4⟩ | ⟨m0, i', fm, m1, m2, m3⟩
      · have d := tRe_d c1 m3 (tEr_f _ _) (tOk_f _ _ _ _ _)
        have e : (0 : Int) = 1 := congrArg (fun (y : tS) => y.1) d
        exact absurd e (by decide)
      · have d := tRe_d c1 m2 (tEr_f _ _) (tEr_f _ _)
        have e1 : i = i' := congrArg (fun (y : tS) => y.2.1) d
        have e2 : fc = fm := congrArg (fun (y : tS) => y.2.2.1) d
        have q := tCk_q ck i'.toNat g' (tQ_x (B := B') (B' := B) x' _ _ m1.2.2)
        have q1 := q.2.1
        rw [Int.toNat_of_nonneg m1.2.1, ← e1] at q1
        have m11 := m1.1
        exact ⟨by omega, by omega, by omega, z, c5, m3, rfl, Or.inl rfl, rfl, rfl, rfl⟩
  · obtain ⟨a1, a2, a3, a4⟩ := c.1 hk
    obtain ⟨b1, b2, b3, b4⟩ := m.1 hk
    exact ⟨by omega, by omega, by omega, z, a4, b4, rfl, Or.inl rfl, rfl, rfl, rfl⟩
/-- the class's state behind a text -/
theorem xK_t0 {h k : zM} {z : fZ} {E : fE} (s : okC h) (t : xK h z) (c : xC k 1 E false z.x) (hn : E.n = z.e.n) (hw : ∀ i, 0 ≤ i → i < 18 → E.wt i = z.e.wt i ∧ E.lg i = z.e.lg i) (e8 : k.2 0 8 = h.2 0 8) (e9 : k.2 0 9 = h.2 0 9) (e35 : ∀ a b, zD 35 a b → k.2 a b = h.2 a b) (e : ∀ a b, 114 ≤ a → a ≤ 139 → k.2 a b = h.2 a b) : xK k (E, z.x, z.u, z.q, z.g, z.f, z.y) :=
  ⟨c, xP_E (xP_f s t.2.1 e8 e) hn hw, e9.trans t.2.2.1, fun q => xC_f (t.2.2.2 q) e35⟩
/-! ===== all codes of a law that was read are codes ===== -/
def tPc (x : tS) : Prop := ∀ e ∈ x.2.2.2.2.1, 0 ≤ e
theorem tPs_c {x : Int} {l : List Int} (hx : 0 ≤ x) (h : ∀ e ∈ l, 0 ≤ e) : ∀ e ∈ x :: l, 0 ≤ e := fun e he => by
  rcases List.mem_cons.mp he with q | q
  · rw [q]; exact hx
  · exact h e q
theorem tPs_0 : ∀ e ∈ ([] : List Int), (0 : Int) ≤ e := fun e he => absurd he (by simp)
theorem tPs_e (j f : Int) : tPc (tEr j f) := tPs_0
theorem tPc_if {P : Prop} [Decidable P] {a b : tS} (ha : P → tPc a) (hb : ¬ P → tPc b) : tPc (if P then a else b) := by
  by_cases h : P
  · rw [if_pos h]; exact ha h
  · rw [if_neg h]; exact hb h
theorem tPs_w {w : Int} {c : List Int} (hw : 0 ≤ w) (hc : ∀ e ∈ c, 0 ≤ e) : ∀ e ∈ tWt w c, 0 ≤ e := by
  unfold tWt
  by_cases e : w = 0
  · rw [if_pos e]; exact hc
  · rw [if_neg e]; exact tPs_c (by omega) hc
section TP9
variable {T : Int → Int} {p j w m : Int} {s c d : List Int}
theorem tPs_s (h3 : (m = 3 ∨ m = 4) → 0 ≤ w) (h5 : m = 5 → 0 ≤ tHd s) (hc : ∀ e ∈ c, 0 ≤ e) : tPc (tStp T p (m, j, w, s, c, d)) := by
  unfold tStp
  dsimp only
  repeat' (first | refine tPc_if (fun z => ?_) (fun z => ?_) | exact tPs_e _ _ | exact hc)
  all_goals first | exact tPs_c (by omega) hc | exact tPs_w (by omega) hc | exact tPs_c (by omega) (tPs_c (by omega) hc) | skip
theorem tInv_35 (h : tInv (m, j, w, s, c, d)) : ((m = 3 ∨ m = 4) → 0 ≤ w) ∧ (m = 5 → 0 ≤ tHd s) := by
  rcases h with rfl | ⟨rfl, _⟩ | ⟨rfl, _⟩ | ⟨rfl, hw, _⟩ | ⟨rfl, hw, _⟩ | ⟨rfl, t, hc, _⟩ | ⟨rfl, _⟩ | ⟨rfl, _⟩ | ⟨rfl, _⟩ | ⟨rfl, _⟩ | ⟨rfl, _⟩
  · exact ⟨fun z => absurd z (by decide), fun z => absurd z (by decide)⟩
  · exact ⟨fun z => absurd z (by decide), fun z => absurd z (by decide)⟩
  · exact ⟨fun z => absurd z (by decide), fun z => absurd z (by decide)⟩
  · unfold tWo at hw; exact ⟨fun _ => by omega, fun z => absurd z (by decide)⟩
  · unfold tWo at hw; exact ⟨fun _ => by omega, fun z => absurd z (by decide)⟩
  · refine ⟨fun z => absurd z (by decide), fun _ => ?_⟩
    rcases hc with ⟨n, _, rfl, _⟩ | ⟨s', rfl, _⟩ | ⟨g, s', hg, rfl, _⟩
    · show (0 : Int) ≤ 100; decide
    · show (0 : Int) ≤ 101; decide
    · show (0 : Int) ≤ g; omega
  · exact ⟨fun z => absurd z (by decide), fun z => absurd z (by decide)⟩
  · exact ⟨fun z => absurd z (by decide), fun z => absurd z (by decide)⟩
  · exact ⟨fun z => absurd z (by decide), fun z => absurd z (by decide)⟩
  · exact ⟨fun z => absurd z (by decide), fun z => absurd z (by decide)⟩
  · exact ⟨fun z => absurd z (by decide), fun z => absurd z (by decide)⟩
theorem tPc_s (hT : ∀ j, T j ≤ 10999) : ∀ {x : tS}, (tInv x ∧ tPc x) → (tInv (tStp T p x) ∧ tPc (tStp T p x))
  | (m, j, w, s, c, d), ⟨h, hc⟩ => ⟨tInv_s hT h, tPs_s (tInv_35 h).1 (tInv_35 h).2 hc⟩
theorem tPc_law (hT : ∀ j, T j ≤ 10999) {j' v : Int} {c' d' : List Int} (r : tRe T p (2, 0, 0, [], [], []) (1, j', v, [], c', d')) : ∀ e ∈ c', 0 ≤ e :=
  (tRe_i (P := fun x => tInv x ∧ tPc x) (tPc_s hT) (x := (2, 0, 0, [], [], [])) ⟨Or.inr (Or.inr (Or.inl ⟨rfl, Int.le_refl _, True.intro⟩)), tPs_0⟩ r).2
end TP9
theorem fRv_m : ∀ (c : List Int) (i : Int), 0 ≤ i → i < c.length → fRv c i ∈ c
  | [], i, a, b => by exfalso; simp only [List.length_nil] at b; omega
  | x :: c, i, a, b => by
    simp only [List.length_cons] at b
    by_cases e : i = (c.length : Int)
    · rw [fRv_h e]; exact List.mem_cons_self ..
    · rw [fRv_x (by omega)]; exact List.mem_cons_of_mem _ (fRv_m c i a (by omega))
/-! ===== the reference's state behind a text ===== -/
theorem zY_t0 {h m k : zM} {E : fE} {x : fS} {v : Int} (t : zY h E false x) (o : ∀ a b, zDm a b → ¬ (9 ≤ a ∧ a ≤ 15) → k.2 a b = h.2 a b) (e9 : k.2 9 0 = v) (r : ∀ l, 0 ≤ l → l < v → k.2 10 l = m.2 10 (32 + l) ∧ k.2 11 l = m.2 11 (32 + l) ∧ k.2 12 l = m.2 12 (32 + l) ∧ k.2 13 l = m.2 13 (32 + l)) (cd : ∀ i, 0 ≤ i → i < m.2 0 25 → k.2 14 i = m.2 14 (800 + i) ∧ k.2 15 i = m.2 15 (800 + i)) (l : 0 ≤ m.2 0 25 ∧ m.2 0 25 ≤ 400) (hv : 0 ≤ v ∧ v ≤ 16) (g : tGd (tCm m) (tL4 m v.toNat)) (ps : ∀ e ∈ tCm m, 0 ≤ e) : zY k (fTx0 E v (tCm m) (tL4 m v.toNat)) false x := by
  obtain ⟨t1, t2, ⟨a1, a2, a3, a4, a5, a6⟩, t4, t5, t6⟩ := t
  have ff := tL4_f m v.toNat
  have le : (v.toNat : Int) = v := by omega
  have lc : ((tCm m).length : Int) = m.2 0 25 := tCm_l l.1
  refine ⟨fWE_t0 t1 hv (by omega) g (by rw [ff.1, le]), t2, ⟨?_, fun i p q => ?_, ⟨e9, fun i p q => ?_, fun i p q => ?_⟩, ⟨?_, fun i p q => ?_⟩, ⟨?_, fun i p q => ?_⟩, ?_⟩, fun i p q => ?_, fun i p q => ?_, ?_⟩
  · rw [o 0 6 (by unfold zDm zDe; omega) (by omega)]; exact a1
  · rw [o 4 i (by unfold zDm zDe; omega) (by omega), o 5 i (by unfold zDm zDe; omega) (by omega), o 19 i (by unfold zDm zDe; omega) (by omega)]; exact a2 i p q
  · have q' : i < v := q
    obtain ⟨f1, f2, f3, f4⟩ := ff.2 i p (by omega)
    obtain ⟨r1, r2, r3, r4⟩ := r i p q'
    exact ⟨r1.trans f1.symm, r2.trans f2.symm, r3.trans f3.symm, r4.trans f4.symm⟩
  · have q' : i < ((tCm m).length : Int) := q
    obtain ⟨c1, c2⟩ := cd i p (by omega)
    have e : fRv (tCm m) i = tEo (dop m i) (dar m i) := fRv_s (fun k => tEo (dop m k) (dar m k)) (m.2 0 25).toNat i p (by omega)
    have n0 : 0 ≤ fRv (tCm m) i := ps _ (fRv_m _ i p q')
    show zEn (k.2 14 i) (k.2 15 i) (fRv (tCm m) i)
    rw [e] at n0 ⊢
    rw [c1, c2]
    exact zEn_t n0
  · rw [o 0 33 (by unfold zDm zDe; omega) (by omega)]; exact a4.1
  · rw [o 17 _ (by unfold zDm zDe; omega) (by omega), o 17 _ (by unfold zDm zDe; omega) (by omega), o 17 _ (by unfold zDm zDe; omega) (by omega)]; exact a4.2 i p q
  · rw [o 0 35 (by unfold zDm zDe; omega) (by omega)]; exact a5.1
  · rw [o 18 _ (by unfold zDm zDe; omega) (by omega), o 18 _ (by unfold zDm zDe; omega) (by omega), o 18 _ (by unfold zDm zDe; omega) (by omega)]; exact a5.2 i p q
  · rw [o 0 37 (by unfold zDm zDe; omega) (by omega)]; exact a6
  · rw [o 1 i (by unfold zDm zDe; omega) (by omega)]; exact t4 i p q
  · rw [o 6 i (by unfold zDm zDe; omega) (by omega)]; exact t5 i p q
  · rw [o 0 5 (by unfold zDm zDe; omega) (by omega)]; exact t6
theorem zY_t1 {h m k : zM} {E : fE} {x : fS} {v : Int} (t : zY h E false x) (o : ∀ a b, zDm a b → ¬ a = 17 → ¬ (a = 0 ∧ b = 33) → k.2 a b = h.2 a b) (e9 : k.2 0 33 = v) (r : ∀ i, 0 ≤ i → i < 3 * v → k.2 17 i = m.2 17 (48 + i)) (hv : 0 ≤ v ∧ v ≤ 16) (g : tGb (tB3 m v.toNat)) : zY k (fTx1 E v (tB3 m v.toNat)) false x := by
  obtain ⟨t1, t2, ⟨a1, a2, a3, a4, a5, a6⟩, t4, t5, t6⟩ := t
  have ff := tB3_f m v.toNat
  have le : (v.toNat : Int) = v := by omega
  refine ⟨fWE_t1 t1 hv g (by rw [ff.1, le]), t2, ⟨?_, fun i p q => ?_, ⟨?_, fun i p q => ?_, fun i p q => ?_⟩, ⟨e9, fun i p q => ?_⟩, ⟨?_, fun i p q => ?_⟩, ?_⟩, fun i p q => ?_, fun i p q => ?_, ?_⟩
  · rw [o 0 6 (by unfold zDm zDe; omega) (by omega) (by omega)]; exact a1
  · rw [o 4 i (by unfold zDm zDe; omega) (by omega) (by omega), o 5 i (by unfold zDm zDe; omega) (by omega) (by omega), o 19 i (by unfold zDm zDe; omega) (by omega) (by omega)]; exact a2 i p q
  · rw [o 9 0 (by unfold zDm zDe; omega) (by omega) (by omega)]; exact a3.1
  · rw [o 10 i (by unfold zDm zDe; omega) (by omega) (by omega), o 11 i (by unfold zDm zDe; omega) (by omega) (by omega), o 12 i (by unfold zDm zDe; omega) (by omega) (by omega), o 13 i (by unfold zDm zDe; omega) (by omega) (by omega)]; exact a3.2.1 i p q
  · rw [o 14 i (by unfold zDm zDe; omega) (by omega) (by omega), o 15 i (by unfold zDm zDe; omega) (by omega) (by omega)]; exact a3.2.2 i p q
  · have q' : i < v := q
    obtain ⟨f1, f2, f3⟩ := ff.2 i p (by omega)
    have r1 := r (3 * i) (by omega) (by omega)
    have r2 := r (3 * i + 1) (by omega) (by omega)
    have r3 := r (3 * i + 2) (by omega) (by omega)
    have g1 : fRv (tB3 m v.toNat) (3 * i) = m.2 17 (48 + 3 * i) := f1
    have g2 : fRv (tB3 m v.toNat) (3 * i + 1) = m.2 17 (48 + 3 * i + 1) := f2
    have g3 : fRv (tB3 m v.toNat) (3 * i + 2) = 3 - m.2 17 (48 + 3 * i + 2) := f3
    show k.2 17 (3 * i) = fRv (tB3 m v.toNat) (3 * i) ∧ k.2 17 (3 * i + 1) = fRv (tB3 m v.toNat) (3 * i + 1) ∧ k.2 17 (3 * i + 2) = 3 - fRv (tB3 m v.toNat) (3 * i + 2)
    rw [g1, g2, g3, r1, r2, r3, show 48 + (3 * i + 1) = 48 + 3 * i + 1 by omega, show 48 + (3 * i + 2) = 48 + 3 * i + 2 by omega]
    exact ⟨rfl, rfl, by omega⟩
  · rw [o 0 35 (by unfold zDm zDe; omega) (by omega) (by omega)]; exact a5.1
  · rw [o 18 _ (by unfold zDm zDe; omega) (by omega) (by omega), o 18 _ (by unfold zDm zDe; omega) (by omega) (by omega), o 18 _ (by unfold zDm zDe; omega) (by omega) (by omega)]; exact a5.2 i p q
  · rw [o 0 37 (by unfold zDm zDe; omega) (by omega) (by omega)]; exact a6
  · rw [o 1 i (by unfold zDm zDe; omega) (by omega) (by omega)]; exact t4 i p q
  · rw [o 6 i (by unfold zDm zDe; omega) (by omega) (by omega)]; exact t5 i p q
  · rw [o 0 5 (by unfold zDm zDe; omega) (by omega) (by omega)]; exact t6
theorem zY_t2 {h m k : zM} {E : fE} {x : fS} {v : Int} (t : zY h E false x) (o : ∀ a b, zDm a b → ¬ a = 18 → ¬ (a = 0 ∧ b = 35) → k.2 a b = h.2 a b) (e9 : k.2 0 35 = v) (r : ∀ i, 0 ≤ i → i < 3 * v → k.2 18 i = m.2 18 (48 + i)) (hv : 0 ≤ v ∧ v ≤ 16) (g : tGt E.n (tT3d m v.toNat)) : zY k (fTx2 E v (tT3d m v.toNat)) false x := by
  obtain ⟨t1, t2, ⟨a1, a2, a3, a4, a5, a6⟩, t4, t5, t6⟩ := t
  have ff := tT3d_f m v.toNat
  have le : (v.toNat : Int) = v := by omega
  refine ⟨fWE_t2 t1 hv g (by rw [ff.1, le]), t2, ⟨?_, fun i p q => ?_, ⟨?_, fun i p q => ?_, fun i p q => ?_⟩, ⟨?_, fun i p q => ?_⟩, ⟨e9, fun i p q => ?_⟩, ?_⟩, fun i p q => ?_, fun i p q => ?_, ?_⟩
  · rw [o 0 6 (by unfold zDm zDe; omega) (by omega) (by omega)]; exact a1
  · rw [o 4 i (by unfold zDm zDe; omega) (by omega) (by omega), o 5 i (by unfold zDm zDe; omega) (by omega) (by omega), o 19 i (by unfold zDm zDe; omega) (by omega) (by omega)]; exact a2 i p q
  · rw [o 9 0 (by unfold zDm zDe; omega) (by omega) (by omega)]; exact a3.1
  · rw [o 10 i (by unfold zDm zDe; omega) (by omega) (by omega), o 11 i (by unfold zDm zDe; omega) (by omega) (by omega), o 12 i (by unfold zDm zDe; omega) (by omega) (by omega), o 13 i (by unfold zDm zDe; omega) (by omega) (by omega)]; exact a3.2.1 i p q
  · rw [o 14 i (by unfold zDm zDe; omega) (by omega) (by omega), o 15 i (by unfold zDm zDe; omega) (by omega) (by omega)]; exact a3.2.2 i p q
  · rw [o 0 33 (by unfold zDm zDe; omega) (by omega) (by omega)]; exact a4.1
  · rw [o 17 _ (by unfold zDm zDe; omega) (by omega) (by omega), o 17 _ (by unfold zDm zDe; omega) (by omega) (by omega), o 17 _ (by unfold zDm zDe; omega) (by omega) (by omega)]; exact a4.2 i p q
  · have q' : i < v := q
    obtain ⟨f1, f2, f3⟩ := ff.2 i p (by omega)
    have r1 := r (3 * i) (by omega) (by omega)
    have r2 := r (3 * i + 1) (by omega) (by omega)
    have r3 := r (3 * i + 2) (by omega) (by omega)
    have g1 : fRv (tT3d m v.toNat) (3 * i) = m.2 18 (48 + 3 * i) := f1
    have g2 : fRv (tT3d m v.toNat) (3 * i + 1) = m.2 18 (48 + 3 * i + 1) + 1 := f2
    have g3 : fRv (tT3d m v.toNat) (3 * i + 2) = m.2 18 (48 + 3 * i + 2) := f3
    show k.2 18 (3 * i) = fRv (tT3d m v.toNat) (3 * i) ∧ k.2 18 (3 * i + 1) = fRv (tT3d m v.toNat) (3 * i + 1) - 1 ∧ k.2 18 (3 * i + 2) = fRv (tT3d m v.toNat) (3 * i + 2)
    rw [g1, g2, g3, r1, r2, r3, show 48 + (3 * i + 1) = 48 + 3 * i + 1 by omega, show 48 + (3 * i + 2) = 48 + 3 * i + 2 by omega]
    exact ⟨rfl, by omega, rfl⟩
  · rw [o 0 37 (by unfold zDm zDe; omega) (by omega) (by omega)]; exact a6
  · rw [o 1 i (by unfold zDm zDe; omega) (by omega) (by omega)]; exact t4 i p q
  · rw [o 6 i (by unfold zDm zDe; omega) (by omega) (by omega)]; exact t5 i p q
  · rw [o 0 5 (by unfold zDm zDe; omega) (by omega) (by omega)]; exact t6
theorem zY_t3 {h k : zM} {E : fE} {x : fS} {v : Int} {dd : List Int} (t : zY h E false x) (o : ∀ a b, zDm a b → ¬ a = 19 → ¬ (a = 0 ∧ b = 37) → k.2 a b = h.2 a b) (e9 : k.2 0 37 = v) (r : ∀ i, 0 ≤ i → i < 18 → k.2 19 i = tKs dd i) (g : tGk E.n dd) : zY k (fTx3 E v dd) false x := by
  obtain ⟨t1, t2, ⟨a1, a2, a3, a4, a5, a6⟩, t4, t5, t6⟩ := t
  refine ⟨fWE_t3 t1 g, t2, ⟨?_, fun i p q => ?_, ⟨?_, fun i p q => ?_, fun i p q => ?_⟩, ⟨?_, fun i p q => ?_⟩, ⟨?_, fun i p q => ?_⟩, e9⟩, fun i p q => ?_, fun i p q => ?_, ?_⟩
  · rw [o 0 6 (by unfold zDm zDe; omega) (by omega) (by omega)]; exact a1
  · rw [o 4 i (by unfold zDm zDe; omega) (by omega) (by omega), o 5 i (by unfold zDm zDe; omega) (by omega) (by omega)]; exact ⟨(a2 i p q).1, (a2 i p q).2.1, r i p q⟩
  · rw [o 9 0 (by unfold zDm zDe; omega) (by omega) (by omega)]; exact a3.1
  · rw [o 10 i (by unfold zDm zDe; omega) (by omega) (by omega), o 11 i (by unfold zDm zDe; omega) (by omega) (by omega), o 12 i (by unfold zDm zDe; omega) (by omega) (by omega), o 13 i (by unfold zDm zDe; omega) (by omega) (by omega)]; exact a3.2.1 i p q
  · rw [o 14 i (by unfold zDm zDe; omega) (by omega) (by omega), o 15 i (by unfold zDm zDe; omega) (by omega) (by omega)]; exact a3.2.2 i p q
  · rw [o 0 33 (by unfold zDm zDe; omega) (by omega) (by omega)]; exact a4.1
  · rw [o 17 _ (by unfold zDm zDe; omega) (by omega) (by omega), o 17 _ (by unfold zDm zDe; omega) (by omega) (by omega), o 17 _ (by unfold zDm zDe; omega) (by omega) (by omega)]; exact a4.2 i p q
  · rw [o 0 35 (by unfold zDm zDe; omega) (by omega) (by omega)]; exact a5.1
  · rw [o 18 _ (by unfold zDm zDe; omega) (by omega) (by omega), o 18 _ (by unfold zDm zDe; omega) (by omega) (by omega), o 18 _ (by unfold zDm zDe; omega) (by omega) (by omega)]; exact a5.2 i p q
  · rw [o 1 i (by unfold zDm zDe; omega) (by omega) (by omega)]; exact t4 i p q
  · rw [o 6 i (by unfold zDm zDe; omega) (by omega) (by omega)]; exact t5 i p q
  · rw [o 0 5 (by unfold zDm zDe; omega) (by omega) (by omega)]; exact t6
/-- told things are read within their rows -/
theorem zY_lo {h k : zM} {E : fE} {x : fS} (t : zY h E false x) (o : ∀ a b, zDm a b → ¬ (10 ≤ a ∧ a ≤ 19) → k.2 a b = h.2 a b) (lo : tLa h k) : zY k E false x := by
  obtain ⟨t1, t2, ⟨a1, a2, a3, a4, a5, a6⟩, t4, t5, t6⟩ := t
  obtain ⟨l1, l2, l3, l4, l5⟩ := lo
  have n := t1.2.2.2
  refine ⟨t1, t2, ⟨?_, fun i p q => ?_, ⟨?_, fun i p q => ?_, fun i p q => ?_⟩, ⟨?_, fun i p q => ?_⟩, ⟨?_, fun i p q => ?_⟩, ?_⟩, fun i p q => ?_, fun i p q => ?_, ?_⟩
  · rw [o 0 6 (by unfold zDm zDe; omega) (by omega)]; exact a1
  · rw [o 4 i (by unfold zDm zDe; omega) (by omega), o 5 i (by unfold zDm zDe; omega) (by omega), l5 i (by omega)]; exact a2 i p q
  · rw [o 9 0 (by unfold zDm zDe; omega) (by omega)]; exact a3.1
  · have z := l1 i (by have := n.1.1; omega)
    rw [z.1, z.2.1, z.2.2.1, z.2.2.2]; exact a3.2.1 i p q
  · have z := l2 i (by have := n.1.2.1; omega)
    rw [z.1, z.2]; exact a3.2.2 i p q
  · rw [o 0 33 (by unfold zDm zDe; omega) (by omega)]; exact a4.1
  · have := n.2.1.1
    rw [l3 _ (by omega), l3 _ (by omega), l3 _ (by omega)]; exact a4.2 i p q
  · rw [o 0 35 (by unfold zDm zDe; omega) (by omega)]; exact a5.1
  · have := n.2.2.1
    rw [l4 _ (by omega), l4 _ (by omega), l4 _ (by omega)]; exact a5.2 i p q
  · rw [o 0 37 (by unfold zDm zDe; omega) (by omega)]; exact a6
  · rw [o 1 i (by unfold zDm zDe; omega) (by omega)]; exact t4 i p q
  · rw [o 6 i (by unfold zDm zDe; omega) (by omega)]; exact t5 i p q
  · rw [o 0 5 (by unfold zDm zDe; omega) (by omega)]; exact t6
theorem tLa_b {h m k : zM} (a : tLa h m) (e2 : ∀ a b, 10 ≤ a → a ≤ 19 → h.2 a b = k.2 a b) : tLa k m := by
  obtain ⟨l1, l2, l3, l4, l5⟩ := a
  refine ⟨fun i z => ?_, fun i z => ?_, fun i z => ?_, fun i z => ?_, fun i z => ?_⟩
  · rw [← e2 10 i (by decide) (by decide), ← e2 11 i (by decide) (by decide), ← e2 12 i (by decide) (by decide), ← e2 13 i (by decide) (by decide)]; exact l1 i z
  · rw [← e2 14 i (by decide) (by decide), ← e2 15 i (by decide) (by decide)]; exact l2 i z
  · rw [← e2 17 i (by decide) (by decide)]; exact l3 i z
  · rw [← e2 18 i (by decide) (by decide)]; exact l4 i z
  · rw [← e2 19 i (by decide) (by decide)]; exact l5 i z
theorem xL_t0 {h k : zM} {z : fZ} {E : fE} (t : xL h z) (y : zY k E false z.x) (e3 : k.2 0 3 = h.2 0 3) (e59 : k.2 0 59 = h.2 0 59) (e2 : ∀ b, k.2 2 b = h.2 2 b) (e35 : ∀ b, k.2 35 b = h.2 35 b) : xL k (E, z.x, z.u, z.q, z.g, z.f, z.y) :=
  ⟨y, xQ_f t.2.1 e3 e2, e59.trans t.2.2.1, fun q => xI_f (t.2.2.2 q) e35⟩
theorem zoT {h h' : zM} {a b : Int} (q : zfr [12, 13, 14, 15, 24, 25, 26, 28, 29, 30] [10, 11, 12, 13, 14, 15, 16, 17, 18, 19] h h') (y : (a = 0 ∧ (b = 5 ∨ b = 6 ∨ b = 33 ∨ b = 35 ∨ b = 37)) ∨ a = 1 ∨ a = 4 ∨ a = 5 ∨ a = 6 ∨ a = 9) : h'.2 a b = h.2 a b := by
  rcases y with ⟨rfl, rfl | rfl | rfl | rfl | rfl⟩ | rfl | rfl | rfl | rfl | rfl
  · exact zfr_f q rfl rfl
  · exact zfr_f q rfl rfl
  · exact zfr_f q rfl rfl
  · exact zfr_f q rfl rfl
  · exact zfr_f q rfl rfl
  · exact zfr_a q rfl (by decide)
  · exact zfr_a q rfl (by decide)
  · exact zfr_a q rfl (by decide)
  · exact zfr_a q rfl (by decide)
  · exact zfr_a q rfl (by decide)
theorem zoL {h h' : zM} {a b : Int} (q : zfr [] [9, 10, 11, 12, 13, 14, 15] h h') (y : a = 0 ∨ a = 1 ∨ a = 4 ∨ a = 5 ∨ a = 6 ∨ a = 17 ∨ a = 18 ∨ a = 19) : h'.2 a b = h.2 a b := by
  rcases y with rfl | rfl | rfl | rfl | rfl | rfl | rfl | rfl
  · exact zfr_f q rfl rfl
  · exact zfr_a q rfl (by decide)
  · exact zfr_a q rfl (by decide)
  · exact zfr_a q rfl (by decide)
  · exact zfr_a q rfl (by decide)
  · exact zfr_a q rfl (by decide)
  · exact zfr_a q rfl (by decide)
  · exact zfr_a q rfl (by decide)
theorem zoR {h h' : zM} {a b : Int} (q : zfr [3, 33, 35, 37] [17, 18, 19] h h') (y : zDm a b) (n0 : ¬ a = 0) (n1 : ¬ a = 17) (n2 : ¬ a = 18) (n3 : ¬ a = 19) : h'.2 a b = h.2 a b := by
  unfold zDm zDe at y
  have z : a = 1 ∨ a = 4 ∨ a = 5 ∨ a = 6 ∨ a = 9 ∨ a = 10 ∨ a = 11 ∨ a = 12 ∨ a = 13 ∨ a = 14 ∨ a = 15 := by omega
  rcases z with rfl | rfl | rfl | rfl | rfl | rfl | rfl | rfl | rfl | rfl | rfl
  · exact zfr_a q rfl n0
  · exact zfr_a q rfl n0
  · exact zfr_a q rfl n0
  · exact zfr_a q rfl n0
  · exact zfr_a q rfl n0
  · exact zfr_a q rfl n0
  · exact zfr_a q rfl n0
  · exact zfr_a q rfl n0
  · exact zfr_a q rfl n0
  · exact zfr_a q rfl n0
  · exact zfr_a q rfl n0
theorem zoO {h h' : zM} {cc ff c1 c2 a b : Int} (q : zfr [3, 33, 35, 37] [17, 18, 19] h h') (hc : (cc = 17 ∧ c1 = 18 ∧ c2 = 19) ∨ (cc = 18 ∧ c1 = 17 ∧ c2 = 19)) (w4 : ∀ j, h'.2 c1 j = h.2 c1 j) (w5 : ∀ j, h'.2 c2 j = h.2 c2 j) (w6 : ∀ j, ¬ j = ff → ¬ j = 3 → h'.2 0 j = h.2 0 j) (y : zDm a b) (x : ¬ a = cc) (z : ¬ (a = 0 ∧ b = ff)) : h'.2 a b = h.2 a b := by
  by_cases e0 : a = 0
  · subst e0
    unfold zDm zDe at y
    exact w6 b (fun e => z ⟨rfl, e⟩) (by omega)
  · by_cases e1 : a = c1
    · rw [e1]; exact w4 b
    · by_cases e2 : a = c2
      · rw [e2]; exact w5 b
      · exact zoR q y e0 (by omega) (by omega) (by omega)
theorem zoO3 {h h' : zM} {cc ff c1 c2 a b : Int} (q : zfr [3, 33, 35, 37] [17, 18, 19] h h') (hc : cc = 19 ∧ c1 = 17 ∧ c2 = 18) (w4 : ∀ j, h'.2 c1 j = h.2 c1 j) (w5 : ∀ j, h'.2 c2 j = h.2 c2 j) (w6 : ∀ j, ¬ j = ff → h'.2 0 j = h.2 0 j) (y : zDm a b) (x : ¬ a = cc) (z : ¬ (a = 0 ∧ b = ff)) : h'.2 a b = h.2 a b := by
  by_cases e0 : a = 0
  · subst e0
    exact w6 b (fun e => z ⟨rfl, e⟩)
  · by_cases e1 : a = c1
    · rw [e1]; exact w4 b
    · by_cases e2 : a = c2
      · rw [e2]; exact w5 b
      · exact zoR q y e0 (by omega) (by omega) (by omega)

