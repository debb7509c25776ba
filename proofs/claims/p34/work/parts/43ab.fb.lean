/-! ===== the law's codes: what they come to, and that they are well-formed ===== -/
def fJn (g x y : Int) : Int :=
  if g = 43 then zwp (x + y) else if g = 45 then zwp (x - y) else if g = 42 then zwp (x * y)
  else if g = 47 then (if y = 0 then 0 else zwp (x.tdiv y))
  else if g = 60 then (if x < y then 1 else 0) else if g = 61 then (if x = y then 1 else 0) else if g = 62 then (if y < x then 1 else 0)
  else if g = 5 then x * y else (if 0 < x + y then 1 else 0)
def fSt (ask : Int → Int) (e : Int) (s : List Int) : List Int :=
  if e < 20000 then (if e < 10000 then e else ask (e - 10007)) :: s
  else if e = 20006 then (1 - s.headD 0) :: s.tail
  else fJn (e - 20000) (s.tail.headD 0) (s.headD 0) :: s.tail.tail
/-- the last n codes, the newest first -/
def fEv (ask : Int → Int) : List Int → Nat → List Int
  | _, 0 => []
  | [], _ + 1 => []
  | e :: c, n + 1 => fSt ask e (fEv ask c n)
/-- types: true where it is 0 or 1 -/
def fTs (e : Int) (t : List Bool) : Option (List Bool) :=
  if (0 ≤ e ∧ e < 10000) ∨ (10007 ≤ e ∧ e ≤ 10016) then (if t.length < 60 then some (false :: t) else none)
  else if e = 20006 then (if t.head? = some true then some t else none)
  else if e = 20042 ∨ e = 20043 ∨ e = 20045 ∨ e = 20047 then (if t.take 2 = [false, false] then some (false :: t.tail.tail) else none)
  else if e = 20060 ∨ e = 20061 ∨ e = 20062 then (if t.take 2 = [false, false] then some (true :: t.tail.tail) else none)
  else if e = 20004 ∨ e = 20005 then (if t.take 2 = [true, true] then some (true :: t.tail.tail) else none)
  else none
def fTy : List Int → Nat → Option (List Bool)
  | _, 0 => some []
  | [], _ + 1 => none
  | e :: c, n + 1 => (fTy c n).bind (fTs e)
theorem fTs_p {e : Int} {t : List Bool} (h : (0 ≤ e ∧ e < 10000) ∨ (10007 ≤ e ∧ e ≤ 10016)) (l : t.length < 60) : fTs e t = some (false :: t) := by
  unfold fTs; rw [if_pos h, if_pos l]
theorem fTs_n {t : List Bool} : fTs 20006 (true :: t) = some (true :: t) := by
  unfold fTs; rw [if_neg (by decide), if_pos rfl, if_pos (show (true :: t).head? = some true from rfl)]
theorem fTs_a {e : Int} {t : List Bool} (h : e = 20042 ∨ e = 20043 ∨ e = 20045 ∨ e = 20047) : fTs e (false :: false :: t) = some (false :: t) := by
  unfold fTs; rw [if_neg (by omega), if_neg (by omega), if_pos h, if_pos (show List.take 2 (false :: false :: t) = [false, false] from rfl)]; rfl
theorem fTs_c {e : Int} {t : List Bool} (h : e = 20060 ∨ e = 20061 ∨ e = 20062) : fTs e (false :: false :: t) = some (true :: t) := by
  unfold fTs; rw [if_neg (by omega), if_neg (by omega), if_neg (by omega), if_pos h, if_pos (show List.take 2 (false :: false :: t) = [false, false] from rfl)]; rfl
theorem fTs_b {e : Int} {t : List Bool} (h : e = 20004 ∨ e = 20005) : fTs e (true :: true :: t) = some (true :: t) := by
  unfold fTs; rw [if_neg (by omega), if_neg (by omega), if_neg (by omega), if_neg (by omega), if_pos h, if_pos (show List.take 2 (true :: true :: t) = [true, true] from rfl)]; rfl
theorem fTy_s {e : Int} {c : List Int} {n : Nat} {t u : List Bool} (h : fTy c n = some t) (g : fTs e t = some u) : fTy (e :: c) (n + 1) = some u := by
  show (fTy c n).bind (fTs e) = _
  rw [h]; exact g
/-- what a step needs and gives -/
theorem fTs_i {e : Int} {t u : List Bool} (h : fTs e t = some u) :
    (((0 ≤ e ∧ e < 10000) ∨ (10007 ≤ e ∧ e ≤ 10016)) ∧ t.length < 60 ∧ u = false :: t) ∨
    (e = 20006 ∧ ∃ v, t = true :: v ∧ u = t) ∨
    ((e = 20042 ∨ e = 20043 ∨ e = 20045 ∨ e = 20047) ∧ ∃ v, t = false :: false :: v ∧ u = false :: v) ∨
    ((e = 20060 ∨ e = 20061 ∨ e = 20062) ∧ ∃ v, t = false :: false :: v ∧ u = true :: v) ∨
    ((e = 20004 ∨ e = 20005) ∧ ∃ v, t = true :: true :: v ∧ u = true :: v) := by
  unfold fTs at h
  by_cases c1 : (0 ≤ e ∧ e < 10000) ∨ (10007 ≤ e ∧ e ≤ 10016)
  · rw [if_pos c1] at h
    by_cases l : t.length < 60
    · rw [if_pos l] at h; exact Or.inl ⟨c1, l, (Option.some.inj h).symm⟩
    · rw [if_neg l] at h; exact absurd h (by simp)
  rw [if_neg c1] at h
  by_cases c2 : e = 20006
  · rw [if_pos c2] at h
    match t, h with
    | [], h => exact absurd h (by simp)
    | false :: v, h => exact absurd h (by simp)
    | true :: v, h => exact Or.inr (Or.inl ⟨c2, v, rfl, by simpa using h.symm⟩)
  rw [if_neg c2] at h
  by_cases c3 : e = 20042 ∨ e = 20043 ∨ e = 20045 ∨ e = 20047
  · rw [if_pos c3] at h
    match t, h with
    | [], h => exact absurd h (by simp)
    | [_], h => exact absurd h (by simp)
    | false :: false :: v, h => exact Or.inr (Or.inr (Or.inl ⟨c3, v, rfl, by simpa using h.symm⟩))
    | true :: _ :: v, h => exact absurd h (by simp)
    | false :: true :: v, h => exact absurd h (by simp)
  rw [if_neg c3] at h
  by_cases c4 : e = 20060 ∨ e = 20061 ∨ e = 20062
  · rw [if_pos c4] at h
    match t, h with
    | [], h => exact absurd h (by simp)
    | [_], h => exact absurd h (by simp)
    | false :: false :: v, h => exact Or.inr (Or.inr (Or.inr (Or.inl ⟨c4, v, rfl, by simpa using h.symm⟩)))
    | true :: _ :: v, h => exact absurd h (by simp)
    | false :: true :: v, h => exact absurd h (by simp)
  rw [if_neg c4] at h
  by_cases c5 : e = 20004 ∨ e = 20005
  · rw [if_pos c5] at h
    match t, h with
    | [], h => exact absurd h (by simp)
    | [_], h => exact absurd h (by simp)
    | true :: true :: v, h => exact Or.inr (Or.inr (Or.inr (Or.inr ⟨c5, v, rfl, by simpa using h.symm⟩)))
    | false :: _ :: v, h => exact absurd h (by simp)
    | true :: false :: v, h => exact absurd h (by simp)
  rw [if_neg c5] at h
  exact absurd h (by simp)
/-- values of these types -/
def fSh : List Bool → List Int → Prop
  | [], [] => True
  | b :: t, x :: s => (b = true → x = 0 ∨ x = 1) ∧ fSh t s
  | _, _ => False
theorem fSh_l : ∀ {t : List Bool} {s : List Int}, fSh t s → t.length = s.length
  | [], [], _ => rfl
  | _ :: t, _ :: s, h => by
    show t.length + 1 = s.length + 1
    rw [fSh_l h.2]
  | [], _ :: _, h => h.elim
  | _ :: _, [], h => h.elim
theorem fJn_c {g x y : Int} (hg : g = 60 ∨ g = 61 ∨ g = 62) : fJn g x y = 0 ∨ fJn g x y = 1 := by
  unfold fJn
  rcases hg with rfl | rfl | rfl
  · rw [if_neg (by decide), if_neg (by decide), if_neg (by decide), if_neg (by decide), if_pos rfl]; split <;> simp
  · rw [if_neg (by decide), if_neg (by decide), if_neg (by decide), if_neg (by decide), if_neg (by decide), if_pos rfl]; split <;> simp
  · rw [if_neg (by decide), if_neg (by decide), if_neg (by decide), if_neg (by decide), if_neg (by decide), if_neg (by decide), if_pos rfl]; split <;> simp
theorem fJn_5 {x y : Int} (hx : x = 0 ∨ x = 1) (hy : y = 0 ∨ y = 1) : fJn 5 x y = zand x y ∧ (fJn 5 x y = 0 ∨ fJn 5 x y = 1) := by
  rcases hx with rfl | rfl <;> rcases hy with rfl | rfl <;> decide
theorem fJn_4 {x y : Int} (hx : x = 0 ∨ x = 1) (hy : y = 0 ∨ y = 1) : fJn 4 x y = zor x y ∧ (fJn 4 x y = 0 ∨ fJn 4 x y = 1) := by
  rcases hx with rfl | rfl <;> rcases hy with rfl | rfl <;> decide
theorem fSh_s {ask : Int → Int} {e : Int} {t u : List Bool} {s : List Int} (h : fTs e t = some u) (g : fSh t s) : fSh u (fSt ask e s) := by
  rcases fTs_i h with ⟨c, l, rfl⟩ | ⟨rfl, v, rfl, rfl⟩ | ⟨c, v, rfl, rfl⟩ | ⟨c, v, rfl, rfl⟩ | ⟨c, v, rfl, rfl⟩
  · have e1 : e < 20000 := by omega
    unfold fSt; rw [if_pos e1]
    exact ⟨fun z => absurd z (by decide), g⟩
  · match s, g with
    | x :: s, g =>
      have e1 : ¬ (20006 : Int) < 20000 := by decide
      unfold fSt; rw [if_neg e1, if_pos rfl]
      refine ⟨fun _ => ?_, g.2⟩
      show 1 - x = 0 ∨ 1 - x = 1
      have := g.1 rfl
      omega
  · match s, g with
    | y :: x :: s, g =>
      have e1 : ¬ e < 20000 := by omega
      have e2 : ¬ e = 20006 := by omega
      unfold fSt; rw [if_neg e1, if_neg e2]
      exact ⟨fun z => absurd z (by decide), g.2.2⟩
  · match s, g with
    | y :: x :: s, g =>
      have e1 : ¬ e < 20000 := by omega
      have e2 : ¬ e = 20006 := by omega
      unfold fSt; rw [if_neg e1, if_neg e2]
      exact ⟨fun _ => fJn_c (by omega), g.2.2⟩
  · match s, g with
    | y :: x :: s, g =>
      have e1 : ¬ e < 20000 := by omega
      have e2 : ¬ e = 20006 := by omega
      unfold fSt; rw [if_neg e1, if_neg e2]
      refine ⟨fun _ => ?_, g.2.2⟩
      have hy := g.1 rfl
      have hx := g.2.1 rfl
      rcases c with rfl | rfl
      · exact (fJn_4 hx hy).2
      · exact (fJn_5 hx hy).2
theorem fSh_e {ask : Int → Int} : ∀ {c : List Int} {n : Nat} {t : List Bool}, fTy c n = some t → fSh t (fEv ask c n)
  | c, 0, t, h => by
    have e : fTy c 0 = some [] := by cases c <;> rfl
    rw [e] at h
    have h2 := Option.some.inj h
    subst h2
    have e2 : fEv ask c 0 = [] := by cases c <;> rfl
    rw [e2]; exact True.intro
  | [], n + 1, t, h => absurd h (by show ¬ none = some t; simp)
  | e :: c, n + 1, t, h => by
    have h2 : (fTy c n).bind (fTs e) = some t := h
    match k : fTy c n with
    | none => rw [k] at h2; exact absurd h2 (by simp)
    | some u =>
      rw [k] at h2
      exact fSh_s h2 (fSh_e k)
