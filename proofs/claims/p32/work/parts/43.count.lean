def zpf (g : Nat → List (List Nat)) : Nat → List (List Nat)
  | 0 => []
  | a + 1 => zpf g a ++ g a
/-- orders of n things, k of them still to come, those in tk taken -/
def zpl (n : Nat) : Nat → Int → List (List Nat)
  | 0, _ => [[]]
  | k + 1, tk => zpf (fun d => if zand (zshr tk (d : Int)) 1 = 0 then (zpl n k (zor tk (zshl 1 (d : Int)))).map (d :: ·) else []) n
def zpg (n k : Nat) (tk : Int) (d : Nat) : List (List Nat) := if zand (zshr tk (d : Int)) 1 = 0 then (zpl n k (zor tk (zshl 1 (d : Int)))).map (d :: ·) else []
theorem zpl_s (n k : Nat) (tk : Int) : zpl n (k + 1) tk = zpf (zpg n k tk) n := rfl
def zvl (T F : Int → Int) : Int → Int → Int → List Nat → Int
  | _, s, r, [] => (s.natAbs : Int) * 1000000 + r
  | i, s, r, d :: l => zvl T F (i + 1) (s + T i * F d) (r * 10 + d) l
theorem zvl_nn (T F : Int → Int) : ∀ (l : List Nat) (i s r : Int), 0 ≤ r → 0 ≤ zvl T F i s r l
  | [], i, s, r, h => by show 0 ≤ (s.natAbs : Int) * 1000000 + r; omega
  | d :: l, i, s, r, h => zvl_nn T F l (i + 1) _ (r * 10 + d) (by omega)
def zmn (f : List Nat → Int) : List (List Nat) → Int
  | [] => 2147483647
  | l :: ls => zm_min (f l) (zmn f ls)
theorem zmn_le (f : List Nat → Int) : ∀ ls, zmn f ls ≤ 2147483647
  | [] => Int.le_refl _
  | l :: ls => by
    have h := zmn_le f ls
    show zm_min (f l) (zmn f ls) ≤ _
    have := zm_min_f (f l) (zmn f ls)
    omega
theorem zmn_nn {f : List Nat → Int} (hf : ∀ l, 0 ≤ f l) : ∀ ls, 0 ≤ zmn f ls
  | [] => by show (0 : Int) ≤ 2147483647; decide
  | l :: ls => by
    have h := zmn_nn hf ls
    have h2 := hf l
    show 0 ≤ zm_min (f l) (zmn f ls)
    have := zm_min_f (f l) (zmn f ls)
    omega
theorem zmn_app (f : List Nat → Int) (b : List (List Nat)) : ∀ a, zmn f (a ++ b) = zm_min (zmn f a) (zmn f b)
  | [] => by
    show zmn f b = zm_min 2147483647 (zmn f b)
    have h := zmn_le f b
    have := zm_min_f 2147483647 (zmn f b)
    omega
  | l :: a => by
    show zm_min (f l) (zmn f (a ++ b)) = zm_min (zm_min (f l) (zmn f a)) (zmn f b)
    rw [zmn_app f b a]
    have h1 := zm_min_f (f l) (zm_min (zmn f a) (zmn f b))
    have h2 := zm_min_f (zmn f a) (zmn f b)
    have h3 := zm_min_f (zm_min (f l) (zmn f a)) (zmn f b)
    have h4 := zm_min_f (f l) (zmn f a)
    omega
theorem zmn_map (f : List Nat → Int) (d : Nat) : ∀ ls : List (List Nat), zmn f (ls.map (d :: ·)) = zmn (fun l => f (d :: l)) ls
  | [] => rfl
  | l :: ls => by
    show zm_min (f (d :: l)) (zmn f (ls.map (d :: ·))) = zm_min (f (d :: l)) (zmn (fun l => f (d :: l)) ls)
    rw [zmn_map f d ls]
theorem zmn_1 {f : List Nat → Int} {l : List Nat} (h : f l ≤ 2147483647) : zmn f [l] = f l := by
  show zm_min (f l) 2147483647 = f l
  have := zm_min_f (f l) 2147483647
  omega
/-- the class: what leastLean answers; what its loop has behind a arms -/
def zhw (T F : Int → Int) (n i tk s r : Int) : Int := zmn (zvl T F i s r) (zpl n.toNat (n - i).toNat tk)
def zhp (T F : Int → Int) (n i tk s r a : Int) : Int := zmn (zvl T F i s r) (zpf (zpg n.toNat (n - (i + 1)).toNat tk) a.toNat)
theorem zhw_0 {T F : Int → Int} {n i tk s r : Int} (h : n ≤ i) (b : (s.natAbs : Int) * 1000000 + r ≤ 2147483647) : zhw T F n i tk s r = (s.natAbs : Int) * 1000000 + r := by
  unfold zhw
  rw [show (n - i).toNat = 0 by omega]
  exact zmn_1 (l := []) b
theorem zhw_e {T F : Int → Int} {n i tk s r : Int} (h : i < n) : zhw T F n i tk s r = zhp T F n i tk s r n := by
  unfold zhw zhp
  rw [show (n - i).toNat = (n - (i + 1)).toNat + 1 by omega, zpl_s]
theorem zhp_0 {T F : Int → Int} {n i tk s r : Int} : zhp T F n i tk s r 0 = 2147483647 := rfl
theorem zhp_le (T F : Int → Int) (n i tk s r a : Int) : zhp T F n i tk s r a ≤ 2147483647 := zmn_le _ _
theorem zhp_a {T F : Int → Int} {n i tk s r a : Int} (ha : 0 ≤ a) : zhp T F n i tk s r (a + 1) = zm_min (zhp T F n i tk s r a) (zmn (zvl T F i s r) (zpg n.toNat (n - (i + 1)).toNat tk a.toNat)) := by
  unfold zhp
  rw [show (a + 1).toNat = a.toNat + 1 by omega]
  exact zmn_app _ _ _
theorem zhp_t {T F : Int → Int} {n i tk s r a : Int} (ha : 0 ≤ a) (b : ¬ zand (zshr tk a) 1 = 0) : zhp T F n i tk s r (a + 1) = zhp T F n i tk s r a := by
  have e : ((a.toNat : Nat) : Int) = a := by omega
  rw [zhp_a ha]
  have z : zpg n.toNat (n - (i + 1)).toNat tk a.toNat = [] := by
    unfold zpg
    rw [e, if_neg b]
  rw [z]
  show zm_min _ 2147483647 = _
  have h := zhp_le T F n i tk s r a
  have := zm_min_f (zhp T F n i tk s r a) 2147483647
  omega
theorem zhp_s {T F : Int → Int} {n i tk s r a : Int} (ha : 0 ≤ a) (b : zand (zshr tk a) 1 = 0) : zhp T F n i tk s r (a + 1) = zm_min (zhp T F n i tk s r a) (zhw T F n (i + 1) (zor tk (zshl 1 a)) (s + T i * F a) (r * 10 + a)) := by
  have e : ((a.toNat : Nat) : Int) = a := by omega
  rw [zhp_a ha]
  have z : zpg n.toNat (n - (i + 1)).toNat tk a.toNat = (zpl n.toNat (n - (i + 1)).toNat (zor tk (zshl 1 a))).map (a.toNat :: ·) := by
    unfold zpg
    rw [e, if_pos b]
  rw [z, zmn_map]
  have f : (fun l => zvl T F i s r (a.toNat :: l)) = zvl T F (i + 1) (s + T i * F a) (r * 10 + a) := by
    funext l
    show zvl T F (i + 1) (s + T i * F (a.toNat : Nat)) (r * 10 + (a.toNat : Nat)) l = _
    rw [e]
  rw [f]
  rfl
/-- the reference: orders on its row -/
def zat (p : Int → Int) (o : Int) (l : List Nat) : Prop := ∀ j : Nat, j < l.length → p (o + j) = ((l.getD j 0 : Nat) : Int)
theorem zat_0 {p : Int → Int} {o : Int} {d : Nat} {l : List Nat} (h : zat p o (d :: l)) : p o = d := by
  have := h 0 (Nat.succ_pos _)
  rw [show o + ((0 : Nat) : Int) = o by omega] at this
  exact this
theorem zat_s {p : Int → Int} {o : Int} {d : Nat} {l : List Nat} (h : zat p o (d :: l)) : zat p (o + 1) l := by
  intro j hj
  have := h (j + 1) (Nat.succ_lt_succ hj)
  rw [show o + ((j + 1 : Nat) : Int) = o + 1 + j by omega] at this
  exact this
def zvp (T F p : Int → Int) : Nat → Int → Int → Int → Int
  | 0, _, s, r => (s.natAbs : Int) * 1000000 + r
  | m + 1, k, s, r => zvp T F p m (k + 1) (s + T k * F (p k)) (r * 10 + p k)
def zdp (p : Int → Int) : Nat → Int → Int → Int
  | 0, _, r => r
  | m + 1, k, r => zdp p m (k + 1) (r * 10 + p k)
def zdl : Int → List Nat → Int
  | r, [] => r
  | r, d :: l => zdl (r * 10 + d) l
theorem zvp_l {T F p : Int → Int} : ∀ (l : List Nat) (k s r : Int), zat p k l → zvp T F p l.length k s r = zvl T F k s r l
  | [], k, s, r, _ => rfl
  | d :: l, k, s, r, h => by
    show zvp T F p l.length (k + 1) (s + T k * F (p k)) (r * 10 + p k) = zvl T F (k + 1) (s + T k * F d) (r * 10 + d) l
    rw [zat_0 h]
    exact zvp_l l (k + 1) _ _ (zat_s h)
theorem zdp_l {p : Int → Int} : ∀ (l : List Nat) (k r : Int), zat p k l → zdp p l.length k r = zdl r l
  | [], k, r, _ => rfl
  | d :: l, k, r, h => by
    show zdp p l.length (k + 1) (r * 10 + p k) = zdl (r * 10 + d) l
    rw [zat_0 h]
    exact zdp_l l (k + 1) _ (zat_s h)
theorem zvp_e {T F p : Int → Int} {n k s r : Int} (h : n ≤ k) : zvp T F p (n - k).toNat k s r = (s.natAbs : Int) * 1000000 + r := by
  rw [show (n - k).toNat = 0 by omega]; rfl
theorem zvp_s {T F p : Int → Int} {n k s r : Int} (h : k < n) : zvp T F p (n - k).toNat k s r = zvp T F p (n - (k + 1)).toNat (k + 1) (s + T k * F (p k)) (r * 10 + p k) := by
  rw [show (n - k).toNat = (n - (k + 1)).toNat + 1 by omega]; rfl
theorem zdp_e {p : Int → Int} {n k r : Int} (h : n ≤ k) : zdp p (n - k).toNat k r = r := by
  rw [show (n - k).toNat = 0 by omega]; rfl
theorem zdp_s {p : Int → Int} {n k r : Int} (h : k < n) : zdp p (n - k).toNat k r = zdp p (n - (k + 1)).toNat (k + 1) (r * 10 + p k) := by
  rw [show (n - k).toNat = (n - (k + 1)).toNat + 1 by omega]; rfl
/-- the next order, and that the orders follow one another so -/
def zgt (l : List Nat) (j : Nat) : Nat := l.getD j 0
def zdes (l : List Nat) (i n : Nat) : Bool := (List.range n).all fun j => !(decide (i ≤ j) && decide (j + 1 < n)) || decide (zgt l (j + 1) < zgt l j)
def znk (l : List Nat) (n i k : Nat) : Bool := decide (i < k) && (decide (zgt l i < zgt l k) && (List.range n).all fun j => !(decide (k < j)) || decide (zgt l j < zgt l i))
def zxl (l : List Nat) (n i k : Nat) : List Nat := (List.range n).map fun j => if j < i then zgt l j else if j = i then zgt l k else if n + i - j = k then zgt l i else zgt l (n + i - j)
def zstp (n : Nat) (l l' : List Nat) : Bool := !(zdes l 0 n) && (decide (zdl 0 l < zdl 0 l') && (List.range n).all fun i => !(decide (i + 1 < n) && (decide (zgt l i < zgt l (i + 1)) && zdes l (i + 1) n)) || (List.range n).all fun k => !(znk l n i k) || (zxl l n i k == l'))
def zchn (n : Nat) : List (List Nat) → Bool
  | [] => true
  | [l] => l.length == n && zdes l 0 n
  | l :: l' :: R => l.length == n && (zstp n l l' && zchn n (l' :: R))
def zcho (n : Nat) : Bool := zchn n (zpl n n 0) && ((zpl n n 0).head? == some (List.range n))
theorem zcho_1 : zcho 1 = true := by decide +kernel
theorem zcho_2 : zcho 2 = true := by decide +kernel
theorem zcho_3 : zcho 3 = true := by decide +kernel
theorem zcho_4 : zcho 4 = true := by decide +kernel
theorem zcho_5 : zcho 5 = true := by decide +kernel
theorem zcho_6 : zcho 6 = true := by decide +kernel
theorem zcho_n {n : Nat} (h : 1 ≤ n ∧ n ≤ 6) : zcho n = true := by
  have : n = 1 ∨ n = 2 ∨ n = 3 ∨ n = 4 ∨ n = 5 ∨ n = 6 := by omega
  rcases this with rfl | rfl | rfl | rfl | rfl | rfl
  · exact zcho_1
  · exact zcho_2
  · exact zcho_3
  · exact zcho_4
  · exact zcho_5
  · exact zcho_6
theorem zba {a b : Bool} (h : (a && b) = true) : a = true ∧ b = true := by cases a <;> cases b <;> simp_all
theorem zxo {a b : Bool} (h : (!a || b) = true) (ha : a = true) : b = true := by cases a <;> cases b <;> simp_all
theorem zchn_a {n : Nat} : ∀ A X : List (List Nat), zchn n (A ++ X) = true → zchn n X = true
  | [], X, h => h
  | [a], [], _ => rfl
  | [a], x :: X, h => (zba (zba h).2).2
  | a :: b :: A, X, h => zchn_a (b :: A) X (zba (zba h).2).2
theorem zchn_len {n : Nat} {l : List Nat} {B : List (List Nat)} (h : zchn n (l :: B) = true) : l.length = n := by
  cases B with
  | nil => exact eq_of_beq (zba h).1
  | cons l' R => exact eq_of_beq (zba h).1
theorem zdes_y {p : Int → Int} {l : List Nat} {n i : Nat} (e : zat p 0 l) (hl : l.length = n) (h : ∀ j : Int, i ≤ j → j + 1 < n → p (j + 1) < p j) : zdes l i n = true := by
  unfold zdes
  rw [List.all_eq_true]
  intro j hj
  have hj2 := List.mem_range.mp hj
  by_cases c : i ≤ j ∧ j + 1 < n
  · have a := e j (by omega)
    have b := e (j + 1) (by omega)
    have d := h j (by omega) (by omega)
    rw [show (0 : Int) + ((j : Nat) : Int) = j by omega] at a
    rw [show (0 : Int) + ((j + 1 : Nat) : Int) = j + 1 by omega] at b
    rw [a, b] at d
    have : zgt l (j + 1) < zgt l j := by unfold zgt; omega
    rw [decide_eq_true this, Bool.or_true]
  · have : (decide (i ≤ j) && decide (j + 1 < n)) = false := by
      by_cases c1 : i ≤ j
      · have c2 : ¬ j + 1 < n := fun x => c ⟨c1, x⟩
        rw [decide_eq_false c2, Bool.and_false]
      · rw [decide_eq_false c1, Bool.false_and]
    rw [this]; rfl
theorem zdes_i {p : Int → Int} {l : List Nat} {n i : Nat} {j : Int} (e : zat p 0 l) (hl : l.length = n) (h : zdes l i n = true) (h1 : i ≤ j) (h2 : j + 1 < n) : p (j + 1) < p j := by
  unfold zdes at h
  rw [List.all_eq_true] at h
  have ej : ((j.toNat : Nat) : Int) = j := by omega
  have g := h j.toNat (List.mem_range.mpr (by omega))
  have g2 := zxo g (by rw [decide_eq_true (show i ≤ j.toNat by omega), decide_eq_true (show j.toNat + 1 < n by omega)]; rfl)
  have g3 := of_decide_eq_true g2
  have a := e j.toNat (by omega)
  have b := e (j.toNat + 1) (by omega)
  rw [show (0 : Int) + ((j.toNat : Nat) : Int) = j by omega] at a
  rw [show (0 : Int) + ((j.toNat + 1 : Nat) : Int) = j + 1 by omega] at b
  rw [a, b]
  unfold zgt at g3
  omega
def zqk (p : Int → Int) (i k j : Int) : Int := if j = k then p i else p j
def znr (n : Int) (p p' : Int → Int) : Prop := ∃ i k, 0 ≤ i ∧ i < k ∧ k < n ∧ p i < p (i + 1) ∧ (∀ j, i + 1 ≤ j → j + 1 < n → p (j + 1) < p j) ∧ p i < p k ∧ (∀ j, k < j → j < n → p j < p i) ∧ (∀ j, 0 ≤ j → j < i → p' j = p j) ∧ p' i = p k ∧ ∀ j, i < j → j < n → p' j = zqk p i k (n + i - j)
theorem zat_j {p : Int → Int} {l : List Nat} (e : zat p 0 l) {j : Nat} (h : j < l.length) : p j = zgt l j := by
  have a := e j h
  rw [show (0 : Int) + ((j : Nat) : Int) = j by omega] at a
  exact a
theorem zat_r {p : Int → Int} {g : Nat → Nat} {n : Nat} (h : ∀ j, j < n → p (j : Int) = g j) : zat p 0 ((List.range n).map g) := by
  intro j hj
  rw [List.length_map, List.length_range] at hj
  rw [show (0 : Int) + ((j : Nat) : Int) = j by omega, h j hj]
  simp [List.getD, hj]
theorem znr_s {p p' : Int → Int} {l l' : List Nat} {n : Nat} (e : zat p 0 l) (hl : l.length = n) (c : zstp n l l' = true) (r : znr n p p') : zat p' 0 l' ∧ zdl 0 l < zdl 0 l' := by
  obtain ⟨i, k, i0, ik, kn, r1, r2, r3, r4, r5, r6, r7⟩ := r
  obtain ⟨_, c2⟩ := zba c
  obtain ⟨c3, c4⟩ := zba c2
  refine ⟨?_, of_decide_eq_true c3⟩
  rw [List.all_eq_true] at c4
  obtain ⟨i', rfl⟩ : ∃ x : Nat, i = x := ⟨i.toNat, by omega⟩
  obtain ⟨k', rfl⟩ : ∃ x : Nat, k = x := ⟨k.toNat, by omega⟩
  have ai := zat_j e (j := i') (by omega)
  have ak := zat_j e (j := k') (by omega)
  have ai1 := zat_j e (j := i' + 1) (by omega)
  rw [show ((i' + 1 : Nat) : Int) = (i' : Int) + 1 by omega] at ai1
  have d1 := zxo (c4 i' (List.mem_range.mpr (by omega))) (by
    rw [decide_eq_true (show i' + 1 < n by omega), decide_eq_true (show zgt l i' < zgt l (i' + 1) by omega), zdes_y e hl (i := i' + 1) (fun j a b => r2 j (by omega) b)]; rfl)
  rw [List.all_eq_true] at d1
  have d2 := zxo (d1 k' (List.mem_range.mpr (by omega))) (by
    unfold znk
    rw [decide_eq_true (show i' < k' by omega), decide_eq_true (show zgt l i' < zgt l k' by omega), Bool.true_and, Bool.true_and, List.all_eq_true]
    intro j hj
    have hj2 := List.mem_range.mp hj
    by_cases x : k' < j
    · have aj := zat_j e (j := j) (by omega)
      have := r4 j (by omega) (by omega)
      rw [decide_eq_true (show zgt l j < zgt l i' by omega), Bool.or_true]
    · rw [decide_eq_false x]; rfl)
  have d3 : zxl l n i' k' = l' := eq_of_beq d2
  rw [← d3]
  refine zat_r (fun j hj => ?_)
  by_cases x : j < i'
  · rw [if_pos x, r5 j (by omega) (by omega)]
    exact zat_j e (by omega)
  · rw [if_neg x]
    by_cases y : j = i'
    · rw [if_pos y, y, r6]; exact ak
    · rw [if_neg y, r7 j (by omega) (by omega)]
      unfold zqk
      have aj := zat_j e (j := n + i' - j) (by omega)
      rw [show ((n + i' - j : Nat) : Int) = (n : Int) + i' - j by omega] at aj
      by_cases w : n + i' - j = k'
      · rw [if_pos w, if_pos (show (n : Int) + i' - j = k' by omega)]; exact ai
      · rw [if_neg w, if_neg (show ¬ (n : Int) + i' - j = k' by omega)]; exact aj
/-- the reference's loop -/
def zhm (T F : Int → Int) (A : List (List Nat)) (least row : Int) : Prop := (A = [] ∧ least = 100000000 ∧ row = 0) ∨ (¬ A = [] ∧ least * 1000000 + row = zmn (zvl T F 0 0 0) A ∧ (0 ≤ row ∧ row < 1000000) ∧ 0 ≤ least ∧ least ≤ 1080)
def zhI (T F : Int → Int) (n : Int) (p : Int → Int) (least row more : Int) : Prop := (more = 1 → ∃ A l B, zpl n.toNat n.toNat 0 = A ++ l :: B ∧ zat p 0 l ∧ zhm T F A least row ∧ (A = [] ∨ row < zdl 0 l)) ∧ (more = 0 → zhm T F (zpl n.toNat n.toNat 0) least row)
theorem zhI_0 {T F : Int → Int} {n : Int} {p : Int → Int} (hn : 1 ≤ n ∧ n ≤ 6) (hp : ∀ j, 0 ≤ j → j < n → p j = j) : zhI T F n p 100000000 0 1 := by
  refine ⟨fun _ => ?_, fun z => absurd z (by decide)⟩
  have c := (zba (zcho_n (n := n.toNat) (by omega))).2
  cases e : zpl n.toNat n.toNat 0 with
  | nil => rw [e] at c; exact absurd c Bool.false_ne_true
  | cons l B =>
    rw [e] at c
    have c2 : some l = some (List.range n.toNat) := eq_of_beq c
    have c3 := Option.some.inj c2
    refine ⟨[], l, B, rfl, ?_, Or.inl ⟨rfl, rfl, rfl⟩, Or.inl rfl⟩
    intro j hj
    rw [c3] at hj ⊢
    rw [List.length_range] at hj
    rw [show (0 : Int) + ((j : Nat) : Int) = j by omega, hp j (by omega) (by omega)]
    simp [List.getD, hj]
theorem zhI_s {T F : Int → Int} {n : Int} {p p' : Int → Int} {least row s d least' row' v : Int} (hn : 1 ≤ n ∧ n ≤ 6) (q : zhI T F n p least row 1) (hs : 0 ≤ s ∧ s ≤ 1080) (hd : 0 ≤ d ∧ d < 1000000) (f1 : zvp T F p n.toNat 0 0 0 = s * 1000000 + d) (f2 : zdp p n.toNat 0 0 = d) (c : (s < least ∧ least' = s ∧ row' = d) ∨ (least ≤ s ∧ least' = least ∧ row' = row)) (hv : (v = 0 ∧ ∀ j, 0 ≤ j → j + 1 < n → p (j + 1) < p j) ∨ (v = 1 ∧ znr n p p')) : zhI T F n p' least' row' v := by
  obtain ⟨A, l, B, e, ep, m, o⟩ := q.1 rfl
  have ch := (zba (zcho_n (n := n.toNat) (by omega))).1
  rw [e] at ch
  have cl := zchn_a A (l :: B) ch
  have hl := zchn_len cl
  have g1 : zvl T F 0 0 0 l = s * 1000000 + d := by rw [← zvp_l l 0 0 0 ep, hl]; exact f1
  have g2 : zdl 0 l = d := by rw [← zdp_l l 0 0 ep, hl]; exact f2
  have new : zhm T F (A ++ [l]) least' row' := by
    refine Or.inr ⟨by simp, ?_, ?_, ?_⟩
    · rw [zmn_app, zmn_1 (f := zvl T F 0 0 0) (l := l) (by omega), g1]
      rcases m with ⟨m1, m2, m3⟩ | ⟨m1, m2, m3, m4⟩
      · rw [m1]
        show _ = zm_min 2147483647 _
        have := zm_min_f 2147483647 (s * 1000000 + d)
        omega
      · rw [← m2]
        have := zm_min_f (least * 1000000 + row) (s * 1000000 + d)
        have o2 := o.resolve_left m1
        omega
    · rcases m with ⟨m1, m2, m3⟩ | ⟨m1, m2, m3, m4⟩ <;> omega
    · rcases m with ⟨m1, m2, m3⟩ | ⟨m1, m2, m3, m4⟩ <;> omega
  rcases hv with ⟨v0, hv⟩ | ⟨v1, hv⟩
  · refine ⟨fun z => absurd (v0.symm.trans z) (by decide), fun _ => ?_⟩
    cases B with
    | nil => rw [e]; exact new
    | cons l' R =>
      have c1 := (zba (zba (zba cl).2).1).1
      rw [zdes_y ep hl (i := 0) (fun j a b => hv j a (by omega))] at c1
      exact absurd c1 (by decide)
  · refine ⟨fun _ => ?_, fun z => absurd (v1.symm.trans z) (by decide)⟩
    have hn2 : ((n.toNat : Nat) : Int) = n := by omega
    cases B with
    | nil =>
      have c1 := (zba cl).2
      obtain ⟨i, k, i0, ik, kn, r1, _⟩ := hv
      have := zdes_i (j := i) ep hl c1 (by omega) (by omega)
      omega
    | cons l' R =>
      have c1 := (zba (zba cl).2).1
      have st := znr_s ep hl c1 (by rw [hn2]; exact hv)
      refine ⟨A ++ [l], l', R, by rw [e]; simp, st.1, new, Or.inr ?_⟩
      have st2 := st.2
      rcases m with ⟨m1, m2, m3⟩ | ⟨m1, m2, m3, m4⟩
      · omega
      · have o2 := o.resolve_left m1
        omega
def zhX (T F : Int → Int) (n : Int) : Int := zhw T F n 0 0 0 0
def zhD (X p v : Int) : Prop := (p = 0 → v = X / 1000000) ∧ (p = 1 → v = X % 1000000) ∧ (¬ (0 ≤ p ∧ p ≤ 1) → v = -1)
theorem zhD_u {X p v v' : Int} (a : zhD X p v) (b : zhD X p v') : v = v' := by
  obtain ⟨a1, a2, a3⟩ := a
  obtain ⟨b1, b2, b3⟩ := b
  by_cases z : p = 0
  · rw [a1 z, b1 z]
  · by_cases y : p = 1
    · rw [a2 y, b2 y]
    · rw [a3 (by omega), b3 (by omega)]
theorem zhI_e {T F : Int → Int} {n : Int} {p : Int → Int} {least row : Int} (hn : 1 ≤ n ∧ n ≤ 6) (q : zhI T F n p least row 0) : zhX T F n / 1000000 = least ∧ zhX T F n % 1000000 = row := by
  have m := q.2 rfl
  have x : zhX T F n = zmn (zvl T F 0 0 0) (zpl n.toNat n.toNat 0) := by unfold zhX zhw; rw [Int.sub_zero]
  have c := (zba (zcho_n (n := n.toNat) (by omega))).2
  rcases m with ⟨m1, m2, m3⟩ | ⟨m1, m2, m3, m4⟩
  · rw [m1] at c; exact absurd c Bool.false_ne_true
  · rw [x, ← m2]; omega
theorem zhX_0 (T F : Int → Int) : zhX T F 0 = 0 := zhw_0 (by decide) (by decide)
theorem zhx {T T' F F' : Int → Int} {n : Nat} (eT : ∀ i : Int, 0 ≤ i → i < n → T i = T' i) (eF : ∀ i : Int, 0 ≤ i → i < n → F i = F' i) : ∀ (k : Nat) (i tk s r : Int), 0 ≤ i → i + k ≤ n → zmn (zvl T F i s r) (zpl n k tk) = zmn (zvl T' F' i s r) (zpl n k tk)
  | 0, i, tk, s, r, _, _ => rfl
  | k + 1, i, tk, s, r, h0, h1 => by
    have st : ∀ a : Nat, a ≤ n → zmn (zvl T F i s r) (zpf (zpg n k tk) a) = zmn (zvl T' F' i s r) (zpf (zpg n k tk) a) := by
      intro a
      induction a with
      | zero => intro _; rfl
      | succ a ih =>
        intro ha
        show zmn _ (zpf (zpg n k tk) a ++ zpg n k tk a) = zmn _ (zpf (zpg n k tk) a ++ zpg n k tk a)
        rw [zmn_app, zmn_app, ih (by omega)]
        congr 1
        unfold zpg
        by_cases c : zand (zshr tk (a : Int)) 1 = 0
        · rw [if_pos c, zmn_map, zmn_map]
          have e1 : (fun l => zvl T F i s r (a :: l)) = zvl T F (i + 1) (s + T i * F a) (r * 10 + a) := rfl
          have e2 : (fun l => zvl T' F' i s r (a :: l)) = zvl T' F' (i + 1) (s + T' i * F' a) (r * 10 + a) := rfl
          rw [e1, e2, eT i h0 (by omega), eF a (by omega) (by omega)]
          exact zhx eT eF k (i + 1) _ _ _ (by omega) (by omega)
        · rw [if_neg c]; rfl
    exact st n (Nat.le_refl n)
theorem zhX_x {T T' F F' : Int → Int} {n : Int} (h : 0 ≤ n) (eT : ∀ i, 0 ≤ i → i < n → T i = T' i) (eF : ∀ i, 0 ≤ i → i < n → F i = F' i) : zhX T F n = zhX T' F' n := by
  unfold zhX zhw
  rw [Int.sub_zero]
  exact zhx (fun i a b => eT i a (by omega)) (fun i a b => eF i a (by omega)) _ 0 0 0 0 (by decide) (by omega)
/-- the swap loop of goesToNextOrder, behind a -/
def zrv (n i k a : Int) (p P : Int → Int) : Prop := (∀ j, 0 ≤ j → j < i → P j = p j) ∧ P i = p k ∧ ∀ j, i < j → j < n → P j = zqk p i k (if j < a ∨ n + i - a < j then n + i - j else j)
theorem zrv_0 {n i k : Int} {h h1 h2 : zM} {c : Int} (e1 : h1 = zwr h c i (h.2 c k)) (e2 : h2 = zwr h1 c k (h.2 c i)) (hi : i < k) : zrv n i k (i + 1) (h.2 c) (h2.2 c) := by
  refine ⟨fun j a b => ?_, ?_, fun j a b => ?_⟩
  · rw [zwr_r e2 (by omega), zwr_r e1 (by omega)]
  · rw [zwr_r e2 (by omega), zwr_v e1]
  · rw [if_neg (by omega)]
    unfold zqk
    by_cases x : j = k
    · rw [if_pos x, x, zwr_v e2]
    · rw [if_neg x, zwr_r e2 (by omega), zwr_r e1 (by omega)]
theorem zrv_s {n i k a b : Int} {p : Int → Int} {h h1 h2 : zM} {c : Int} (r : zrv n i k a p (h.2 c)) (hb : a + b = n + i) (ha : i < a ∧ a < b) (e1 : h1 = zwr h c a (h.2 c b)) (e2 : h2 = zwr h1 c b (h.2 c a)) : zrv n i k (a + 1) p (h2.2 c) := by
  obtain ⟨r1, r2, r3⟩ := r
  refine ⟨fun j x y => ?_, ?_, fun j x y => ?_⟩
  · rw [zwr_r e2 (by omega), zwr_r e1 (by omega)]; exact r1 j x y
  · rw [zwr_r e2 (by omega), zwr_r e1 (by omega)]; exact r2
  · by_cases z : j = b
    · rw [z, zwr_v e2, r3 a (by omega) (by omega), if_neg (by omega), if_pos (by omega), show n + i - b = a by omega]
    · by_cases w : j = a
      · rw [w, zwr_r e2 (by omega), zwr_v e1, r3 b (by omega) (by omega), if_neg (by omega), if_pos (by omega), show n + i - a = b by omega]
      · rw [zwr_r e2 (by omega), zwr_r e1 (by omega), r3 j x y]
        by_cases u : j < a ∨ n + i - a < j
        · rw [if_pos u, if_pos (by omega)]
        · rw [if_neg u, if_neg (by omega)]
theorem zrv_e {n i k a b : Int} {p P : Int → Int} (r : zrv n i k a p P) (hb : a + b = n + i) (ha : b ≤ a) : (∀ j, 0 ≤ j → j < i → P j = p j) ∧ P i = p k ∧ ∀ j, i < j → j < n → P j = zqk p i k (n + i - j) := by
  obtain ⟨r1, r2, r3⟩ := r
  refine ⟨r1, r2, fun j x y => ?_⟩
  rw [r3 j x y]
  by_cases u : j < a ∨ n + i - a < j
  · rw [if_pos u]
  · rw [if_neg u, show n + i - j = j by omega]
theorem zhp_nn (T F : Int → Int) (n i tk s a : Int) {r : Int} (h : 0 ≤ r) : 0 ≤ zhp T F n i tk s r a := zmn_nn (fun l => zvl_nn T F l i s r h) _
def zr10 (i r : Int) : Prop := 0 ≤ r ∧ ((i = 0 ∧ r = 0) ∨ (i = 1 ∧ r ≤ 9) ∨ (i = 2 ∧ r ≤ 99) ∨ (i = 3 ∧ r ≤ 999) ∨ (i = 4 ∧ r ≤ 9999) ∨ (i = 5 ∧ r ≤ 99999) ∨ (i = 6 ∧ r ≤ 999999))
theorem zr10_s {i r d : Int} (h : zr10 i r) (hi : i ≤ 5) (hd : 0 ≤ d ∧ d ≤ 9) : zr10 (i + 1) (r * 10 + d) := by
  unfold zr10 at h ⊢
  omega
theorem zr10_b {i r : Int} (h : zr10 i r) : 0 ≤ r ∧ r ≤ 999999 ∧ (i ≤ 5 → r ≤ 99999) := by
  unfold zr10 at h
  omega
theorem zr10_0 : zr10 0 0 := by unfold zr10; omega
abbrev q2_X8_leastLean (h : zM) (p1 p2 p3 p4 p5 : Int) : Option zV → zM → Prop := zqi fun v h' => h = h' ∧ (0 ≤ v ∧ v ≤ 2147483647) ∧ (v = zhw (h.2 (p1 + 6)) (h.2 (p1 + 5)) (h.2 p1 9) p2 p3 p4 p5)
set_option maxRecDepth 100000 in
set_option maxHeartbeats 8000000 in
theorem s2_X8_leastLean (l : Launch) : ∀ n0 : Nat, (∀ (h : zM) (p1 p2 p3 p4 p5 : Int), (okC h) → (zPu p1) → (0 ≤ p2 ∧ p2 ≤ 6) → ((-2147483648) ≤ p3 ∧ p3 ≤ 2147483647) → ((-1080) ≤ p4 ∧ p4 ≤ 1080) → (0 ≤ p5 ∧ p5 ≤ 999999) → (p2 ≤ h.2 p1 9) → (-180 * p2 ≤ p4 ∧ p4 ≤ 180 * p2) → (zr10 p2 p5) → (7 - p2).toNat < n0 → zT shC l yX8_leastLean cX8_leastLean 8 (some .int) (rmL (2 + 1 * n0 + 0)) 0 0 [.inr p1, .inl p2, .inl p3, .inl p4, .inl p5] h (q2_X8_leastLean h p1 p2 p3 p4 p5)) := by
  intro n0
  induction n0 with
  | zero => exact (fun h p1 p2 p3 p4 p5 s0 r_p1 b_p2 b_p3 b_p4 b_p5 u_0 u_1 u_2 hm => absurd hm (Nat.not_lt_zero _))
  | succ n0 ihr =>
    have hr0 : ∀ (h : zM) (p1 p2 p3 p4 p5 : Int), (okC h) → (zPu p1) → (0 ≤ p2 ∧ p2 ≤ 6) → ((-2147483648) ≤ p3 ∧ p3 ≤ 2147483647) → ((-1080) ≤ p4 ∧ p4 ≤ 1080) → (0 ≤ p5 ∧ p5 ≤ 999999) → (p2 ≤ h.2 p1 9) → (-180 * p2 ≤ p4 ∧ p4 ≤ 180 * p2) → (zr10 p2 p5) → (7 - p2).toNat < (n0 + 1) → zT shC l yX8_leastLean cX8_leastLean 8 (some .int) (rmL (2 + 1 * (n0 + 1) + 0)) 0 0 [.inr p1, .inl p2, .inl p3, .inl p4, .inl p5] h (q2_X8_leastLean h p1 p2 p3 p4 p5) := by
      intro h p1 p2 p3 p4 p5 s0 r_p1 b_p2 b_p3 b_p4 b_p5 u_0 u_1 u_2 hm0
      refine zT_of (by decide +kernel) (L0 := [some (.inr p1), some (.inl p2), some (.inl p3), some (.inl p4), some (.inl p5), none, none, none]) rfl (Nat.le_of_ble_eq_true rfl) ?_
      have b1001 := zPu_b r_p1
      have zn9 := fb_5_0_9 s0 r_p1
      have zr9 := zr10_b u_2
      refine zj_iload_n (zdk ttX8_leastLean 0 rfl rfl) rfl ?_
      refine zj_aload_n (zdk ttX8_leastLean 1 rfl rfl) rfl (by omega) ?_
      have b1002 : 0 ≤ (h.2 p1 9) ∧ (h.2 p1 9) ≤ 6 := fb_5_0_9 s0 r_p1
      refine zj_geti (v := (h.2 p1 9)) (zdk ttX8_leastLean 2 rfl rfl) zf_RX8_73 rfl (k_5_0 s0 r_p1) rfl ?_
      refine zj_icmp_ge (t := 14) (zdk ttX8_leastLean 3 rfl rfl) (by decide) (by omega) (by omega) (fun c1003 => ?_) (fun c1003 => ?_)
      · refine zj_iload_n (zdk ttX8_leastLean 7 rfl rfl) rfl ?_
        refine zj_abs (zdk ttX8_leastLean 8 rfl rfl) mx_RX8_76 (by omega) (Nat.le_of_ble_eq_true rfl) (rm_m (by omega)) ?_
        refine zj_ldc (z := 1000000) (zdk ttX8_leastLean 9 rfl rfl) wc_RX8_79 ?_
        refine zj_imul (zdk ttX8_leastLean 10 rfl rfl) ?_
        refine zj_iload (zdk ttX8_leastLean 11 rfl rfl) rfl ?_
        refine zj_iadd (zdk ttX8_leastLean 12 rfl rfl) ?_
        exact zj_iret rfl (zdk ttX8_leastLean 13 rfl rfl) (Nat.le_refl _) (Nat.le_refl _) ⟨(((p4.natAbs : Int) * 1000000) + p5), rfl, rfl, by omega, (zhw_0 (by omega) (by omega)).symm⟩
      · refine zj_iload_n (zdk ttX8_leastLean 4 rfl rfl) rfl ?_
        refine zj_bipush (zdk ttX8_leastLean 5 rfl rfl) (by decide) ?_
        refine zj_icmp_lt (t := 25) (zdk ttX8_leastLean 6 rfl rfl) (by decide) (by omega) (by decide) (fun c1004 => ?_) (fun c1004 => ?_)
        · refine zj_ldc (z := 2147483647) (zdk ttX8_leastLean 14 rfl rfl) wc_RX8_57 ?_
          refine zj_istore (L' := [some (.inr p1), some (.inl p2), some (.inl p3), some (.inl p4), some (.inl p5), some (.inl 2147483647), none, none]) (zdk ttX8_leastLean 15 rfl rfl) (by decide) rfl ?_
          refine zj_iconst (zdk ttX8_leastLean 16 rfl rfl) ?_
          refine zj_istore (L' := [some (.inr p1), some (.inl p2), some (.inl p3), some (.inl p4), some (.inl p5), some (.inl 2147483647), some (.inl 0), none]) (zdk ttX8_leastLean 17 rfl rfl) (by decide) rfl ?_
          have lp1022 : ∀ (n : Nat) (x1005 x1006 : Int), (0 ≤ x1005 ∧ x1005 ≤ 2147483647) → (0 ≤ x1006 ∧ x1006 ≤ 6) → (x1005 = zhp (h.2 (p1 + 6)) (h.2 (p1 + 5)) (h.2 p1 9) p2 p3 p4 p5 x1006) → (x1006 ≤ h.2 p1 9) → (7 - x1006).toNat < n → zJ shC l yX8_leastLean cX8_leastLean 8 (some .int) (rmL (2 + 1 * (n0 + 1) + 0)) 0 0 (q2_X8_leastLean h p1 p2 p3 p4 p5) 0 0 32 [some (.inr p1), some (.inl p2), some (.inl p3), some (.inl p4), some (.inl p5), some (.inl x1005), some (.inl x1006), none] [] h := by
            intro n
            induction n with
            | zero => intro x1005 x1006 b1023 b1024 u1025 u1026 m1027; exact absurd m1027 (Nat.not_lt_zero _)
            | succ n ih1028 =>
              intro x1005 x1006 b1023 b1024 u1025 u1026 m1027
              refine zj_iload (zdk ttX8_leastLean 18 rfl rfl) rfl ?_
              refine zj_aload_n (zdk ttX8_leastLean 19 rfl rfl) rfl (by omega) ?_
              refine zj_geti (v := (h.2 p1 9)) (zdk ttX8_leastLean 20 rfl rfl) zf_RX8_73 rfl (k_5_0 s0 r_p1) rfl ?_
              refine zj_icmp_ge (t := 104) (zdk ttX8_leastLean 21 rfl rfl) (by decide) (by omega) (by omega) (fun c1029 => ?_) (fun c1029 => ?_)
              · refine zj_iload (zdk ttX8_leastLean 61 rfl rfl) rfl ?_
                exact zj_iret rfl (zdk ttX8_leastLean 62 rfl rfl) (Nat.le_refl _) (Nat.le_refl _) ⟨x1005, rfl, rfl, by omega, (by have u9 := u1025; rw [show x1006 = h.2 p1 9 by omega] at u9; rw [zhw_e (by omega)]; exact u9)⟩
              · refine zj_iload_n (zdk ttX8_leastLean 22 rfl rfl) rfl ?_
                refine zj_iload (zdk ttX8_leastLean 23 rfl rfl) rfl ?_
                refine zj_ishr (zdk ttX8_leastLean 24 rfl rfl) ?_
                have b1030 := zshr_in p3 x1006
                refine zj_iconst (zdk ttX8_leastLean 25 rfl rfl) ?_
                refine zj_iand (zdk ttX8_leastLean 26 rfl rfl) ?_
                have b1031 := zand_m (d := 2) 1 (by decide) (c := 1) (by decide) (by decide) (zshr p3 x1006)
                refine zj_if_ne (t := 98) (zdk ttX8_leastLean 27 rfl rfl) (by decide) (by omega) (fun c1032 => ?_) (fun c1032 => ?_)
                · refine zj_iinc (L' := [some (.inr p1), some (.inl p2), some (.inl p3), some (.inl p4), some (.inl p5), some (.inl x1005), some (.inl (x1006 + 1)), none]) (zdk ttX8_leastLean 59 rfl rfl) rfl (by decide) rfl ?_
                  refine zj_goto (t := 32) (zdk ttX8_leastLean 60 rfl rfl) (by decide) ?_
                  exact ih1028  x1005 (x1006 + 1) (by omega) (by omega) (by rw [zhp_t (by omega) (by omega)]; exact u1025) (by omega) (by omega)
                · have p49 : -900 ≤ p4 ∧ p4 ≤ 900 := by omega
                  have p59 : 0 ≤ p5 ∧ p5 ≤ 99999 := by omega
                  refine zj_iload_n (zdk ttX8_leastLean 28 rfl rfl) rfl ?_
                  refine zj_aload_n (zdk ttX8_leastLean 29 rfl rfl) rfl (by omega) ?_
                  refine zj_getr (r := (p1 + 6)) (zdk ttX8_leastLean 30 rfl rfl) zf_RX8_80 rfl (k_5_0 s0 r_p1) (rf_5_0_8 s0 r_p1) ?_
                  refine zj_iload_n (zdk ttX8_leastLean 31 rfl rfl) rfl ?_
                  have b1033 : 0 ≤ (h.2 (p1 + 6) p2) ∧ (h.2 (p1 + 6) p2) ≤ 20 := ab_5_0_8 s0 r_p1 p2
                  refine zj_iald (v := (h.2 (p1 + 6) p2)) (zdk ttX8_leastLean 32 rfl rfl) (ka_5_0_8 s0 r_p1) (by decide) (by omega) rfl ?_
                  refine zj_aload_n (zdk ttX8_leastLean 33 rfl rfl) rfl (by omega) ?_
                  refine zj_getr (r := (p1 + 5)) (zdk ttX8_leastLean 34 rfl rfl) zf_RX8_83 rfl (k_5_0 s0 r_p1) (rf_5_0_7 s0 r_p1) ?_
                  refine zj_iload (zdk ttX8_leastLean 35 rfl rfl) rfl ?_
                  have b1034 : -9 ≤ (h.2 (p1 + 5) x1006) ∧ (h.2 (p1 + 5) x1006) ≤ 9 := ab_5_0_7 s0 r_p1 x1006
                  refine zj_iald (v := (h.2 (p1 + 5) x1006)) (zdk ttX8_leastLean 36 rfl rfl) (ka_5_0_7 s0 r_p1) (by decide) (by omega) rfl ?_
                  refine zj_imul (zdk ttX8_leastLean 37 rfl rfl) ?_
                  have b1035 : -180 ≤ ((h.2 (p1 + 6) p2) * (h.2 (p1 + 5) x1006)) ∧ ((h.2 (p1 + 6) p2) * (h.2 (p1 + 5) x1006)) ≤ 180 := zmul_b (a := 0) (b := 20) (c := -9) (d := 9) (by omega) (by omega) (by decide)
                  refine zj_iadd (zdk ttX8_leastLean 38 rfl rfl) ?_
                  refine zj_istore (L' := [some (.inr p1), some (.inl p2), some (.inl p3), some (.inl p4), some (.inl p5), some (.inl x1005), some (.inl x1006), some (.inl (p4 + ((h.2 (p1 + 6) p2) * (h.2 (p1 + 5) x1006))))]) (zdk ttX8_leastLean 39 rfl rfl) (by decide) rfl ?_
                  refine zj_iload (zdk ttX8_leastLean 40 rfl rfl) rfl ?_
                  refine zj_aload_n (zdk ttX8_leastLean 41 rfl rfl) rfl (by omega) ?_
                  refine zj_iload_n (zdk ttX8_leastLean 42 rfl rfl) rfl ?_
                  refine zj_iconst (zdk ttX8_leastLean 43 rfl rfl) ?_
                  refine zj_iadd (zdk ttX8_leastLean 44 rfl rfl) ?_
                  refine zj_iload_n (zdk ttX8_leastLean 45 rfl rfl) rfl ?_
                  refine zj_iconst (zdk ttX8_leastLean 46 rfl rfl) ?_
                  refine zj_iload (zdk ttX8_leastLean 47 rfl rfl) rfl ?_
                  refine zj_ishl (zdk ttX8_leastLean 48 rfl rfl) ?_
                  have b1036 := zshl_1 (n := x1006) (a := 0) (b := 5) (lo := 1) (hi := 32) (by omega) (by decide) (by decide) (by decide)
                  refine zj_ior (zdk ttX8_leastLean 49 rfl rfl) ?_
                  have b1037 := zor_in p3 (zshl 1 x1006)
                  refine zj_iload (zdk ttX8_leastLean 50 rfl rfl) rfl ?_
                  refine zj_iload (zdk ttX8_leastLean 51 rfl rfl) rfl ?_
                  refine zj_bipush (zdk ttX8_leastLean 52 rfl rfl) (by decide) ?_
                  refine zj_imul (zdk ttX8_leastLean 53 rfl rfl) ?_
                  refine zj_iload (zdk ttX8_leastLean 54 rfl rfl) rfl ?_
                  refine zj_iadd (zdk ttX8_leastLean 55 rfl rfl) ?_
                  refine zj_callS (av := [.inr p1, .inl (p2 + 1), .inl (zor p3 (zshl 1 x1006)), .inl (p4 + ((h.2 (p1 + 6) p2) * (h.2 (p1 + 5) x1006))), .inl ((p5 * 10) + x1006)]) (st := [.inl x1005]) (zdk ttX8_leastLean 56 rfl rfl) mb_X8_leastLean ms_RX8_86 rfl rfl (Nat.le_of_ble_eq_true rfl) (ihr h p1 (p2 + 1) (zor p3 (zshl 1 x1006)) (p4 + ((h.2 (p1 + 6) p2) * (h.2 (p1 + 5) x1006))) ((p5 * 10) + x1006) s0 r_p1 (by omega) (by omega) (by omega) (by omega) (by omega) (by omega) (zr10_s u_2 (by omega) (by omega)) (by omega)) (rm_ok (by omega) (by decide)) (zq_i fun v1039 h1040 q1038 => ?_)
                  obtain ⟨rfl, b1041, u1042⟩ := q1038
                  refine zj_min (zdk ttX8_leastLean 57 rfl rfl) mx_RX8_27 (by omega) (by omega) (Nat.le_of_ble_eq_true rfl) (rm_m (by omega)) ?_
                  have b1043 := zm_min_f x1005 v1039
                  refine zj_istore (L' := [some (.inr p1), some (.inl p2), some (.inl p3), some (.inl p4), some (.inl p5), some (.inl (zm_min x1005 v1039)), some (.inl x1006), some (.inl (p4 + ((h.2 (p1 + 6) p2) * (h.2 (p1 + 5) x1006))))]) (zdk ttX8_leastLean 58 rfl rfl) (by decide) rfl ?_
                  refine zj_iinc (L' := [some (.inr p1), some (.inl p2), some (.inl p3), some (.inl p4), some (.inl p5), some (.inl (zm_min x1005 v1039)), some (.inl (x1006 + 1)), some (.inl (p4 + ((h.2 (p1 + 6) p2) * (h.2 (p1 + 5) x1006))))]) (zdk ttX8_leastLean 59 rfl rfl) rfl (by decide) rfl ?_
                  refine zj_goto (t := 32) (zdk ttX8_leastLean 60 rfl rfl) (by decide) ?_
                  refine zj_kill (k := 7) (L' := [some (.inr p1), some (.inl p2), some (.inl p3), some (.inl p4), some (.inl p5), some (.inl (zm_min x1005 v1039)), some (.inl (x1006 + 1)), none]) rfl ?_
                  exact ih1028  (zm_min x1005 v1039) (x1006 + 1) (by omega) (by omega) (by rw [zhp_s (by omega) (by omega), ← u1025, ← u1042]) (by omega) (by omega)
          exact lp1022 _ 2147483647 0 (by omega) (by omega) rfl (by omega) (Nat.lt_succ_self _)
        · exact absurd c1004 (by omega)
    exact hr0

abbrev q2_X10_hung (h : zM) (p1 : Int) : Option zV → zM → Prop := zqi fun v h' => ((-2147483648) ≤ v ∧ v ≤ 2147483647) ∧ okC h' ∧ zfC w_X10_hung h h' ∧ (zhD (zhX (h.2 34) (h.2 33) (h.2 28 9)) p1 v)
set_option maxRecDepth 100000 in
set_option maxHeartbeats 4000000 in
theorem s2_X10_hung (l : Launch) (h : zM) (p1 : Int) (s0 : okC h) (b_p1 : (-2147483648) ≤ p1 ∧ p1 ≤ 2147483647) : zT shC l yX10_hung cX10_hung 3 (some .int) (rmL 13) 0 0 [.inr 0, .inl p1] h (q2_X10_hung h p1) := by
  refine zT_of (by decide +kernel) (L0 := [some (.inr 0), some (.inl p1), none]) rfl (Nat.le_of_ble_eq_true rfl) ?_
  refine zj_iload_n (zdk ttX10_hung 0 rfl rfl) rfl ?_
  refine zj_iconst (zdk ttX10_hung 1 rfl rfl) ?_
  refine zj_iconst (zdk ttX10_hung 2 rfl rfl) ?_
  refine zj_callS (av := [.inl p1, .inl 0, .inl 1]) (st := []) (zdk ttX10_hung 3 rfl rfl) mb_X10_within ms_RX10_77 rfl rfl (Nat.le_of_ble_eq_true rfl) (s_X10_within l h p1 0 1 s0 (by omega) (by omega) (by omega)) (rm_ok (by decide) (by decide)) (zq_i fun v2 h3 q1 => ?_)
  obtain ⟨rfl, ⟨rfl, b4⟩ | ⟨rfl, b4⟩⟩ := q1
  · refine zj_if_ne (t := 11) (zdk ttX10_hung 4 rfl rfl) (by decide) (by decide) (fun c5 => ?_) (fun c5 => ?_)
    · exact absurd c5 (by omega)
    · refine zj_iconst (zdk ttX10_hung 5 rfl rfl) ?_
      exact zj_iret rfl (zdk ttX10_hung 6 rfl rfl) (Nat.le_refl _) (Nat.le_refl _) ⟨(-1), rfl, by omega, s0, (zfC_r _ _), ⟨fun z => absurd z (by omega), fun z => absurd z (by omega), fun _ => by omega⟩⟩
  · refine zj_if_ne (t := 11) (zdk ttX10_hung 4 rfl rfl) (by decide) (by decide) (fun c6 => ?_) (fun c6 => ?_)
    · refine zj_aload_n (zdk ttX10_hung 7 rfl rfl) rfl (by decide) ?_
      refine zj_getr (r := 1) (zdk ttX10_hung 8 rfl rfl) zf_RX10_10 rfl (k_L0 s0) (rf_L0_0 s0) ?_
      refine zj_getr (r := 28) (zdk ttX10_hung 9 rfl rfl) zf_RX10_263 rfl (k_9_0 s0 zWd_1) (rf_9_0_6 s0 zWd_1) ?_
      refine zj_iconst (zdk ttX10_hung 10 rfl rfl) ?_
      refine zj_iconst (zdk ttX10_hung 11 rfl rfl) ?_
      refine zj_iconst (zdk ttX10_hung 12 rfl rfl) ?_
      refine zj_iconst (zdk ttX10_hung 13 rfl rfl) ?_
      refine zj_callS (av := [.inr 28, .inl 0, .inl 0, .inl 0, .inl 0]) (st := []) (zdk ttX10_hung 14 rfl rfl) mb_X8_leastLean ms_RX10_318 rfl rfl (Nat.le_of_ble_eq_true rfl) ((s2_X8_leastLean l 8) h 28 0 0 0 0 s0 zPu_28 (by omega) (by omega) (by omega) (by omega) (by have n9 := fb_5_0_9 s0 zPu_28; omega) (by omega) zr10_0 (by omega)) (rm_ok (by decide) (by decide)) (zq_i fun v8 h9 q7 => ?_)
      obtain ⟨rfl, b10, u11⟩ := q7
      refine zj_istore_n (L' := [some (.inr 0), some (.inl p1), some (.inl v8)]) (zdk ttX10_hung 15 rfl rfl) (by decide) rfl ?_
      refine zj_iload_n (zdk ttX10_hung 16 rfl rfl) rfl ?_
      refine zj_if_ne (t := 38) (zdk ttX10_hung 17 rfl rfl) (by decide) (by omega) (fun c12 => ?_) (fun c12 => ?_)
      · refine zj_iload_n (zdk ttX10_hung 22 rfl rfl) rfl ?_
        refine zj_ldc_w (z := 1000000) (zdk ttX10_hung 23 rfl rfl) wc_RX10_302 ?_
        refine zj_iremP (zdk ttX10_hung 24 rfl rfl) (by omega) (by omega) ?_
        exact zj_iret rfl (zdk ttX10_hung 25 rfl rfl) (Nat.le_refl _) (Nat.le_refl _) ⟨(v8 % 1000000), rfl, by omega, s0, (zfC_r _ _), (by have z9 : v8 = zhX (h.2 34) (h.2 33) (h.2 28 9) := u11; refine ⟨fun z => ?_, fun z => ?_, fun z => absurd (by omega) z⟩ <;> first | (rw [← z9]; done) | exact absurd z (by omega))⟩
      · refine zj_iload_n (zdk ttX10_hung 18 rfl rfl) rfl ?_
        refine zj_ldc_w (z := 1000000) (zdk ttX10_hung 19 rfl rfl) wc_RX10_302 ?_
        refine zj_idivP (zdk ttX10_hung 20 rfl rfl) (by omega) (by omega) ?_
        refine zj_goto (t := 43) (zdk ttX10_hung 21 rfl rfl) (by decide) ?_
        exact zj_iret rfl (zdk ttX10_hung 25 rfl rfl) (Nat.le_refl _) (Nat.le_refl _) ⟨(v8 / 1000000), rfl, by omega, s0, (zfC_r _ _), (by have z9 : v8 = zhX (h.2 34) (h.2 33) (h.2 28 9) := u11; refine ⟨fun z => ?_, fun z => ?_, fun z => absurd (by omega) z⟩ <;> first | (rw [← z9]; done) | exact absurd z (by omega))⟩
    · exact absurd c6 (by omega)

def zRK (hC hM : zM) : Prop := hC.2 28 2 = hM.2 0 42 ∧ hC.2 28 4 = hM.2 0 45 ∧ hC.2 28 6 = hM.2 0 49 ∧ hC.2 28 9 = hM.2 0 53 ∧ (hM.2 0 59 = 1 → hC.2 62 2 = hM.2 35 67 ∧ hC.2 62 4 = hM.2 35 68 ∧ hC.2 62 6 = hM.2 35 69 ∧ hC.2 62 9 = hM.2 35 70 ∧ hC.2 36 3 = hM.2 35 63) ∧ hC.2 0 9 = hM.2 0 59 ∧ hC.2 103 3 = hM.2 0 11 ∧ hC.2 2 3 = hM.2 0 6
def zpC (a b : Int) : Prop := ((a = 28 ∨ a = 62) ∧ (b = 2 ∨ b = 4 ∨ b = 6 ∨ b = 9)) ∨ (a = 0 ∧ b = 9) ∨ (a = 103 ∧ b = 3) ∨ ((a = 2 ∨ a = 36) ∧ b = 3)
def zpJ (a b : Int) : Prop := (a = 0 ∧ b = 8) ∨ (114 ≤ a ∧ a ≤ 139) ∨ (a = 2 ∧ b = 3)
theorem zJP_f {h h' : zM} (s : okC h) (f : ∀ a b, zpJ a b → h'.2 a b = h.2 a b) (j : zJP h) : zJP h' := zJP_g s (f 0 8 (by unfold zpJ; omega)) (f 2 3 (by unfold zpJ; omega)) (fun a b z1 z2 => f a b (by unfold zpJ; omega)) j
def zpM (a b : Int) : Prop := (a = 0 ∧ (b = 42 ∨ b = 45 ∨ b = 49 ∨ b = 53 ∨ b = 59 ∨ b = 11 ∨ b = 6)) ∨ a = 35
def zokF (fs cs : List Int) : Bool := !cs.contains 0 && !cs.contains 35 && !fs.contains 42 && !fs.contains 45 && !fs.contains 49 && !fs.contains 53 && !fs.contains 59 && !fs.contains 11 && !fs.contains 6
theorem rkM {fs cs : List Int} {h h' : zM} (q : zfr fs cs h h') (k : zokF fs cs = true) : ∀ a b, zpM a b → h'.2 a b = h.2 a b := by
  unfold zokF at k
  simp only [Bool.and_eq_true, Bool.not_eq_true'] at k
  obtain ⟨⟨⟨⟨⟨⟨⟨⟨k0, k35⟩, k42⟩, k45⟩, k49⟩, k53⟩, k59⟩, k11⟩, k6⟩ := k
  intro a b z
  unfold zpM at z
  rcases z with ⟨rfl, rfl | rfl | rfl | rfl | rfl | rfl | rfl⟩ | rfl
  · exact zfr_f q k0 k42
  · exact zfr_f q k0 k45
  · exact zfr_f q k0 k49
  · exact zfr_f q k0 k53
  · exact zfr_f q k0 k59
  · exact zfr_f q k0 k11
  · exact zfr_f q k0 k6
  · exact zfr_a q k35 (by decide)
theorem rk_f {hC hC' hM hM' : zM} (r : zRK hC hM) (eC : ∀ a b, zpC a b → hC'.2 a b = hC.2 a b) (eM : ∀ a b, zpM a b → hM'.2 a b = hM.2 a b) : zRK hC' hM' := by
  unfold zRK at r ⊢
  rw [eC 28 2 (by unfold zpC; omega), eC 28 4 (by unfold zpC; omega), eC 28 6 (by unfold zpC; omega), eC 28 9 (by unfold zpC; omega), eC 62 2 (by unfold zpC; omega), eC 62 4 (by unfold zpC; omega), eC 62 6 (by unfold zpC; omega), eC 62 9 (by unfold zpC; omega), eC 0 9 (by unfold zpC; omega), eC 103 3 (by unfold zpC; omega), eC 2 3 (by unfold zpC; omega), eC 36 3 (by unfold zpC; omega), eM 0 6 (by unfold zpM; omega), eM 35 63 (by unfold zpM; omega), eM 0 42 (by unfold zpM; omega), eM 0 45 (by unfold zpM; omega), eM 0 49 (by unfold zpM; omega), eM 0 53 (by unfold zpM; omega), eM 0 59 (by unfold zpM; omega), eM 0 11 (by unfold zpM; omega), eM 35 67 (by unfold zpM; omega), eM 35 68 (by unfold zpM; omega), eM 35 69 (by unfold zpM; omega), eM 35 70 (by unfold zpM; omega)]
  exact r
theorem zcw_r {R V : Prop} {m n v n' N v' N' : Int} (c : zcw R V m n v n') (d : zcw R V m N v' N') (e : n = N) : v = v' ∧ n' = N' := by
  subst e
  by_cases r : R
  · have a := c.1 r; have b := d.1 r; omega
  · by_cases x : V
    · by_cases y : n < m
      · have a := c.2.1 r x y; have b := d.2.1 r x y; omega
      · have a := c.2.2.2 r (by omega); have b := d.2.2.2 r (by omega); omega
    · have a := c.2.2.1 r x; have b := d.2.2.1 r x; omega
theorem zfd_r {n v n' N v' N' : Int} (c : zfd n v n') (d : zfd N v' N') (e : n = N) : v = v' ∧ n' = N' := by
  subst e
  by_cases y : n ≤ 380
  · have a := c.1 y; have b := d.1 y; omega
  · have a := c.2 (by omega); have b := d.2 (by omega); omega
theorem zen_r {p n v n' N v' N' : Int} (c : zen p n v n') (d : zen p N v' N') (e : n = N) : v = v' ∧ n' = N' := by
  subst e
  by_cases y : p < 0
  · have a := c.2.1 y; have b := d.2.1 y; omega
  · by_cases z : n < p
    · have a := c.2.2 z; have b := d.2.2 z; omega
    · have a := c.1 (by omega) (by omega); have b := d.1 (by omega) (by omega); omega
theorem zis_r {w l n v n' N v' N' : Int} (c : zis w l n v n') (d : zis w l N v' N') (e : n = N) : v = v' ∧ n' = N' := by
  subst e
  by_cases y : zisG w l n
  · have a := c.1 y; have b := d.1 y; omega
  · have a := c.2 y; have b := d.2 y; omega
theorem zst_r {p q x n v N v' : Int} (c : zst9 p q x n v) (d : zst9 p q x N v') (e : n = N) : v = v' := by
  subst e
  by_cases y : zstG p q x n
  · rw [c.1 y, d.1 y]
  · rw [c.2 y, d.2 y]
theorem zimc_r {p q v q' Q v' Q' : Int} (c : zimc p q v q') (d : zimc p Q v' Q') (e : q = Q) : v = v' ∧ q' = Q' := by
  subst e
  by_cases z : p = 0
  · have a := c.2.1 z; have b := d.2.1 z
    by_cases y : q = 0
    · have a1 := c.2.2.1 z y; have b1 := d.2.2.1 z y; omega
    · have a1 := c.2.2.2 z y; have b1 := d.2.2.2 z y; omega
  · have a := c.1 z; have b := d.1 z; omega
theorem zimx_r {p q n k n' k' Q N K N' K' v Q' : Int} (c : zimx p q n k n' k') (d : zimx p Q N K N' K') (z : zimc p Q v Q') (e : q = Q) (hq : 0 ≤ q ∧ q ≤ 1) (en : n = N) (ek : Q = 1 → k = K) : n' = N' ∧ (Q' = 1 → k' = K') := by
  subst e; subst en
  by_cases y : p = 0
  · have z1 := z.2.1 y
    have a := c.2.1 y; have b := d.2.1 y
    by_cases w : q = 0
    · have a1 := c.2.2.1 y w; have b1 := d.2.2.1 y w
      exact ⟨by omega, fun u => by omega⟩
    · have a1 := c.2.2.2 y w; have b1 := d.2.2.2 y w
      have e9 := ek (by omega)
      exact ⟨by omega, fun u => by omega⟩
  · have a := c.1 y; have b := d.1 y
    exact ⟨by omega, fun _ => by omega⟩
def zrw (f g : Int → Int) (m : Int) : Prop := ∀ i, 0 ≤ i → i < m → f i = g i
theorem zrw_f {f g f' g' : Int → Int} {m : Int} (r : zrw f g m) (e : ∀ i, f' i = f i) (d : ∀ i, g' i = g i) : zrw f' g' m := fun i a b => by rw [e i, d i]; exact r i a b
def zRT (hC hM : zM) : Prop := (zrw (hC.2 29) (hM.2 23) 5 ∧ zrw (hC.2 30) (hM.2 24) 5 ∧ zrw (hC.2 32) (hM.2 28) 7 ∧ zrw (hC.2 33) (hM.2 31) 6 ∧ zrw (hC.2 34) (hM.2 32) 6) ∧ (hM.2 0 59 = 1 → zrw (hC.2 63) (fun i => hM.2 35 (125 + 2 * i)) 5 ∧ zrw (hC.2 64) (fun i => hM.2 35 (126 + 2 * i)) 5 ∧ zrw (hC.2 66) (fun i => hM.2 35 (159 + i)) 7 ∧ zrw (hC.2 67) (fun i => hM.2 35 (142 + 3 * i)) 6 ∧ zrw (hC.2 68) (fun i => hM.2 35 (143 + 3 * i)) 6)
def zpT (a : Int) : Prop := a = 29 ∨ a = 30 ∨ a = 32 ∨ a = 33 ∨ a = 34 ∨ a = 63 ∨ a = 64 ∨ a = 66 ∨ a = 67 ∨ a = 68
def zpU (a b : Int) : Prop := a = 23 ∨ a = 24 ∨ a = 28 ∨ a = 31 ∨ a = 32 ∨ a = 35 ∨ (a = 0 ∧ b = 59)
def zokT (fs cs : List Int) : Bool := !cs.contains 0 && !fs.contains 59 && !cs.contains 23 && !cs.contains 24 && !cs.contains 28 && !cs.contains 31 && !cs.contains 32 && !cs.contains 35
theorem rkT {fs cs : List Int} {h h' : zM} (q : zfr fs cs h h') (k : zokT fs cs = true) : ∀ a b, zpU a b → h'.2 a b = h.2 a b := by
  unfold zokT at k
  simp only [Bool.and_eq_true, Bool.not_eq_true'] at k
  obtain ⟨⟨⟨⟨⟨⟨⟨k0, k59⟩, k23⟩, k24⟩, k28⟩, k31⟩, k32⟩, k35⟩ := k
  intro a b z
  unfold zpU at z
  rcases z with rfl | rfl | rfl | rfl | rfl | rfl | ⟨rfl, rfl⟩
  · exact zfr_a q k23 (by decide)
  · exact zfr_a q k24 (by decide)
  · exact zfr_a q k28 (by decide)
  · exact zfr_a q k31 (by decide)
  · exact zfr_a q k32 (by decide)
  · exact zfr_a q k35 (by decide)
  · exact zfr_f q k0 k59
theorem zRT_f {hC hC' hM hM' : zM} (t : zRT hC hM) (eC : ∀ a b, zpT a → hC'.2 a b = hC.2 a b) (eM : ∀ a b, zpU a b → hM'.2 a b = hM.2 a b) : zRT hC' hM' := by
  obtain ⟨⟨t1, t2, t3, t4, t5⟩, t6⟩ := t
  refine ⟨⟨zrw_f t1 (fun i => eC 29 i (by unfold zpT; omega)) (fun i => eM 23 i (by unfold zpU; omega)), zrw_f t2 (fun i => eC 30 i (by unfold zpT; omega)) (fun i => eM 24 i (by unfold zpU; omega)), zrw_f t3 (fun i => eC 32 i (by unfold zpT; omega)) (fun i => eM 28 i (by unfold zpU; omega)), zrw_f t4 (fun i => eC 33 i (by unfold zpT; omega)) (fun i => eM 31 i (by unfold zpU; omega)), zrw_f t5 (fun i => eC 34 i (by unfold zpT; omega)) (fun i => eM 32 i (by unfold zpU; omega))⟩, fun z => ?_⟩
  rw [eM 0 59 (by unfold zpU; omega)] at z
  obtain ⟨s1, s2, s3, s4, s5⟩ := t6 z
  exact ⟨zrw_f s1 (fun i => eC 63 i (by unfold zpT; omega)) (fun i => eM 35 (125 + 2 * i) (by unfold zpU; omega)), zrw_f s2 (fun i => eC 64 i (by unfold zpT; omega)) (fun i => eM 35 (126 + 2 * i) (by unfold zpU; omega)), zrw_f s3 (fun i => eC 66 i (by unfold zpT; omega)) (fun i => eM 35 (159 + i) (by unfold zpU; omega)), zrw_f s4 (fun i => eC 67 i (by unfold zpT; omega)) (fun i => eM 35 (142 + 3 * i) (by unfold zpU; omega)), zrw_f s5 (fun i => eC 68 i (by unfold zpT; omega)) (fun i => eM 35 (143 + 3 * i) (by unfold zpU; omega))⟩
theorem zSt_pt {h h0 hf : zM} (f0 : zfr [0, 58, 59, 60] [] h h0) (q : zSt h0 hf 1727) {j c k : Int} (hj : 0 ≤ j ∧ j < 1727) (hl : zloc j = (c, k)) : (¬ h0.2 0 58 = 0 → hf.2 35 j = h.2 c k ∧ hf.2 c k = h.2 c k) ∧ (h0.2 0 58 = 0 → hf.2 35 j = h.2 35 j ∧ hf.2 c k = h.2 35 j) := by
  obtain ⟨q1, q2, q3, q4, q5⟩ := q
  have l0 : h0.2 c k = h.2 c k := by
    have zj := zinv_i (i := j) hj
    rw [hl] at zj
    refine f0.2 _ _ rfl (fun w => ?_)
    have hm := List.contains_iff_mem.mp w.2
    have a := zj.1
    have w1 : c = 0 := w.1
    rw [w1] at a
    simp only [List.mem_cons, List.mem_nil_iff, or_false] at hm
    rcases hm with hm | hm | hm | hm <;> rw [hm] at a <;> simp [zinv] at a <;> omega
  have e3 := q3 j hj.1 hj.2
  unfold zlv at e3 q4
  rw [hl] at e3
  refine ⟨fun t => ?_, fun t => ?_⟩
  · have e4 := q4 t j hj.1 hj.2
    rw [hl] at e4
    have e4' : hf.2 c k = h0.2 c k := e4
    have e3' : hf.2 c k = hf.2 35 j := e3
    rw [← e3', e4', l0]; exact ⟨rfl, rfl⟩
  · have e5 := q5 t j
    have e6 : h0.2 35 j = h.2 35 j := zfr_a f0 rfl (by decide)
    have e3' : hf.2 c k = hf.2 35 j := e3
    rw [e3', e5, e6]; exact ⟨rfl, rfl⟩
theorem zpu_x {f f' : Int → Int} {v n x y : Int} (e : x = y) (q : zpu f f' v n x) : zpu f f' v n y := by rw [← e]; exact q

abbrev q2_X11_wheel (h : zM) (p1 : Int) (p2 : Int) : Option zV → zM → Prop := zqi fun v h' => ((-2147483648) ≤ v ∧ v ≤ 2147483647) ∧ okM h' ∧ zfr [0, 42] [23, 24] h h' ∧ (zcw (p1 = -1) (6 ≤ p1 ∧ p1 ≤ 99) 5 (h.2 0 42) v (h'.2 0 42)) ∧ (zpu (h.2 23) (h'.2 23) v (h.2 0 42) p1) ∧ (zpu (h.2 24) (h'.2 24) v (h.2 0 42) p2)
set_option maxRecDepth 100000 in
set_option maxHeartbeats 4000000 in
theorem s2_X11_wheel (l : Launch) (h : zM) (p1 : Int) (p2 : Int) (s0 : okM h) (b_p1 : (-2147483648) ≤ p1 ∧ p1 ≤ 2147483647) (b_p2 : 0 ≤ p2 ∧ p2 ≤ 1) : zT shM l yX11_wheel cX11_wheel 3 (some .int) (rmL 2) 0 0 [.inr 0, .inl p1, .inl p2] h (q2_X11_wheel h p1 p2) := by
  refine zT_of (by decide +kernel) (L0 := [some (.inr 0), some (.inl p1), some (.inl p2)]) rfl (Nat.le_of_ble_eq_true rfl) ?_
  refine zj_aload_n (zdk ttX11_wheel 0 rfl rfl) rfl (by decide) ?_
  refine zj_iconst (zdk ttX11_wheel 1 rfl rfl) ?_
  refine zj_puti (zdk ttX11_wheel 2 rfl rfl) zf_RX11_120 rfl (k_M s0) (Or.inl zw_RX11_120) (k2 := 0) rfl (fun h1 e2 => ?_)
  refine zj_iload_n (zdk ttX11_wheel 3 rfl rfl) rfl ?_
  refine zj_iconst (zdk ttX11_wheel 4 rfl rfl) ?_
  refine zj_icmp_ne (t := 17) (zdk ttX11_wheel 5 rfl rfl) (by decide) (by omega) (by decide) (fun c3 => ?_) (fun c3 => ?_)
  · refine zj_aload_n (zdk ttX11_wheel 11 rfl rfl) rfl (by decide) ?_
    refine zj_iload_n (zdk ttX11_wheel 12 rfl rfl) rfl ?_
    refine zj_bipush (zdk ttX11_wheel 13 rfl rfl) (by decide) ?_
    refine zj_bipush (zdk ttX11_wheel 14 rfl rfl) (by decide) ?_
    have s4 : okM h1 := fwM_0 s0 e2 (by omega)
    refine zj_callV (av := [.inl p1, .inl 6, .inl 99]) (st := []) (zdk ttX11_wheel 15 rfl rfl) mb_X11_isIn mv_RX11_139 (ci := 11) rfl rfl (k_M s4) rfl rfl (Nat.le_of_ble_eq_true rfl) (s_X11_isIn l h1 p1 6 99 s4 (by omega) (by omega) (by omega)) (rm_ok (by decide) (by decide)) (zq_i fun v6 h7 q5 => ?_)
    obtain ⟨rfl, ⟨rfl, b8⟩ | ⟨rfl, b8⟩⟩ := q5
    · refine zj_if_eq (t := 37) (zdk ttX11_wheel 16 rfl rfl) (by decide) (by decide) (fun c9 => ?_) (fun c9 => ?_)
      · refine zj_iconst (zdk ttX11_wheel 21 rfl rfl) ?_
        have f10 : zfr [0, 42] [23, 24] h h1 := zfr_wf (zfr_r _ _ _) e2 rfl
        have b11 : h1.2 0 42 = (h.2 0 42) := (zwr_r e2 (by omega))
        have b12 : 0 ≤ (h.2 0 42) ∧ (h.2 0 42) ≤ 5 := fM_42 s0
        exact zj_iret rfl (zdk ttX11_wheel 22 rfl rfl) (Nat.le_refl _) (Nat.le_refl _) ⟨(-1), rfl, by omega, s4, f10, by unfold zcw; omega, (zpu_n (by omega) (fun i => (zwr_r e2 (by omega)))), (zpu_n (by omega) (fun i => (zwr_r e2 (by omega))))⟩
      · exact absurd c9 (by omega)
    · refine zj_if_eq (t := 37) (zdk ttX11_wheel 16 rfl rfl) (by decide) (by decide) (fun c13 => ?_) (fun c13 => ?_)
      · exact absurd c13 (by omega)
      · refine zj_aload_n (zdk ttX11_wheel 17 rfl rfl) rfl (by decide) ?_
        have b14 : 0 ≤ (h.2 0 42) ∧ (h.2 0 42) ≤ 5 := fM_42 s0
        refine zj_geti (v := (h.2 0 42)) (zdk ttX11_wheel 18 rfl rfl) zf_RX11_401 rfl (k_M s4) (zwr_r e2 (by omega)) ?_
        refine zj_iconst (zdk ttX11_wheel 19 rfl rfl) ?_
        refine zj_icmp_ne (t := 39) (zdk ttX11_wheel 20 rfl rfl) (by decide) (by omega) (by decide) (fun c15 => ?_) (fun c15 => ?_)
        · refine zj_aload_n (zdk ttX11_wheel 23 rfl rfl) rfl (by decide) ?_
          refine zj_getr (r := 23) (zdk ttX11_wheel 24 rfl rfl) zf_RX11_80 rfl (k_M s4) (rfM_43 s4) ?_
          refine zj_aload_n (zdk ttX11_wheel 25 rfl rfl) rfl (by decide) ?_
          refine zj_geti (v := (h.2 0 42)) (zdk ttX11_wheel 26 rfl rfl) zf_RX11_401 rfl (k_M s4) (zwr_r e2 (by omega)) ?_
          refine zj_iload_n (zdk ttX11_wheel 27 rfl rfl) rfl ?_
          refine zj_iast (zdk ttX11_wheel 28 rfl rfl) (kaM_23 s4) (by decide) (by omega) (fun h16 e17 => ?_)
          refine zj_aload_n (zdk ttX11_wheel 29 rfl rfl) rfl (by decide) ?_
          have b19 : h1.2 0 42 = (h.2 0 42) := (zwr_r e2 (by omega))
          have s18 : okM h16 := okM_teeth s4 e17 (by omega) (by omega)
          refine zj_getr (r := 24) (zdk ttX11_wheel 30 rfl rfl) zf_RX11_83 rfl (k_M s18) (rfM_44 s18) ?_
          refine zj_aload_n (zdk ttX11_wheel 31 rfl rfl) rfl (by decide) ?_
          refine zj_geti (v := (h.2 0 42)) (zdk ttX11_wheel 32 rfl rfl) zf_RX11_401 rfl (k_M s18) ((zwr_r e17 (by omega)).trans (zwr_r e2 (by omega))) ?_
          refine zj_iload_n (zdk ttX11_wheel 33 rfl rfl) rfl ?_
          refine zj_if_eq (t := 65) (zdk ttX11_wheel 34 rfl rfl) (by decide) (by omega) (fun c20 => ?_) (fun c20 => ?_)
          · refine zj_iconst (zdk ttX11_wheel 37 rfl rfl) ?_
            refine zj_iast (zdk ttX11_wheel 38 rfl rfl) (kaM_24 s18) (by decide) (by omega) (fun h21 e22 => ?_)
            refine zj_aload_n (zdk ttX11_wheel 39 rfl rfl) rfl (by decide) ?_
            refine zj_aload_n (zdk ttX11_wheel 40 rfl rfl) rfl (by decide) ?_
            have s23 : okM h21 := awM_24 s18 e22 (by omega) (by unfold nsp; omega)
            refine zj_geti (v := (h.2 0 42)) (zdk ttX11_wheel 41 rfl rfl) zf_RX11_401 rfl (k_M s23) (((zwr_r e22 (by omega)).trans (zwr_r e17 (by omega))).trans (zwr_r e2 (by omega))) ?_
            refine zj_iconst (zdk ttX11_wheel 42 rfl rfl) ?_
            refine zj_iadd (zdk ttX11_wheel 43 rfl rfl) ?_
            refine zj_puti (zdk ttX11_wheel 44 rfl rfl) zf_RX11_401 rfl (k_M s23) (Or.inl zw_RX11_401) (k2 := 42) rfl (fun h24 e25 => ?_)
            refine zj_aload_n (zdk ttX11_wheel 45 rfl rfl) rfl (by decide) ?_
            have z27 : 0 ≤ h1.2 0 42 ∧ h1.2 0 42 ≤ 5 := s4.2.1 0 42
            have z27e : h1.2 0 42 = (h.2 0 42) := by first | rfl | exact (zwr_r e2 (by omega))
            have z27c : ∀ k, 0 ≤ k → k < ((h.2 0 42) + 1) → 6 ≤ h21.2 23 k ∧ h21.2 23 k ≤ 99 := by
              intro k q1 q2
              rw [zwr_r e22 (by omega)]
              by_cases q : k = (h.2 0 42)
              · rw [q, zwr_v e17]; omega
              · rw [zwr_r e17 (by omega)]; exact s4.2.2.2.1.1 k q1 (by omega)
            have s26 : okM h24 := okM_wheel s23 e25 (by omega) z27c
            refine zj_geti (v := ((h.2 0 42) + 1)) (zdk ttX11_wheel 46 rfl rfl) zf_RX11_401 rfl (k_M s26) (zwr_v e25) ?_
            have f31 : zfr [0, 42] [23, 24] h h1 := zfr_wf (zfr_r _ _ _) e2 rfl
            have f30 : zfr [0, 42] [23, 24] h h16 := zfr_wa f31 e17 rfl
            have f29 : zfr [0, 42] [23, 24] h h21 := zfr_wa f30 e22 rfl
            have f28 : zfr [0, 42] [23, 24] h h24 := zfr_wf f29 e25 rfl
            have b32 : h24.2 0 42 = ((h.2 0 42) + 1) := (zwr_v e25)
            exact zj_iret rfl (zdk ttX11_wheel 47 rfl rfl) (Nat.le_refl _) (Nat.le_refl _) ⟨((h.2 0 42) + 1), rfl, by omega, s26, f28, by unfold zcw; omega, (zpu_x (by omega) (zpu_f (fun i => (zwr_r e2 (by omega))) (zpu_w e17 (by omega) (fun i => ((zwr_r e25 (by omega)).trans (zwr_r e22 (by omega))))))), (zpu_x (by omega) (zpu_f (fun i => ((zwr_r e17 (by omega)).trans (zwr_r e2 (by omega)))) (zpu_w e22 (by omega) (fun i => (zwr_r e25 (by omega))))))⟩
          · refine zj_iconst (zdk ttX11_wheel 35 rfl rfl) ?_
            refine zj_goto (t := 66) (zdk ttX11_wheel 36 rfl rfl) (by decide) ?_
            refine zj_iast (zdk ttX11_wheel 38 rfl rfl) (kaM_24 s18) (by decide) (by omega) (fun h33 e34 => ?_)
            refine zj_aload_n (zdk ttX11_wheel 39 rfl rfl) rfl (by decide) ?_
            refine zj_aload_n (zdk ttX11_wheel 40 rfl rfl) rfl (by decide) ?_
            have s35 : okM h33 := awM_24 s18 e34 (by omega) (by unfold nsp; omega)
            refine zj_geti (v := (h.2 0 42)) (zdk ttX11_wheel 41 rfl rfl) zf_RX11_401 rfl (k_M s35) (((zwr_r e34 (by omega)).trans (zwr_r e17 (by omega))).trans (zwr_r e2 (by omega))) ?_
            refine zj_iconst (zdk ttX11_wheel 42 rfl rfl) ?_
            refine zj_iadd (zdk ttX11_wheel 43 rfl rfl) ?_
            refine zj_puti (zdk ttX11_wheel 44 rfl rfl) zf_RX11_401 rfl (k_M s35) (Or.inl zw_RX11_401) (k2 := 42) rfl (fun h36 e37 => ?_)
            refine zj_aload_n (zdk ttX11_wheel 45 rfl rfl) rfl (by decide) ?_
            have z39 : 0 ≤ h1.2 0 42 ∧ h1.2 0 42 ≤ 5 := s4.2.1 0 42
            have z39e : h1.2 0 42 = (h.2 0 42) := by first | rfl | exact (zwr_r e2 (by omega))
            have z39c : ∀ k, 0 ≤ k → k < ((h.2 0 42) + 1) → 6 ≤ h33.2 23 k ∧ h33.2 23 k ≤ 99 := by
              intro k q1 q2
              rw [zwr_r e34 (by omega)]
              by_cases q : k = (h.2 0 42)
              · rw [q, zwr_v e17]; omega
              · rw [zwr_r e17 (by omega)]; exact s4.2.2.2.1.1 k q1 (by omega)
            have s38 : okM h36 := okM_wheel s35 e37 (by omega) z39c
            refine zj_geti (v := ((h.2 0 42) + 1)) (zdk ttX11_wheel 46 rfl rfl) zf_RX11_401 rfl (k_M s38) (zwr_v e37) ?_
            have f43 : zfr [0, 42] [23, 24] h h1 := zfr_wf (zfr_r _ _ _) e2 rfl
            have f42 : zfr [0, 42] [23, 24] h h16 := zfr_wa f43 e17 rfl
            have f41 : zfr [0, 42] [23, 24] h h33 := zfr_wa f42 e34 rfl
            have f40 : zfr [0, 42] [23, 24] h h36 := zfr_wf f41 e37 rfl
            have b44 : h36.2 0 42 = ((h.2 0 42) + 1) := (zwr_v e37)
            exact zj_iret rfl (zdk ttX11_wheel 47 rfl rfl) (Nat.le_refl _) (Nat.le_refl _) ⟨((h.2 0 42) + 1), rfl, by omega, s38, f40, by unfold zcw; omega, (zpu_x (by omega) (zpu_f (fun i => (zwr_r e2 (by omega))) (zpu_w e17 (by omega) (fun i => ((zwr_r e37 (by omega)).trans (zwr_r e34 (by omega))))))), (zpu_x (by omega) (zpu_f (fun i => ((zwr_r e17 (by omega)).trans (zwr_r e2 (by omega)))) (zpu_w e34 (by omega) (fun i => (zwr_r e37 (by omega))))))⟩
        · refine zj_iconst (zdk ttX11_wheel 21 rfl rfl) ?_
          have f45 : zfr [0, 42] [23, 24] h h1 := zfr_wf (zfr_r _ _ _) e2 rfl
          have b46 : h1.2 0 42 = (h.2 0 42) := (zwr_r e2 (by omega))
          exact zj_iret rfl (zdk ttX11_wheel 22 rfl rfl) (Nat.le_refl _) (Nat.le_refl _) ⟨(-1), rfl, by omega, s4, f45, by unfold zcw; omega, (zpu_n (by omega) (fun i => (zwr_r e2 (by omega)))), (zpu_n (by omega) (fun i => (zwr_r e2 (by omega))))⟩
  · refine zj_aload_n (zdk ttX11_wheel 6 rfl rfl) rfl (by decide) ?_
    refine zj_iconst (zdk ttX11_wheel 7 rfl rfl) ?_
    have s47 : okM h1 := fwM_0 s0 e2 (by omega)
    refine zj_puti (zdk ttX11_wheel 8 rfl rfl) zf_RX11_401 rfl (k_M s47) (Or.inl zw_RX11_401) (k2 := 42) rfl (fun h48 e49 => ?_)
    refine zj_iconst (zdk ttX11_wheel 9 rfl rfl) ?_
    have s50 : okM h48 := okM_wheel s47 e49 (by decide) (fun k q1 q2 => absurd q1 (by omega))
    have f52 : zfr [0, 42] [23, 24] h h1 := zfr_wf (zfr_r _ _ _) e2 rfl
    have f51 : zfr [0, 42] [23, 24] h h48 := zfr_wf f52 e49 rfl
    have b53 : h48.2 0 42 = 0 := (zwr_v e49)
    exact zj_iret rfl (zdk ttX11_wheel 10 rfl rfl) (Nat.le_refl _) (Nat.le_refl _) ⟨0, rfl, by omega, s50, f51, by unfold zcw; omega, (zpu_n (by omega) (fun i => ((zwr_r e49 (by omega)).trans (zwr_r e2 (by omega))))), (zpu_n (by omega) (fun i => ((zwr_r e49 (by omega)).trans (zwr_r e2 (by omega)))))⟩

abbrev q2_X11_couple (h : zM) (p1 : Int) (p2 : Int) : Option zV → zM → Prop := zqi fun v h' => ((-2147483648) ≤ v ∧ v ≤ 2147483647) ∧ okM h' ∧ zfr [0, 45] [25] h h' ∧ (0 ≤ h.2 0 45 → h.2 0 45 ≤ 8 → zcw (p1 = -1) ((0 ≤ p1 ∧ p1 ≤ 5) ∧ (0 ≤ p2 ∧ p2 ≤ 5) ∧ ¬ p1 = p2) 8 (h.2 0 45) v (h'.2 0 45))
set_option maxRecDepth 100000 in
set_option maxHeartbeats 4000000 in
theorem s2_X11_couple (l : Launch) (h : zM) (p1 : Int) (p2 : Int) (s0 : okM h) (b_p1 : (-2147483648) ≤ p1 ∧ p1 ≤ 2147483647) (b_p2 : (-2147483648) ≤ p2 ∧ p2 ≤ 2147483647) : zT shM l yX11_couple cX11_couple 4 (some .int) (rmL 2) 0 0 [.inr 0, .inl p1, .inl p2] h (q2_X11_couple h p1 p2) := by
  refine zT_of (by decide +kernel) (L0 := [some (.inr 0), some (.inl p1), some (.inl p2), none]) rfl (Nat.le_of_ble_eq_true rfl) ?_
  refine zj_aload_n (zdk ttX11_couple 0 rfl rfl) rfl (by decide) ?_
  refine zj_iconst (zdk ttX11_couple 1 rfl rfl) ?_
  refine zj_puti (zdk ttX11_couple 2 rfl rfl) zf_RX11_120 rfl (k_M s0) (Or.inl zw_RX11_120) (k2 := 0) rfl (fun h1 e2 => ?_)
  refine zj_iload_n (zdk ttX11_couple 3 rfl rfl) rfl ?_
  refine zj_iconst (zdk ttX11_couple 4 rfl rfl) ?_
  refine zj_icmp_ne (t := 38) (zdk ttX11_couple 5 rfl rfl) (by decide) (by omega) (by decide) (fun c3 => ?_) (fun c3 => ?_)
  · refine zj_aload_n (zdk ttX11_couple 23 rfl rfl) rfl (by decide) ?_
    refine zj_iload_n (zdk ttX11_couple 24 rfl rfl) rfl ?_
    refine zj_iconst (zdk ttX11_couple 25 rfl rfl) ?_
    refine zj_iconst (zdk ttX11_couple 26 rfl rfl) ?_
    have s4 : okM h1 := fwM_0 s0 e2 (by omega)
    refine zj_callV (av := [.inl p1, .inl 0, .inl 5]) (st := []) (zdk ttX11_couple 27 rfl rfl) mb_X11_isIn mv_RX11_139 (ci := 11) rfl rfl (k_M s4) rfl rfl (Nat.le_of_ble_eq_true rfl) (s_X11_isIn l h1 p1 0 5 s4 (by omega) (by omega) (by omega)) (rm_ok (by decide) (by decide)) (zq_i fun v6 h7 q5 => ?_)
    obtain ⟨rfl, ⟨rfl, b8⟩ | ⟨rfl, b8⟩⟩ := q5
    · refine zj_if_eq (t := 72) (zdk ttX11_couple 28 rfl rfl) (by decide) (by decide) (fun c9 => ?_) (fun c9 => ?_)
      · refine zj_iconst (zdk ttX11_couple 42 rfl rfl) ?_
        have f10 : zfr [0, 45] [25] h h1 := zfr_wf (zfr_r _ _ _) e2 rfl
        have b11 : h1.2 0 45 = (h.2 0 45) := (zwr_r e2 (by omega))
        have b12 : -2147483648 ≤ (h.2 0 45) ∧ (h.2 0 45) ≤ 2147483647 := fM_45 s0
        exact zj_iret rfl (zdk ttX11_couple 43 rfl rfl) (Nat.le_refl _) (Nat.le_refl _) ⟨(-1), rfl, by omega, s4, f10, by intro z8 z9; have w9 : zwp ((h.2 0 45) + 1) = (h.2 0 45) + 1 := zwp_id (by omega); unfold zcw; omega⟩
      · exact absurd c9 (by omega)
    · refine zj_if_eq (t := 72) (zdk ttX11_couple 28 rfl rfl) (by decide) (by decide) (fun c13 => ?_) (fun c13 => ?_)
      · exact absurd c13 (by omega)
      · refine zj_aload_n (zdk ttX11_couple 29 rfl rfl) rfl (by decide) ?_
        refine zj_iload_n (zdk ttX11_couple 30 rfl rfl) rfl ?_
        refine zj_iconst (zdk ttX11_couple 31 rfl rfl) ?_
        refine zj_iconst (zdk ttX11_couple 32 rfl rfl) ?_
        refine zj_callV (av := [.inl p2, .inl 0, .inl 5]) (st := []) (zdk ttX11_couple 33 rfl rfl) mb_X11_isIn mv_RX11_139 (ci := 11) rfl rfl (k_M s4) rfl rfl (Nat.le_of_ble_eq_true rfl) (s_X11_isIn l h1 p2 0 5 s4 (by omega) (by omega) (by omega)) (rm_ok (by decide) (by decide)) (zq_i fun v15 h16 q14 => ?_)
        obtain ⟨rfl, ⟨rfl, b17⟩ | ⟨rfl, b17⟩⟩ := q14
        · refine zj_if_eq (t := 72) (zdk ttX11_couple 34 rfl rfl) (by decide) (by decide) (fun c18 => ?_) (fun c18 => ?_)
          · refine zj_iconst (zdk ttX11_couple 42 rfl rfl) ?_
            have f19 : zfr [0, 45] [25] h h1 := zfr_wf (zfr_r _ _ _) e2 rfl
            have b20 : h1.2 0 45 = (h.2 0 45) := (zwr_r e2 (by omega))
            have b21 : -2147483648 ≤ (h.2 0 45) ∧ (h.2 0 45) ≤ 2147483647 := fM_45 s0
            exact zj_iret rfl (zdk ttX11_couple 43 rfl rfl) (Nat.le_refl _) (Nat.le_refl _) ⟨(-1), rfl, by omega, s4, f19, by intro z8 z9; have w9 : zwp ((h.2 0 45) + 1) = (h.2 0 45) + 1 := zwp_id (by omega); unfold zcw; omega⟩
          · exact absurd c18 (by omega)
        · refine zj_if_eq (t := 72) (zdk ttX11_couple 34 rfl rfl) (by decide) (by decide) (fun c22 => ?_) (fun c22 => ?_)
          · exact absurd c22 (by omega)
          · refine zj_iload_n (zdk ttX11_couple 35 rfl rfl) rfl ?_
            refine zj_iload_n (zdk ttX11_couple 36 rfl rfl) rfl ?_
            refine zj_icmp_eq (t := 72) (zdk ttX11_couple 37 rfl rfl) (by decide) (by omega) (by omega) (fun c23 => ?_) (fun c23 => ?_)
            · refine zj_iconst (zdk ttX11_couple 42 rfl rfl) ?_
              have f24 : zfr [0, 45] [25] h h1 := zfr_wf (zfr_r _ _ _) e2 rfl
              have b25 : h1.2 0 45 = (h.2 0 45) := (zwr_r e2 (by omega))
              have b26 : -2147483648 ≤ (h.2 0 45) ∧ (h.2 0 45) ≤ 2147483647 := fM_45 s0
              exact zj_iret rfl (zdk ttX11_couple 43 rfl rfl) (Nat.le_refl _) (Nat.le_refl _) ⟨(-1), rfl, by omega, s4, f24, by intro z8 z9; have w9 : zwp ((h.2 0 45) + 1) = (h.2 0 45) + 1 := zwp_id (by omega); unfold zcw; omega⟩
            · refine zj_aload_n (zdk ttX11_couple 38 rfl rfl) rfl (by decide) ?_
              have b27 : -2147483648 ≤ (h.2 0 45) ∧ (h.2 0 45) ≤ 2147483647 := fM_45 s0
              refine zj_geti (v := (h.2 0 45)) (zdk ttX11_couple 39 rfl rfl) zf_RX11_408 rfl (k_M s4) (zwr_r e2 (by omega)) ?_
              refine zj_bipush (zdk ttX11_couple 40 rfl rfl) (by decide) ?_
              refine zj_icmp_ne (t := 74) (zdk ttX11_couple 41 rfl rfl) (by decide) (by omega) (by decide) (fun c28 => ?_) (fun c28 => ?_)
              · refine zj_aload_n (zdk ttX11_couple 44 rfl rfl) rfl (by decide) ?_
                refine zj_getr (r := 25) (zdk ttX11_couple 45 rfl rfl) zf_RX11_86 rfl (k_M s4) (rfM_46 s4) ?_
                refine zj_iload_n (zdk ttX11_couple 46 rfl rfl) rfl ?_
                refine zj_aload_n (zdk ttX11_couple 47 rfl rfl) rfl (by decide) ?_
                refine zj_getr (r := 25) (zdk ttX11_couple 48 rfl rfl) zf_RX11_86 rfl (k_M s4) (rfM_46 s4) ?_
                refine zj_iload_n (zdk ttX11_couple 49 rfl rfl) rfl ?_
                have b29 : -2147483648 ≤ (h.2 25 p1) ∧ (h.2 25 p1) ≤ 2147483647 := abM_25 s0 p1
                refine zj_iald (v := (h.2 25 p1)) (zdk ttX11_couple 50 rfl rfl) (kaM_25 s4) (by decide) (by omega) (zwr_r e2 (by omega)) ?_
                refine zj_iconst (zdk ttX11_couple 51 rfl rfl) ?_
                refine zj_iload_n (zdk ttX11_couple 52 rfl rfl) rfl ?_
                refine zj_ishl (zdk ttX11_couple 53 rfl rfl) ?_
                have b30 := zshl_1 (n := p2) (a := 0) (b := 5) (lo := 1) (hi := 32) (by omega) (by decide) (by decide) (by decide)
                refine zj_ior (zdk ttX11_couple 54 rfl rfl) ?_
                have b31 := zor_in (h.2 25 p1) (zshl 1 p2)
                refine zj_iast (zdk ttX11_couple 55 rfl rfl) (kaM_25 s4) (by decide) (by omega) (fun h32 e33 => ?_)
                refine zj_aload_n (zdk ttX11_couple 56 rfl rfl) rfl (by decide) ?_
                have s34 : okM h32 := awM_25 s4 e33 (by omega) (by unfold nsp; omega)
                refine zj_getr (r := 25) (zdk ttX11_couple 57 rfl rfl) zf_RX11_86 rfl (k_M s34) (rfM_46 s34) ?_
                refine zj_iload_n (zdk ttX11_couple 58 rfl rfl) rfl ?_
                refine zj_aload_n (zdk ttX11_couple 59 rfl rfl) rfl (by decide) ?_
                refine zj_getr (r := 25) (zdk ttX11_couple 60 rfl rfl) zf_RX11_86 rfl (k_M s34) (rfM_46 s34) ?_
                refine zj_iload_n (zdk ttX11_couple 61 rfl rfl) rfl ?_
                have b35 : -2147483648 ≤ (h32.2 25 p2) ∧ (h32.2 25 p2) ≤ 2147483647 := abM_25 s34 p2
                refine zj_iald (v := (h32.2 25 p2)) (zdk ttX11_couple 62 rfl rfl) (kaM_25 s34) (by decide) (by omega) rfl ?_
                refine zj_iconst (zdk ttX11_couple 63 rfl rfl) ?_
                refine zj_iload_n (zdk ttX11_couple 64 rfl rfl) rfl ?_
                refine zj_ishl (zdk ttX11_couple 65 rfl rfl) ?_
                have b36 := zshl_1 (n := p1) (a := 0) (b := 5) (lo := 1) (hi := 32) (by omega) (by decide) (by decide) (by decide)
                refine zj_ior (zdk ttX11_couple 66 rfl rfl) ?_
                have b37 := zor_in (h32.2 25 p2) (zshl 1 p1)
                refine zj_iast (zdk ttX11_couple 67 rfl rfl) (kaM_25 s34) (by decide) (by omega) (fun h38 e39 => ?_)
                refine zj_aload_n (zdk ttX11_couple 68 rfl rfl) rfl (by decide) ?_
                refine zj_aload_n (zdk ttX11_couple 69 rfl rfl) rfl (by decide) ?_
                have s40 : okM h38 := awM_25 s34 e39 (by omega) (by unfold nsp; omega)
                refine zj_geti (v := (h.2 0 45)) (zdk ttX11_couple 70 rfl rfl) zf_RX11_408 rfl (k_M s40) (((zwr_r e39 (by omega)).trans (zwr_r e33 (by omega))).trans (zwr_r e2 (by omega))) ?_
                refine zj_iconst (zdk ttX11_couple 71 rfl rfl) ?_
                refine zj_iadd (zdk ttX11_couple 72 rfl rfl) ?_
                refine zj_wrap ?_
                have b41 := zwp_in ((h.2 0 45) + 1)
                refine zj_puti (zdk ttX11_couple 73 rfl rfl) zf_RX11_408 rfl (k_M s40) (Or.inl zw_RX11_408) (k2 := 45) rfl (fun h42 e43 => ?_)
                refine zj_aload_n (zdk ttX11_couple 74 rfl rfl) rfl (by decide) ?_
                have s44 : okM h42 := fwM_45 s40 e43 (by omega)
                refine zj_geti (v := (zwp ((h.2 0 45) + 1))) (zdk ttX11_couple 75 rfl rfl) zf_RX11_408 rfl (k_M s44) (zwr_v e43) ?_
                have f48 : zfr [0, 45] [25] h h1 := zfr_wf (zfr_r _ _ _) e2 rfl
                have f47 : zfr [0, 45] [25] h h32 := zfr_wa f48 e33 rfl
                have f46 : zfr [0, 45] [25] h h38 := zfr_wa f47 e39 rfl
                have f45 : zfr [0, 45] [25] h h42 := zfr_wf f46 e43 rfl
                have b49 : h42.2 0 45 = (zwp ((h.2 0 45) + 1)) := (zwr_v e43)
                exact zj_iret rfl (zdk ttX11_couple 76 rfl rfl) (Nat.le_refl _) (Nat.le_refl _) ⟨(zwp ((h.2 0 45) + 1)), rfl, by omega, s44, f45, by intro z8 z9; have w9 : zwp ((h.2 0 45) + 1) = (h.2 0 45) + 1 := zwp_id (by omega); unfold zcw; omega⟩
              · refine zj_iconst (zdk ttX11_couple 42 rfl rfl) ?_
                have f50 : zfr [0, 45] [25] h h1 := zfr_wf (zfr_r _ _ _) e2 rfl
                have b51 : h1.2 0 45 = (h.2 0 45) := (zwr_r e2 (by omega))
                exact zj_iret rfl (zdk ttX11_couple 43 rfl rfl) (Nat.le_refl _) (Nat.le_refl _) ⟨(-1), rfl, by omega, s4, f50, by intro z8 z9; have w9 : zwp ((h.2 0 45) + 1) = (h.2 0 45) + 1 := zwp_id (by omega); unfold zcw; omega⟩
  · refine zj_aload_n (zdk ttX11_couple 6 rfl rfl) rfl (by decide) ?_
    refine zj_iconst (zdk ttX11_couple 7 rfl rfl) ?_
    have s52 : okM h1 := fwM_0 s0 e2 (by omega)
    refine zj_puti (zdk ttX11_couple 8 rfl rfl) zf_RX11_408 rfl (k_M s52) (Or.inl zw_RX11_408) (k2 := 45) rfl (fun h53 e54 => ?_)
    refine zj_iconst (zdk ttX11_couple 9 rfl rfl) ?_
    refine zj_istore_n (L' := [some (.inr 0), some (.inl p1), some (.inl p2), some (.inl 0)]) (zdk ttX11_couple 10 rfl rfl) (by decide) rfl ?_
    have lp77 : ∀ (n17 : Nat) (x55 : Int) (h56 : zM), (0 ≤ x55 ∧ x55 ≤ 6) → okM h56 → zfr [0, 45] [25] h h56 → (h56.2 0 45 = 0) → (7 - x55).toNat < n17 → zJ shM l yX11_couple cX11_couple 4 (some .int) (rmL 2) 0 0 (q2_X11_couple h p1 p2) 0 0 17 [some (.inr 0), some (.inl p1), some (.inl p2), some (.inl x55)] [] h56 := by
      intro n17
      induction n17 with
      | zero => intro x55 h56 b78 s57 f58 u79 m80; exact absurd m80 (Nat.not_lt_zero _)
      | succ n17 ih81 =>
        intro x55 h56 b78 s57 f58 u79 m80
        refine zj_iload_n (zdk ttX11_couple 11 rfl rfl) rfl ?_
        refine zj_bipush (zdk ttX11_couple 12 rfl rfl) (by decide) ?_
        refine zj_icmp_ge (t := 36) (zdk ttX11_couple 13 rfl rfl) (by decide) (by omega) (by decide) (fun c82 => ?_) (fun c82 => ?_)
        · refine zj_iconst (zdk ttX11_couple 21 rfl rfl) ?_
          have b83 : -2147483648 ≤ (h56.2 0 45) ∧ (h56.2 0 45) ≤ 2147483647 := fM_45 s57
          exact zj_iret rfl (zdk ttX11_couple 22 rfl rfl) (Nat.le_refl _) (Nat.le_refl _) ⟨0, rfl, by omega, s57, f58, by intro z8 z9; have w9 : zwp ((h.2 0 45) + 1) = (h.2 0 45) + 1 := zwp_id (by omega); unfold zcw; omega⟩
        · refine zj_aload_n (zdk ttX11_couple 14 rfl rfl) rfl (by decide) ?_
          refine zj_getr (r := 25) (zdk ttX11_couple 15 rfl rfl) zf_RX11_86 rfl (k_M s57) (rfM_46 s57) ?_
          refine zj_iload_n (zdk ttX11_couple 16 rfl rfl) rfl ?_
          refine zj_iconst (zdk ttX11_couple 17 rfl rfl) ?_
          refine zj_iast (zdk ttX11_couple 18 rfl rfl) (kaM_25 s57) (by decide) (by omega) (fun h84 e85 => ?_)
          refine zj_iinc (L' := [some (.inr 0), some (.inl p1), some (.inl p2), some (.inl (x55 + 1))]) (zdk ttX11_couple 19 rfl rfl) rfl (by decide) rfl ?_
          refine zj_goto (t := 17) (zdk ttX11_couple 20 rfl rfl) (by decide) ?_
          have b86 : h84.2 0 45 = (h56.2 0 45) := (zwr_r e85 (by omega))
          have b87 : -2147483648 ≤ (h56.2 0 45) ∧ (h56.2 0 45) ≤ 2147483647 := fM_45 s57
          have s88 : okM h84 := awM_25 s57 e85 (by omega) (by unfold nsp; omega)
          have f89 : zfr [0, 45] [25] h h84 := zfr_wa f58 e85 rfl
          exact ih81  (x55 + 1) h84 (by omega) s88 f89 (by omega) (by omega)
    have b90 : h53.2 0 45 = 0 := (zwr_v e54)
    have s91 : okM h53 := fwM_45 s52 e54 (by omega)
    have f93 : zfr [0, 45] [25] h h1 := zfr_wf (zfr_r _ _ _) e2 rfl
    have f92 : zfr [0, 45] [25] h h53 := zfr_wf f93 e54 rfl
    exact lp77 _ 0 h53 (by omega) s91 f92 (by omega) (Nat.lt_succ_self _)

abbrev q2_X11_seat (h : zM) (p1 : Int) : Option zV → zM → Prop := zqi fun v h' => ((-2147483648) ≤ v ∧ v ≤ 2147483647) ∧ okM h' ∧ zfr [0, 49] [28] h h' ∧ (zcw (p1 = -1) (1 ≤ p1 ∧ p1 ≤ 99) 7 (h.2 0 49) v (h'.2 0 49)) ∧ (zpu (h.2 28) (h'.2 28) v (h.2 0 49) p1)
set_option maxRecDepth 100000 in
set_option maxHeartbeats 4000000 in
theorem s2_X11_seat (l : Launch) (h : zM) (p1 : Int) (s0 : okM h) (b_p1 : (-2147483648) ≤ p1 ∧ p1 ≤ 2147483647) : zT shM l yX11_seat cX11_seat 2 (some .int) (rmL 2) 0 0 [.inr 0, .inl p1] h (q2_X11_seat h p1) := by
  refine zT_of (by decide +kernel) (L0 := [some (.inr 0), some (.inl p1)]) rfl (Nat.le_of_ble_eq_true rfl) ?_
  refine zj_aload_n (zdk ttX11_seat 0 rfl rfl) rfl (by decide) ?_
  refine zj_iconst (zdk ttX11_seat 1 rfl rfl) ?_
  refine zj_puti (zdk ttX11_seat 2 rfl rfl) zf_RX11_120 rfl (k_M s0) (Or.inl zw_RX11_120) (k2 := 0) rfl (fun h1 e2 => ?_)
  refine zj_iload_n (zdk ttX11_seat 3 rfl rfl) rfl ?_
  refine zj_iconst (zdk ttX11_seat 4 rfl rfl) ?_
  refine zj_icmp_ne (t := 17) (zdk ttX11_seat 5 rfl rfl) (by decide) (by omega) (by decide) (fun c3 => ?_) (fun c3 => ?_)
  · refine zj_aload_n (zdk ttX11_seat 11 rfl rfl) rfl (by decide) ?_
    refine zj_iload_n (zdk ttX11_seat 12 rfl rfl) rfl ?_
    refine zj_iconst (zdk ttX11_seat 13 rfl rfl) ?_
    refine zj_bipush (zdk ttX11_seat 14 rfl rfl) (by decide) ?_
    have s4 : okM h1 := fwM_0 s0 e2 (by omega)
    refine zj_callV (av := [.inl p1, .inl 1, .inl 99]) (st := []) (zdk ttX11_seat 15 rfl rfl) mb_X11_isIn mv_RX11_139 (ci := 11) rfl rfl (k_M s4) rfl rfl (Nat.le_of_ble_eq_true rfl) (s_X11_isIn l h1 p1 1 99 s4 (by omega) (by omega) (by omega)) (rm_ok (by decide) (by decide)) (zq_i fun v6 h7 q5 => ?_)
    obtain ⟨rfl, ⟨rfl, b8⟩ | ⟨rfl, b8⟩⟩ := q5
    · refine zj_if_eq (t := 37) (zdk ttX11_seat 16 rfl rfl) (by decide) (by decide) (fun c9 => ?_) (fun c9 => ?_)
      · refine zj_iconst (zdk ttX11_seat 21 rfl rfl) ?_
        have f10 : zfr [0, 49] [28] h h1 := zfr_wf (zfr_r _ _ _) e2 rfl
        have b11 : h1.2 0 49 = (h.2 0 49) := (zwr_r e2 (by omega))
        have b12 : 0 ≤ (h.2 0 49) ∧ (h.2 0 49) ≤ 7 := fM_49 s0
        exact zj_iret rfl (zdk ttX11_seat 22 rfl rfl) (Nat.le_refl _) (Nat.le_refl _) ⟨(-1), rfl, by omega, s4, f10, by unfold zcw; omega, (zpu_n (by omega) (fun i => (zwr_r e2 (by omega))))⟩
      · exact absurd c9 (by omega)
    · refine zj_if_eq (t := 37) (zdk ttX11_seat 16 rfl rfl) (by decide) (by decide) (fun c13 => ?_) (fun c13 => ?_)
      · exact absurd c13 (by omega)
      · refine zj_aload_n (zdk ttX11_seat 17 rfl rfl) rfl (by decide) ?_
        have b14 : 0 ≤ (h.2 0 49) ∧ (h.2 0 49) ≤ 7 := fM_49 s0
        refine zj_geti (v := (h.2 0 49)) (zdk ttX11_seat 18 rfl rfl) zf_RX11_425 rfl (k_M s4) (zwr_r e2 (by omega)) ?_
        refine zj_bipush (zdk ttX11_seat 19 rfl rfl) (by decide) ?_
        refine zj_icmp_ne (t := 39) (zdk ttX11_seat 20 rfl rfl) (by decide) (by omega) (by decide) (fun c15 => ?_) (fun c15 => ?_)
        · refine zj_aload_n (zdk ttX11_seat 23 rfl rfl) rfl (by decide) ?_
          refine zj_getr (r := 28) (zdk ttX11_seat 24 rfl rfl) zf_RX11_96 rfl (k_M s4) (rfM_50 s4) ?_
          refine zj_aload_n (zdk ttX11_seat 25 rfl rfl) rfl (by decide) ?_
          refine zj_geti (v := (h.2 0 49)) (zdk ttX11_seat 26 rfl rfl) zf_RX11_425 rfl (k_M s4) (zwr_r e2 (by omega)) ?_
          refine zj_iload_n (zdk ttX11_seat 27 rfl rfl) rfl ?_
          refine zj_iast (zdk ttX11_seat 28 rfl rfl) (kaM_28 s4) (by decide) (by omega) (fun h16 e17 => ?_)
          refine zj_aload_n (zdk ttX11_seat 29 rfl rfl) rfl (by decide) ?_
          refine zj_aload_n (zdk ttX11_seat 30 rfl rfl) rfl (by decide) ?_
          have s18 : okM h16 := awM_28 s4 e17 (by omega) (by unfold nsp; omega)
          refine zj_geti (v := (h.2 0 49)) (zdk ttX11_seat 31 rfl rfl) zf_RX11_425 rfl (k_M s18) ((zwr_r e17 (by omega)).trans (zwr_r e2 (by omega))) ?_
          refine zj_iconst (zdk ttX11_seat 32 rfl rfl) ?_
          refine zj_iadd (zdk ttX11_seat 33 rfl rfl) ?_
          refine zj_puti (zdk ttX11_seat 34 rfl rfl) zf_RX11_425 rfl (k_M s18) (Or.inl zw_RX11_425) (k2 := 49) rfl (fun h19 e20 => ?_)
          refine zj_aload_n (zdk ttX11_seat 35 rfl rfl) rfl (by decide) ?_
          have s21 : okM h19 := fwM_49 s18 e20 (by omega)
          refine zj_geti (v := ((h.2 0 49) + 1)) (zdk ttX11_seat 36 rfl rfl) zf_RX11_425 rfl (k_M s21) (zwr_v e20) ?_
          have f24 : zfr [0, 49] [28] h h1 := zfr_wf (zfr_r _ _ _) e2 rfl
          have f23 : zfr [0, 49] [28] h h16 := zfr_wa f24 e17 rfl
          have f22 : zfr [0, 49] [28] h h19 := zfr_wf f23 e20 rfl
          have b25 : h19.2 0 49 = ((h.2 0 49) + 1) := (zwr_v e20)
          exact zj_iret rfl (zdk ttX11_seat 37 rfl rfl) (Nat.le_refl _) (Nat.le_refl _) ⟨((h.2 0 49) + 1), rfl, by omega, s21, f22, by unfold zcw; omega, (zpu_x (by omega) (zpu_f (fun i => (zwr_r e2 (by omega))) (zpu_w e17 (by omega) (fun i => (zwr_r e20 (by omega))))))⟩
        · refine zj_iconst (zdk ttX11_seat 21 rfl rfl) ?_
          have f26 : zfr [0, 49] [28] h h1 := zfr_wf (zfr_r _ _ _) e2 rfl
          have b27 : h1.2 0 49 = (h.2 0 49) := (zwr_r e2 (by omega))
          exact zj_iret rfl (zdk ttX11_seat 22 rfl rfl) (Nat.le_refl _) (Nat.le_refl _) ⟨(-1), rfl, by omega, s4, f26, by unfold zcw; omega, (zpu_n (by omega) (fun i => (zwr_r e2 (by omega))))⟩
  · refine zj_aload_n (zdk ttX11_seat 6 rfl rfl) rfl (by decide) ?_
    refine zj_iconst (zdk ttX11_seat 7 rfl rfl) ?_
    have s28 : okM h1 := fwM_0 s0 e2 (by omega)
    refine zj_puti (zdk ttX11_seat 8 rfl rfl) zf_RX11_425 rfl (k_M s28) (Or.inl zw_RX11_425) (k2 := 49) rfl (fun h29 e30 => ?_)
    refine zj_iconst (zdk ttX11_seat 9 rfl rfl) ?_
    have s31 : okM h29 := fwM_49 s28 e30 (by omega)
    have f33 : zfr [0, 49] [28] h h1 := zfr_wf (zfr_r _ _ _) e2 rfl
    have f32 : zfr [0, 49] [28] h h29 := zfr_wf f33 e30 rfl
    have b34 : h29.2 0 49 = 0 := (zwr_v e30)
    exact zj_iret rfl (zdk ttX11_seat 10 rfl rfl) (Nat.le_refl _) (Nat.le_refl _) ⟨0, rfl, by omega, s31, f32, by unfold zcw; omega, (zpu_n (by omega) (fun i => ((zwr_r e30 (by omega)).trans (zwr_r e2 (by omega)))))⟩

abbrev q2_X11_arm (h : zM) (p1 : Int) (p2 : Int) : Option zV → zM → Prop := zqi fun v h' => ((-2147483648) ≤ v ∧ v ≤ 2147483647) ∧ okM h' ∧ zfr [0, 53] [31, 32] h h' ∧ (zcw (p1 = -100) ((-9 ≤ p1 ∧ p1 ≤ 9) ∧ ¬ p1 = 0 ∧ (1 ≤ p2 ∧ p2 ≤ 20)) 6 (h.2 0 53) v (h'.2 0 53)) ∧ (zpu (h.2 31) (h'.2 31) v (h.2 0 53) p1) ∧ (zpu (h.2 32) (h'.2 32) v (h.2 0 53) p2)
set_option maxRecDepth 100000 in
set_option maxHeartbeats 4000000 in
theorem s2_X11_arm (l : Launch) (h : zM) (p1 : Int) (p2 : Int) (s0 : okM h) (b_p1 : (-2147483648) ≤ p1 ∧ p1 ≤ 2147483647) (b_p2 : (-2147483648) ≤ p2 ∧ p2 ≤ 2147483647) : zT shM l yX11_arm cX11_arm 3 (some .int) (rmL 2) 0 0 [.inr 0, .inl p1, .inl p2] h (q2_X11_arm h p1 p2) := by
  refine zT_of (by decide +kernel) (L0 := [some (.inr 0), some (.inl p1), some (.inl p2)]) rfl (Nat.le_of_ble_eq_true rfl) ?_
  refine zj_aload_n (zdk ttX11_arm 0 rfl rfl) rfl (by decide) ?_
  refine zj_iconst (zdk ttX11_arm 1 rfl rfl) ?_
  refine zj_puti (zdk ttX11_arm 2 rfl rfl) zf_RX11_120 rfl (k_M s0) (Or.inl zw_RX11_120) (k2 := 0) rfl (fun h1 e2 => ?_)
  refine zj_iload_n (zdk ttX11_arm 3 rfl rfl) rfl ?_
  refine zj_bipush (zdk ttX11_arm 4 rfl rfl) (by decide) ?_
  refine zj_icmp_ne (t := 18) (zdk ttX11_arm 5 rfl rfl) (by decide) (by omega) (by decide) (fun c3 => ?_) (fun c3 => ?_)
  · refine zj_aload_n (zdk ttX11_arm 11 rfl rfl) rfl (by decide) ?_
    refine zj_iload_n (zdk ttX11_arm 12 rfl rfl) rfl ?_
    refine zj_bipush (zdk ttX11_arm 13 rfl rfl) (by decide) ?_
    refine zj_bipush (zdk ttX11_arm 14 rfl rfl) (by decide) ?_
    have s4 : okM h1 := fwM_0 s0 e2 (by omega)
    refine zj_callV (av := [.inl p1, .inl (-9), .inl 9]) (st := []) (zdk ttX11_arm 15 rfl rfl) mb_X11_isIn mv_RX11_139 (ci := 11) rfl rfl (k_M s4) rfl rfl (Nat.le_of_ble_eq_true rfl) (s_X11_isIn l h1 p1 (-9) 9 s4 (by omega) (by omega) (by omega)) (rm_ok (by decide) (by decide)) (zq_i fun v6 h7 q5 => ?_)
    obtain ⟨rfl, ⟨rfl, b8⟩ | ⟨rfl, b8⟩⟩ := q5
    · refine zj_if_eq (t := 54) (zdk ttX11_arm 16 rfl rfl) (by decide) (by decide) (fun c9 => ?_) (fun c9 => ?_)
      · refine zj_iconst (zdk ttX11_arm 29 rfl rfl) ?_
        have f10 : zfr [0, 53] [31, 32] h h1 := zfr_wf (zfr_r _ _ _) e2 rfl
        have b11 : h1.2 0 53 = (h.2 0 53) := (zwr_r e2 (by omega))
        have b12 : 0 ≤ (h.2 0 53) ∧ (h.2 0 53) ≤ 6 := fM_53 s0
        exact zj_iret rfl (zdk ttX11_arm 30 rfl rfl) (Nat.le_refl _) (Nat.le_refl _) ⟨(-1), rfl, by omega, s4, f10, by unfold zcw; omega, (zpu_n (by omega) (fun i => (zwr_r e2 (by omega)))), (zpu_n (by omega) (fun i => (zwr_r e2 (by omega))))⟩
      · exact absurd c9 (by omega)
    · refine zj_if_eq (t := 54) (zdk ttX11_arm 16 rfl rfl) (by decide) (by decide) (fun c13 => ?_) (fun c13 => ?_)
      · exact absurd c13 (by omega)
      · refine zj_iload_n (zdk ttX11_arm 17 rfl rfl) rfl ?_
        refine zj_if_eq (t := 54) (zdk ttX11_arm 18 rfl rfl) (by decide) (by omega) (fun c14 => ?_) (fun c14 => ?_)
        · refine zj_iconst (zdk ttX11_arm 29 rfl rfl) ?_
          have f15 : zfr [0, 53] [31, 32] h h1 := zfr_wf (zfr_r _ _ _) e2 rfl
          have b16 : h1.2 0 53 = (h.2 0 53) := (zwr_r e2 (by omega))
          have b17 : 0 ≤ (h.2 0 53) ∧ (h.2 0 53) ≤ 6 := fM_53 s0
          exact zj_iret rfl (zdk ttX11_arm 30 rfl rfl) (Nat.le_refl _) (Nat.le_refl _) ⟨(-1), rfl, by omega, s4, f15, by unfold zcw; omega, (zpu_n (by omega) (fun i => (zwr_r e2 (by omega)))), (zpu_n (by omega) (fun i => (zwr_r e2 (by omega))))⟩
        · refine zj_aload_n (zdk ttX11_arm 19 rfl rfl) rfl (by decide) ?_
          refine zj_iload_n (zdk ttX11_arm 20 rfl rfl) rfl ?_
          refine zj_iconst (zdk ttX11_arm 21 rfl rfl) ?_
          refine zj_bipush (zdk ttX11_arm 22 rfl rfl) (by decide) ?_
          refine zj_callV (av := [.inl p2, .inl 1, .inl 20]) (st := []) (zdk ttX11_arm 23 rfl rfl) mb_X11_isIn mv_RX11_139 (ci := 11) rfl rfl (k_M s4) rfl rfl (Nat.le_of_ble_eq_true rfl) (s_X11_isIn l h1 p2 1 20 s4 (by omega) (by omega) (by omega)) (rm_ok (by decide) (by decide)) (zq_i fun v19 h20 q18 => ?_)
          obtain ⟨rfl, ⟨rfl, b21⟩ | ⟨rfl, b21⟩⟩ := q18
          · refine zj_if_eq (t := 54) (zdk ttX11_arm 24 rfl rfl) (by decide) (by decide) (fun c22 => ?_) (fun c22 => ?_)
            · refine zj_iconst (zdk ttX11_arm 29 rfl rfl) ?_
              have f23 : zfr [0, 53] [31, 32] h h1 := zfr_wf (zfr_r _ _ _) e2 rfl
              have b24 : h1.2 0 53 = (h.2 0 53) := (zwr_r e2 (by omega))
              have b25 : 0 ≤ (h.2 0 53) ∧ (h.2 0 53) ≤ 6 := fM_53 s0
              exact zj_iret rfl (zdk ttX11_arm 30 rfl rfl) (Nat.le_refl _) (Nat.le_refl _) ⟨(-1), rfl, by omega, s4, f23, by unfold zcw; omega, (zpu_n (by omega) (fun i => (zwr_r e2 (by omega)))), (zpu_n (by omega) (fun i => (zwr_r e2 (by omega))))⟩
            · exact absurd c22 (by omega)
          · refine zj_if_eq (t := 54) (zdk ttX11_arm 24 rfl rfl) (by decide) (by decide) (fun c26 => ?_) (fun c26 => ?_)
            · exact absurd c26 (by omega)
            · refine zj_aload_n (zdk ttX11_arm 25 rfl rfl) rfl (by decide) ?_
              have b27 : 0 ≤ (h.2 0 53) ∧ (h.2 0 53) ≤ 6 := fM_53 s0
              refine zj_geti (v := (h.2 0 53)) (zdk ttX11_arm 26 rfl rfl) zf_RX11_445 rfl (k_M s4) (zwr_r e2 (by omega)) ?_
              refine zj_bipush (zdk ttX11_arm 27 rfl rfl) (by decide) ?_
              refine zj_icmp_ne (t := 56) (zdk ttX11_arm 28 rfl rfl) (by decide) (by omega) (by decide) (fun c28 => ?_) (fun c28 => ?_)
              · refine zj_aload_n (zdk ttX11_arm 31 rfl rfl) rfl (by decide) ?_
                refine zj_getr (r := 31) (zdk ttX11_arm 32 rfl rfl) zf_RX11_105 rfl (k_M s4) (rfM_54 s4) ?_
                refine zj_aload_n (zdk ttX11_arm 33 rfl rfl) rfl (by decide) ?_
                refine zj_geti (v := (h.2 0 53)) (zdk ttX11_arm 34 rfl rfl) zf_RX11_445 rfl (k_M s4) (zwr_r e2 (by omega)) ?_
                refine zj_iload_n (zdk ttX11_arm 35 rfl rfl) rfl ?_
                refine zj_iast (zdk ttX11_arm 36 rfl rfl) (kaM_31 s4) (by decide) (by omega) (fun h29 e30 => ?_)
                refine zj_aload_n (zdk ttX11_arm 37 rfl rfl) rfl (by decide) ?_
                have s31 : okM h29 := awM_31 s4 e30 (by omega) (by unfold nsp; omega)
                refine zj_getr (r := 32) (zdk ttX11_arm 38 rfl rfl) zf_RX11_108 rfl (k_M s31) (rfM_55 s31) ?_
                refine zj_aload_n (zdk ttX11_arm 39 rfl rfl) rfl (by decide) ?_
                refine zj_geti (v := (h.2 0 53)) (zdk ttX11_arm 40 rfl rfl) zf_RX11_445 rfl (k_M s31) ((zwr_r e30 (by omega)).trans (zwr_r e2 (by omega))) ?_
                refine zj_iload_n (zdk ttX11_arm 41 rfl rfl) rfl ?_
                refine zj_iast (zdk ttX11_arm 42 rfl rfl) (kaM_32 s31) (by decide) (by omega) (fun h32 e33 => ?_)
                refine zj_aload_n (zdk ttX11_arm 43 rfl rfl) rfl (by decide) ?_
                refine zj_aload_n (zdk ttX11_arm 44 rfl rfl) rfl (by decide) ?_
                have s34 : okM h32 := awM_32 s31 e33 (by omega) (by unfold nsp; omega)
                refine zj_geti (v := (h.2 0 53)) (zdk ttX11_arm 45 rfl rfl) zf_RX11_445 rfl (k_M s34) (((zwr_r e33 (by omega)).trans (zwr_r e30 (by omega))).trans (zwr_r e2 (by omega))) ?_
                refine zj_iconst (zdk ttX11_arm 46 rfl rfl) ?_
                refine zj_iadd (zdk ttX11_arm 47 rfl rfl) ?_
                refine zj_puti (zdk ttX11_arm 48 rfl rfl) zf_RX11_445 rfl (k_M s34) (Or.inl zw_RX11_445) (k2 := 53) rfl (fun h35 e36 => ?_)
                refine zj_aload_n (zdk ttX11_arm 49 rfl rfl) rfl (by decide) ?_
                have s37 : okM h35 := fwM_53 s34 e36 (by omega)
                refine zj_geti (v := ((h.2 0 53) + 1)) (zdk ttX11_arm 50 rfl rfl) zf_RX11_445 rfl (k_M s37) (zwr_v e36) ?_
                have f41 : zfr [0, 53] [31, 32] h h1 := zfr_wf (zfr_r _ _ _) e2 rfl
                have f40 : zfr [0, 53] [31, 32] h h29 := zfr_wa f41 e30 rfl
                have f39 : zfr [0, 53] [31, 32] h h32 := zfr_wa f40 e33 rfl
                have f38 : zfr [0, 53] [31, 32] h h35 := zfr_wf f39 e36 rfl
                have b42 : h35.2 0 53 = ((h.2 0 53) + 1) := (zwr_v e36)
                exact zj_iret rfl (zdk ttX11_arm 51 rfl rfl) (Nat.le_refl _) (Nat.le_refl _) ⟨((h.2 0 53) + 1), rfl, by omega, s37, f38, by unfold zcw; omega, (zpu_x (by omega) (zpu_f (fun i => (zwr_r e2 (by omega))) (zpu_w e30 (by omega) (fun i => ((zwr_r e36 (by omega)).trans (zwr_r e33 (by omega))))))), (zpu_x (by omega) (zpu_f (fun i => ((zwr_r e30 (by omega)).trans (zwr_r e2 (by omega)))) (zpu_w e33 (by omega) (fun i => (zwr_r e36 (by omega))))))⟩
              · refine zj_iconst (zdk ttX11_arm 29 rfl rfl) ?_
                have f43 : zfr [0, 53] [31, 32] h h1 := zfr_wf (zfr_r _ _ _) e2 rfl
                have b44 : h1.2 0 53 = (h.2 0 53) := (zwr_r e2 (by omega))
                exact zj_iret rfl (zdk ttX11_arm 30 rfl rfl) (Nat.le_refl _) (Nat.le_refl _) ⟨(-1), rfl, by omega, s4, f43, by unfold zcw; omega, (zpu_n (by omega) (fun i => (zwr_r e2 (by omega)))), (zpu_n (by omega) (fun i => (zwr_r e2 (by omega))))⟩
  · refine zj_aload_n (zdk ttX11_arm 6 rfl rfl) rfl (by decide) ?_
    refine zj_iconst (zdk ttX11_arm 7 rfl rfl) ?_
    have s45 : okM h1 := fwM_0 s0 e2 (by omega)
    refine zj_puti (zdk ttX11_arm 8 rfl rfl) zf_RX11_445 rfl (k_M s45) (Or.inl zw_RX11_445) (k2 := 53) rfl (fun h46 e47 => ?_)
    refine zj_iconst (zdk ttX11_arm 9 rfl rfl) ?_
    have s48 : okM h46 := fwM_53 s45 e47 (by omega)
    have f50 : zfr [0, 53] [31, 32] h h1 := zfr_wf (zfr_r _ _ _) e2 rfl
    have f49 : zfr [0, 53] [31, 32] h h46 := zfr_wf f50 e47 rfl
    have b51 : h46.2 0 53 = 0 := (zwr_v e47)
    exact zj_iret rfl (zdk ttX11_arm 10 rfl rfl) (Nat.le_refl _) (Nat.le_refl _) ⟨0, rfl, by omega, s48, f49, by unfold zcw; omega, (zpu_n (by omega) (fun i => ((zwr_r e47 (by omega)).trans (zwr_r e2 (by omega))))), (zpu_n (by omega) (fun i => ((zwr_r e47 (by omega)).trans (zwr_r e2 (by omega)))))⟩

abbrev q2_X11_feed (h : zM) (p1 : Int) (p2 : Int) (p3 : Int) (p4 : Int) (p5 : Int) : Option zV → zM → Prop := zqi fun v h' => ((-2147483648) ≤ v ∧ v ≤ 2147483647) ∧ okM h' ∧ zfr [0, 11] [7] h h' ∧ (zfd (h.2 0 11) v (h'.2 0 11))
set_option maxRecDepth 100000 in
set_option maxHeartbeats 4000000 in
theorem s2_X11_feed (l : Launch) (h : zM) (p1 : Int) (p2 : Int) (p3 : Int) (p4 : Int) (p5 : Int) (s0 : okM h) (b_p1 : (-2147483648) ≤ p1 ∧ p1 ≤ 2147483647) (b_p2 : (-2147483648) ≤ p2 ∧ p2 ≤ 2147483647) (b_p3 : (-2147483648) ≤ p3 ∧ p3 ≤ 2147483647) (b_p4 : (-2147483648) ≤ p4 ∧ p4 ≤ 2147483647) (b_p5 : (-2147483648) ≤ p5 ∧ p5 ≤ 2147483647) : zT shM l yX11_feed cX11_feed 6 (some .int) (rmL 2) 0 0 [.inr 0, .inl p1, .inl p2, .inl p3, .inl p4, .inl p5] h (q2_X11_feed h p1 p2 p3 p4 p5) := by
  refine zT_of (by decide +kernel) (L0 := [some (.inr 0), some (.inl p1), some (.inl p2), some (.inl p3), some (.inl p4), some (.inl p5)]) rfl (Nat.le_of_ble_eq_true rfl) ?_
  refine zj_aload_n (zdk ttX11_feed 0 rfl rfl) rfl (by decide) ?_
  refine zj_iconst (zdk ttX11_feed 1 rfl rfl) ?_
  refine zj_puti (zdk ttX11_feed 2 rfl rfl) zf_RX11_120 rfl (k_M s0) (Or.inl zw_RX11_120) (k2 := 0) rfl (fun h1 e2 => ?_)
  refine zj_aload_n (zdk ttX11_feed 3 rfl rfl) rfl (by decide) ?_
  have b3 : 0 ≤ (h.2 0 11) ∧ (h.2 0 11) ≤ 400 := fM_11 s0
  have s4 : okM h1 := fwM_0 s0 e2 (by omega)
  refine zj_geti (v := (h.2 0 11)) (zdk ttX11_feed 4 rfl rfl) zf_RX11_149 rfl (k_M s4) (zwr_r e2 (by omega)) ?_
  refine zj_sipush (zdk ttX11_feed 5 rfl rfl) (by decide) ?_
  refine zj_icmp_le (t := 17) (zdk ttX11_feed 6 rfl rfl) (by decide) (by omega) (by decide) (fun c5 => ?_) (fun c5 => ?_)
  · refine zj_aload_n (zdk ttX11_feed 9 rfl rfl) rfl (by decide) ?_
    refine zj_iload_n (zdk ttX11_feed 10 rfl rfl) rfl ?_
    have b6 : h1.2 0 11 = (h.2 0 11) := (zwr_r e2 (by omega))
    refine zj_callV (av := [.inl p1]) (st := []) (zdk ttX11_feed 11 rfl rfl) mb_X11_types mv_RX11_152 (ci := 11) rfl rfl (k_M s4) rfl rfl (Nat.le_of_ble_eq_true rfl) (s_X11_types l h1 p1 s4 (by omega) (by omega)) (rm_ok (by decide) (by decide)) (zq_v fun h9 q7 => ?_)
    obtain ⟨s11, f13, u12⟩ := q7
    refine zj_aload_n (zdk ttX11_feed 12 rfl rfl) rfl (by decide) ?_
    refine zj_iload_n (zdk ttX11_feed 13 rfl rfl) rfl ?_
    have b14 : 0 ≤ (h9.2 0 11) ∧ (h9.2 0 11) ≤ 400 := fM_11 s11
    refine zj_callV (av := [.inl p2]) (st := []) (zdk ttX11_feed 14 rfl rfl) mb_X11_types mv_RX11_152 (ci := 11) rfl rfl (k_M s11) rfl rfl (Nat.le_of_ble_eq_true rfl) (s_X11_types l h9 p2 s11 (by omega) (by omega)) (rm_ok (by decide) (by decide)) (zq_v fun h17 q15 => ?_)
    obtain ⟨s19, f21, u20⟩ := q15
    refine zj_aload_n (zdk ttX11_feed 15 rfl rfl) rfl (by decide) ?_
    refine zj_iload_n (zdk ttX11_feed 16 rfl rfl) rfl ?_
    have b22 : 0 ≤ (h17.2 0 11) ∧ (h17.2 0 11) ≤ 400 := fM_11 s19
    refine zj_callV (av := [.inl p3]) (st := []) (zdk ttX11_feed 17 rfl rfl) mb_X11_types mv_RX11_152 (ci := 11) rfl rfl (k_M s19) rfl rfl (Nat.le_of_ble_eq_true rfl) (s_X11_types l h17 p3 s19 (by omega) (by omega)) (rm_ok (by decide) (by decide)) (zq_v fun h25 q23 => ?_)
    obtain ⟨s27, f29, u28⟩ := q23
    refine zj_aload_n (zdk ttX11_feed 18 rfl rfl) rfl (by decide) ?_
    refine zj_iload (zdk ttX11_feed 19 rfl rfl) rfl ?_
    have b30 : 0 ≤ (h25.2 0 11) ∧ (h25.2 0 11) ≤ 400 := fM_11 s27
    refine zj_callV (av := [.inl p4]) (st := []) (zdk ttX11_feed 20 rfl rfl) mb_X11_types mv_RX11_152 (ci := 11) rfl rfl (k_M s27) rfl rfl (Nat.le_of_ble_eq_true rfl) (s_X11_types l h25 p4 s27 (by omega) (by omega)) (rm_ok (by decide) (by decide)) (zq_v fun h33 q31 => ?_)
    obtain ⟨s35, f37, u36⟩ := q31
    refine zj_aload_n (zdk ttX11_feed 21 rfl rfl) rfl (by decide) ?_
    refine zj_iload (zdk ttX11_feed 22 rfl rfl) rfl ?_
    have b38 : 0 ≤ (h33.2 0 11) ∧ (h33.2 0 11) ≤ 400 := fM_11 s35
    refine zj_callV (av := [.inl p5]) (st := []) (zdk ttX11_feed 23 rfl rfl) mb_X11_types mv_RX11_152 (ci := 11) rfl rfl (k_M s35) rfl rfl (Nat.le_of_ble_eq_true rfl) (s_X11_types l h33 p5 s35 (by omega) (by omega)) (rm_ok (by decide) (by decide)) (zq_v fun h41 q39 => ?_)
    obtain ⟨s43, f45, u44⟩ := q39
    refine zj_aload_n (zdk ttX11_feed 24 rfl rfl) rfl (by decide) ?_
    have b46 : 0 ≤ (h41.2 0 11) ∧ (h41.2 0 11) ≤ 400 := fM_11 s43
    refine zj_geti (v := (h41.2 0 11)) (zdk ttX11_feed 25 rfl rfl) zf_RX11_149 rfl (k_M s43) rfl ?_
    have f52 : zfr [0, 11] [7] h h1 := zfr_wf (zfr_r _ _ _) e2 rfl
    have f51 : zfr [0, 11] [7] h h9 := zfr_t f52 f13 rfl rfl
    have f50 : zfr [0, 11] [7] h h17 := zfr_t f51 f21 rfl rfl
    have f49 : zfr [0, 11] [7] h h25 := zfr_t f50 f29 rfl rfl
    have f48 : zfr [0, 11] [7] h h33 := zfr_t f49 f37 rfl rfl
    have f47 : zfr [0, 11] [7] h h41 := zfr_t f48 f45 rfl rfl
    exact zj_iret rfl (zdk ttX11_feed 26 rfl rfl) (Nat.le_refl _) (Nat.le_refl _) ⟨(h41.2 0 11), rfl, by omega, s43, f47, by unfold zfd; omega⟩
  · refine zj_iconst (zdk ttX11_feed 7 rfl rfl) ?_
    have f53 : zfr [0, 11] [7] h h1 := zfr_wf (zfr_r _ _ _) e2 rfl
    have b54 : h1.2 0 11 = (h.2 0 11) := (zwr_r e2 (by omega))
    exact zj_iret rfl (zdk ttX11_feed 8 rfl rfl) (Nat.le_refl _) (Nat.le_refl _) ⟨(-1), rfl, by omega, s4, f53, by unfold zfd; omega⟩

abbrev q2_X11_end (h : zM) (p1 : Int) : Option zV → zM → Prop := zqi fun v h' => (0 ≤ v ∧ v ≤ 1) ∧ okM h' ∧ zfr [0, 11] [] h h' ∧ (zen p1 (h.2 0 11) v (h'.2 0 11))
set_option maxRecDepth 100000 in
set_option maxHeartbeats 4000000 in
theorem s2_X11_end (l : Launch) (h : zM) (p1 : Int) (s0 : okM h) (b_p1 : (-2147483648) ≤ p1 ∧ p1 ≤ 2147483647) : zT shM l yX11_end cX11_end 2 (some .boolean) (rmL 2) 0 0 [.inr 0, .inl p1] h (q2_X11_end h p1) := by
  refine zT_of (by decide +kernel) (L0 := [some (.inr 0), some (.inl p1)]) rfl (Nat.le_of_ble_eq_true rfl) ?_
  refine zj_aload_n (zdk ttX11_end 0 rfl rfl) rfl (by decide) ?_
  refine zj_iconst (zdk ttX11_end 1 rfl rfl) ?_
  refine zj_puti (zdk ttX11_end 2 rfl rfl) zf_RX11_120 rfl (k_M s0) (Or.inl zw_RX11_120) (k2 := 0) rfl (fun h1 e2 => ?_)
  refine zj_aload_n (zdk ttX11_end 3 rfl rfl) rfl (by decide) ?_
  refine zj_iload_n (zdk ttX11_end 4 rfl rfl) rfl ?_
  refine zj_iconst (zdk ttX11_end 5 rfl rfl) ?_
  refine zj_aload_n (zdk ttX11_end 6 rfl rfl) rfl (by decide) ?_
  have b3 : 0 ≤ (h.2 0 11) ∧ (h.2 0 11) ≤ 400 := fM_11 s0
  have s4 : okM h1 := fwM_0 s0 e2 (by omega)
  refine zj_geti (v := (h.2 0 11)) (zdk ttX11_end 7 rfl rfl) zf_RX11_149 rfl (k_M s4) (zwr_r e2 (by omega)) ?_
  refine zj_callV (av := [.inl p1, .inl 0, .inl (h.2 0 11)]) (st := []) (zdk ttX11_end 8 rfl rfl) mb_X11_isIn mv_RX11_139 (ci := 11) rfl rfl (k_M s4) rfl rfl (Nat.le_of_ble_eq_true rfl) (s_X11_isIn l h1 p1 0 (h.2 0 11) s4 (by omega) (by omega) (by omega)) (rm_ok (by decide) (by decide)) (zq_i fun v6 h7 q5 => ?_)
  obtain ⟨rfl, ⟨rfl, b8⟩ | ⟨rfl, b8⟩⟩ := q5
  · refine zj_if_ne (t := 20) (zdk ttX11_end 9 rfl rfl) (by decide) (by decide) (fun c9 => ?_) (fun c9 => ?_)
    · exact absurd c9 (by omega)
    · refine zj_iconst (zdk ttX11_end 10 rfl rfl) ?_
      have f10 : zfr [0, 11] [] h h1 := zfr_wf (zfr_r _ _ _) e2 rfl
      have b11 : h1.2 0 11 = (h.2 0 11) := (zwr_r e2 (by omega))
      exact zj_zret rfl (zdk ttX11_end 11 rfl rfl) (Nat.le_refl _) (Nat.le_refl _) (by omega) ⟨0, rfl, by omega, s4, f10, by unfold zen; omega⟩
  · refine zj_if_ne (t := 20) (zdk ttX11_end 9 rfl rfl) (by decide) (by decide) (fun c12 => ?_) (fun c12 => ?_)
    · refine zj_aload_n (zdk ttX11_end 12 rfl rfl) rfl (by decide) ?_
      refine zj_iload_n (zdk ttX11_end 13 rfl rfl) rfl ?_
      refine zj_puti (zdk ttX11_end 14 rfl rfl) zf_RX11_149 rfl (k_M s4) (Or.inl zw_RX11_149) (k2 := 11) rfl (fun h13 e14 => ?_)
      refine zj_iconst (zdk ttX11_end 15 rfl rfl) ?_
      have s15 : okM h13 := fwM_11 s4 e14 (by omega)
      have f17 : zfr [0, 11] [] h h1 := zfr_wf (zfr_r _ _ _) e2 rfl
      have f16 : zfr [0, 11] [] h h13 := zfr_wf f17 e14 rfl
      have b18 : h13.2 0 11 = p1 := (zwr_v e14)
      exact zj_zret rfl (zdk ttX11_end 16 rfl rfl) (Nat.le_refl _) (Nat.le_refl _) (by omega) ⟨1, rfl, by omega, s15, f16, by unfold zen; omega⟩
    · exact absurd c12 (by omega)

abbrev q2_X11_text (h : zM) (p1 : Int) : Option zV → zM → Prop := zqi fun v h' => ((-2147483648) ≤ v ∧ v ≤ 2147483647) ∧ okM h' ∧ zfr [0, 3, 11, 12, 13, 14, 15, 24, 25, 26, 28, 29, 30, 31, 32, 33, 35, 37] [9, 10, 11, 12, 13, 14, 15, 16, 17, 18, 19] h h' ∧ (h'.2 0 11 = 0)
set_option maxRecDepth 100000 in
set_option maxHeartbeats 4000000 in
theorem s2_X11_text (l : Launch) (h : zM) (p1 : Int) (s0 : okM h) (b_p1 : (-2147483648) ≤ p1 ∧ p1 ≤ 2147483647) : zT shM l yX11_text cX11_text 3 (some .int) (rmL 11) 0 0 [.inr 0, .inl p1] h (q2_X11_text h p1) := by
  refine zT_of (by decide +kernel) (L0 := [some (.inr 0), some (.inl p1), none]) rfl (Nat.le_of_ble_eq_true rfl) ?_
  refine zj_aload_n (zdk ttX11_text 0 rfl rfl) rfl (by decide) ?_
  refine zj_iconst (zdk ttX11_text 1 rfl rfl) ?_
  refine zj_puti (zdk ttX11_text 2 rfl rfl) zf_RX11_120 rfl (k_M s0) (Or.inl zw_RX11_120) (k2 := 0) rfl (fun h1 e2 => ?_)
  refine zj_aload_n (zdk ttX11_text 3 rfl rfl) rfl (by decide) ?_
  refine zj_iconst (zdk ttX11_text 4 rfl rfl) ?_
  have s3 : okM h1 := fwM_0 s0 e2 (by omega)
  refine zj_puti (zdk ttX11_text 5 rfl rfl) zf_RX11_291 rfl (k_M s3) (Or.inl zw_RX11_291) (k2 := 31) rfl (fun h4 e5 => ?_)
  refine zj_aload_n (zdk ttX11_text 6 rfl rfl) rfl (by decide) ?_
  refine zj_iconst (zdk ttX11_text 7 rfl rfl) ?_
  have s6 : okM h4 := fwM_31 s3 e5 (by omega)
  refine zj_puti (zdk ttX11_text 8 rfl rfl) zf_RX11_58 rfl (k_M s6) (Or.inl zw_RX11_58) (k2 := 32) rfl (fun h7 e8 => ?_)
  refine zj_aload_n (zdk ttX11_text 9 rfl rfl) rfl (by decide) ?_
  refine zj_iconst (zdk ttX11_text 10 rfl rfl) ?_
  have s9 : okM h7 := fwM_32 s6 e8 (by omega)
  refine zj_puti (zdk ttX11_text 11 rfl rfl) zf_RX11_156 rfl (k_M s9) (Or.inl zw_RX11_156) (k2 := 12) rfl (fun h10 e11 => ?_)
  refine zj_aload_n (zdk ttX11_text 12 rfl rfl) rfl (by decide) ?_
  refine zj_iconst (zdk ttX11_text 13 rfl rfl) ?_
  have s12 : okM h10 := fwM_12 s9 e11 (by omega)
  refine zj_puti (zdk ttX11_text 14 rfl rfl) zf_RX11_191 rfl (k_M s12) (Or.inl zw_RX11_191) (k2 := 25) rfl (fun h13 e14 => ?_)
  refine zj_aload_n (zdk ttX11_text 15 rfl rfl) rfl (by decide) ?_
  refine zj_iconst (zdk ttX11_text 16 rfl rfl) ?_
  have s15 : okM h13 := fwM_25 s12 e14 (by omega)
  refine zj_puti (zdk ttX11_text 17 rfl rfl) zf_RX11_223 rfl (k_M s15) (Or.inl zw_RX11_223) (k2 := 26) rfl (fun h16 e17 => ?_)
  refine zj_iconst (zdk ttX11_text 18 rfl rfl) ?_
  refine zj_istore_n (L' := [some (.inr 0), some (.inl p1), some (.inl (-1))]) (zdk ttX11_text 19 rfl rfl) (by decide) rfl ?_
  refine zj_aload_n (zdk ttX11_text 20 rfl rfl) rfl (by decide) ?_
  refine zj_iload_n (zdk ttX11_text 21 rfl rfl) rfl ?_
  refine zj_iconst (zdk ttX11_text 22 rfl rfl) ?_
  refine zj_iconst (zdk ttX11_text 23 rfl rfl) ?_
  have s18 : okM h16 := fwM_26 s15 e17 (by omega)
  refine zj_callV (av := [.inl p1, .inl 0, .inl 3]) (st := []) (zdk ttX11_text 24 rfl rfl) mb_X11_isIn mv_RX11_139 (ci := 11) rfl rfl (k_M s18) rfl rfl (Nat.le_of_ble_eq_true rfl) (s_X11_isIn l h16 p1 0 3 s18 (by omega) (by omega) (by omega)) (rm_ok (by decide) (by decide)) (zq_i fun v20 h21 q19 => ?_)
  obtain ⟨rfl, ⟨rfl, b22⟩ | ⟨rfl, b22⟩⟩ := q19
  · refine zj_if_eq (t := 69) (zdk ttX11_text 25 rfl rfl) (by decide) (by decide) (fun c23 => ?_) (fun c23 => ?_)
    · refine zj_aload_n (zdk ttX11_text 41 rfl rfl) rfl (by decide) ?_
      refine zj_iconst (zdk ttX11_text 42 rfl rfl) ?_
      refine zj_puti (zdk ttX11_text 43 rfl rfl) zf_RX11_149 rfl (k_M s18) (Or.inl zw_RX11_149) (k2 := 11) rfl (fun h24 e25 => ?_)
      refine zj_iload_n (zdk ttX11_text 44 rfl rfl) rfl ?_
      refine zj_iconst (zdk ttX11_text 45 rfl rfl) ?_
      refine zj_icmp_ne (t := 81) (zdk ttX11_text 46 rfl rfl) (by decide) (by decide) (by decide) (fun c26 => ?_) (fun c26 => ?_)
      · exact absurd c26 (by omega)
      · refine zj_iconst (zdk ttX11_text 47 rfl rfl) ?_
        have s27 : okM h24 := fwM_11 s18 e25 (by omega)
        have f34 : zfr [0, 3, 11, 12, 13, 14, 15, 24, 25, 26, 28, 29, 30, 31, 32, 33, 35, 37] [9, 10, 11, 12, 13, 14, 15, 16, 17, 18, 19] h h1 := zfr_wf (zfr_r _ _ _) e2 rfl
        have f33 : zfr [0, 3, 11, 12, 13, 14, 15, 24, 25, 26, 28, 29, 30, 31, 32, 33, 35, 37] [9, 10, 11, 12, 13, 14, 15, 16, 17, 18, 19] h h4 := zfr_wf f34 e5 rfl
        have f32 : zfr [0, 3, 11, 12, 13, 14, 15, 24, 25, 26, 28, 29, 30, 31, 32, 33, 35, 37] [9, 10, 11, 12, 13, 14, 15, 16, 17, 18, 19] h h7 := zfr_wf f33 e8 rfl
        have f31 : zfr [0, 3, 11, 12, 13, 14, 15, 24, 25, 26, 28, 29, 30, 31, 32, 33, 35, 37] [9, 10, 11, 12, 13, 14, 15, 16, 17, 18, 19] h h10 := zfr_wf f32 e11 rfl
        have f30 : zfr [0, 3, 11, 12, 13, 14, 15, 24, 25, 26, 28, 29, 30, 31, 32, 33, 35, 37] [9, 10, 11, 12, 13, 14, 15, 16, 17, 18, 19] h h13 := zfr_wf f31 e14 rfl
        have f29 : zfr [0, 3, 11, 12, 13, 14, 15, 24, 25, 26, 28, 29, 30, 31, 32, 33, 35, 37] [9, 10, 11, 12, 13, 14, 15, 16, 17, 18, 19] h h16 := zfr_wf f30 e17 rfl
        have f28 : zfr [0, 3, 11, 12, 13, 14, 15, 24, 25, 26, 28, 29, 30, 31, 32, 33, 35, 37] [9, 10, 11, 12, 13, 14, 15, 16, 17, 18, 19] h h24 := zfr_wf f29 e25 rfl
        have b35 : h24.2 0 11 = 0 := (zwr_v e25)
        exact zj_iret rfl (zdk ttX11_text 48 rfl rfl) (Nat.le_refl _) (Nat.le_refl _) ⟨(-1), rfl, by omega, s27, f28, by omega⟩
    · exact absurd c23 (by omega)
  · refine zj_if_eq (t := 69) (zdk ttX11_text 25 rfl rfl) (by decide) (by decide) (fun c36 => ?_) (fun c36 => ?_)
    · exact absurd c36 (by omega)
    · refine zj_aload_n (zdk ttX11_text 26 rfl rfl) rfl (by decide) ?_
      refine zj_iload_n (zdk ttX11_text 27 rfl rfl) rfl ?_
      have b37 : h16.2 0 25 = 0 := ((zwr_r e17 (by omega)).trans (zwr_v e14))
      refine zj_callV (av := [.inl p1]) (st := []) (zdk ttX11_text 28 rfl rfl) mb_X11_readsText mv_RX11_294 (ci := 11) rfl rfl (k_M s18) rfl rfl (Nat.le_of_ble_eq_true rfl) (s_X11_readsText l h16 p1 s18 (by omega) (by omega)) (rm_ok (by decide) (by decide)) (zq_i fun v39 h40 q38 => ?_)
      obtain ⟨b41, s42, f45, u43, u44⟩ := q38
      refine zj_istore_n (L' := [some (.inr 0), some (.inl p1), some (.inl v39)]) (zdk ttX11_text 29 rfl rfl) (by decide) rfl ?_
      refine zj_iload_n (zdk ttX11_text 30 rfl rfl) rfl ?_
      refine zj_iconst (zdk ttX11_text 31 rfl rfl) ?_
      refine zj_icmp_ne (t := 69) (zdk ttX11_text 32 rfl rfl) (by decide) (by omega) (by decide) (fun c46 => ?_) (fun c46 => ?_)
      · refine zj_aload_n (zdk ttX11_text 41 rfl rfl) rfl (by decide) ?_
        refine zj_iconst (zdk ttX11_text 42 rfl rfl) ?_
        refine zj_puti (zdk ttX11_text 43 rfl rfl) zf_RX11_149 rfl (k_M s42) (Or.inl zw_RX11_149) (k2 := 11) rfl (fun h47 e48 => ?_)
        refine zj_iload_n (zdk ttX11_text 44 rfl rfl) rfl ?_
        refine zj_iconst (zdk ttX11_text 45 rfl rfl) ?_
        refine zj_icmp_ne (t := 81) (zdk ttX11_text 46 rfl rfl) (by decide) (by omega) (by decide) (fun c49 => ?_) (fun c49 => ?_)
        · refine zj_iload_n (zdk ttX11_text 49 rfl rfl) rfl ?_
          refine zj_if_ne (t := 93) (zdk ttX11_text 50 rfl rfl) (by decide) (by omega) (fun c50 => ?_) (fun c50 => ?_)
          · refine zj_aload_n (zdk ttX11_text 55 rfl rfl) rfl (by decide) ?_
            refine zj_iload_n (zdk ttX11_text 56 rfl rfl) rfl ?_
            refine zj_iload_n (zdk ttX11_text 57 rfl rfl) rfl ?_
            have s51 : okM h47 := fwM_11 s42 e48 (by omega)
            refine zj_callV (av := [.inl p1, .inl v39]) (st := []) (zdk ttX11_text 58 rfl rfl) mb_X11_takesOther mv_RX11_300 (ci := 11) rfl rfl (k_M s51) rfl rfl (Nat.le_of_ble_eq_true rfl) (s_X11_takesOther l h47 p1 v39 s51 (by omega) (by omega) (fun q j j1 j2 => by rw [zwr_r e48 (by omega), zwr_r e48 (by omega)]; exact u44 q j j1 j2)) (rm_ok (by decide) (by decide)) (zq_v fun h54 q52 => ?_)
            obtain ⟨s56, f57⟩ := q52
            refine zj_iload_n (zdk ttX11_text 59 rfl rfl) rfl ?_
            have f66 : zfr [0, 3, 11, 12, 13, 14, 15, 24, 25, 26, 28, 29, 30, 31, 32, 33, 35, 37] [9, 10, 11, 12, 13, 14, 15, 16, 17, 18, 19] h h1 := zfr_wf (zfr_r _ _ _) e2 rfl
            have f65 : zfr [0, 3, 11, 12, 13, 14, 15, 24, 25, 26, 28, 29, 30, 31, 32, 33, 35, 37] [9, 10, 11, 12, 13, 14, 15, 16, 17, 18, 19] h h4 := zfr_wf f66 e5 rfl
            have f64 : zfr [0, 3, 11, 12, 13, 14, 15, 24, 25, 26, 28, 29, 30, 31, 32, 33, 35, 37] [9, 10, 11, 12, 13, 14, 15, 16, 17, 18, 19] h h7 := zfr_wf f65 e8 rfl
            have f63 : zfr [0, 3, 11, 12, 13, 14, 15, 24, 25, 26, 28, 29, 30, 31, 32, 33, 35, 37] [9, 10, 11, 12, 13, 14, 15, 16, 17, 18, 19] h h10 := zfr_wf f64 e11 rfl
            have f62 : zfr [0, 3, 11, 12, 13, 14, 15, 24, 25, 26, 28, 29, 30, 31, 32, 33, 35, 37] [9, 10, 11, 12, 13, 14, 15, 16, 17, 18, 19] h h13 := zfr_wf f63 e14 rfl
            have f61 : zfr [0, 3, 11, 12, 13, 14, 15, 24, 25, 26, 28, 29, 30, 31, 32, 33, 35, 37] [9, 10, 11, 12, 13, 14, 15, 16, 17, 18, 19] h h16 := zfr_wf f62 e17 rfl
            have f60 : zfr [0, 3, 11, 12, 13, 14, 15, 24, 25, 26, 28, 29, 30, 31, 32, 33, 35, 37] [9, 10, 11, 12, 13, 14, 15, 16, 17, 18, 19] h h40 := zfr_t f61 f45 rfl rfl
            have f59 : zfr [0, 3, 11, 12, 13, 14, 15, 24, 25, 26, 28, 29, 30, 31, 32, 33, 35, 37] [9, 10, 11, 12, 13, 14, 15, 16, 17, 18, 19] h h47 := zfr_wf f60 e48 rfl
            have f58 : zfr [0, 3, 11, 12, 13, 14, 15, 24, 25, 26, 28, 29, 30, 31, 32, 33, 35, 37] [9, 10, 11, 12, 13, 14, 15, 16, 17, 18, 19] h h54 := zfr_t f59 f57 rfl rfl
            have b67 : h54.2 0 11 = 0 := ((zfr_f f57 rfl rfl).trans (zwr_v e48))
            exact zj_iret rfl (zdk ttX11_text 60 rfl rfl) (Nat.le_refl _) (Nat.le_refl _) ⟨v39, rfl, by omega, s56, f58, by omega⟩
          · refine zj_aload_n (zdk ttX11_text 51 rfl rfl) rfl (by decide) ?_
            refine zj_iload_n (zdk ttX11_text 52 rfl rfl) rfl ?_
            have s68 : okM h47 := fwM_11 s42 e48 (by omega)
            refine zj_callV (av := [.inl v39]) (st := []) (zdk ttX11_text 53 rfl rfl) mb_X11_takesLaw mv_RX11_297 (ci := 11) rfl rfl (k_M s68) rfl rfl (Nat.le_of_ble_eq_true rfl) (s_X11_takesLaw l h47 v39 s68 (by omega) (zLn_f (u43 (by omega) (by omega)) e48 (by decide))) (rm_ok (by decide) (by decide)) (zq_v fun h71 q69 => ?_)
            obtain ⟨s73, f74⟩ := q69
            refine zj_goto (t := 99) (zdk ttX11_text 54 rfl rfl) (by decide) ?_
            refine zj_iload_n (zdk ttX11_text 59 rfl rfl) rfl ?_
            have f83 : zfr [0, 3, 11, 12, 13, 14, 15, 24, 25, 26, 28, 29, 30, 31, 32, 33, 35, 37] [9, 10, 11, 12, 13, 14, 15, 16, 17, 18, 19] h h1 := zfr_wf (zfr_r _ _ _) e2 rfl
            have f82 : zfr [0, 3, 11, 12, 13, 14, 15, 24, 25, 26, 28, 29, 30, 31, 32, 33, 35, 37] [9, 10, 11, 12, 13, 14, 15, 16, 17, 18, 19] h h4 := zfr_wf f83 e5 rfl
            have f81 : zfr [0, 3, 11, 12, 13, 14, 15, 24, 25, 26, 28, 29, 30, 31, 32, 33, 35, 37] [9, 10, 11, 12, 13, 14, 15, 16, 17, 18, 19] h h7 := zfr_wf f82 e8 rfl
            have f80 : zfr [0, 3, 11, 12, 13, 14, 15, 24, 25, 26, 28, 29, 30, 31, 32, 33, 35, 37] [9, 10, 11, 12, 13, 14, 15, 16, 17, 18, 19] h h10 := zfr_wf f81 e11 rfl
            have f79 : zfr [0, 3, 11, 12, 13, 14, 15, 24, 25, 26, 28, 29, 30, 31, 32, 33, 35, 37] [9, 10, 11, 12, 13, 14, 15, 16, 17, 18, 19] h h13 := zfr_wf f80 e14 rfl
            have f78 : zfr [0, 3, 11, 12, 13, 14, 15, 24, 25, 26, 28, 29, 30, 31, 32, 33, 35, 37] [9, 10, 11, 12, 13, 14, 15, 16, 17, 18, 19] h h16 := zfr_wf f79 e17 rfl
            have f77 : zfr [0, 3, 11, 12, 13, 14, 15, 24, 25, 26, 28, 29, 30, 31, 32, 33, 35, 37] [9, 10, 11, 12, 13, 14, 15, 16, 17, 18, 19] h h40 := zfr_t f78 f45 rfl rfl
            have f76 : zfr [0, 3, 11, 12, 13, 14, 15, 24, 25, 26, 28, 29, 30, 31, 32, 33, 35, 37] [9, 10, 11, 12, 13, 14, 15, 16, 17, 18, 19] h h47 := zfr_wf f77 e48 rfl
            have f75 : zfr [0, 3, 11, 12, 13, 14, 15, 24, 25, 26, 28, 29, 30, 31, 32, 33, 35, 37] [9, 10, 11, 12, 13, 14, 15, 16, 17, 18, 19] h h71 := zfr_t f76 f74 rfl rfl
            have b84 : h71.2 0 11 = 0 := ((zfr_f f74 rfl rfl).trans (zwr_v e48))
            exact zj_iret rfl (zdk ttX11_text 60 rfl rfl) (Nat.le_refl _) (Nat.le_refl _) ⟨v39, rfl, by omega, s73, f75, by omega⟩
        · exact absurd c49 (by omega)
      · refine zj_aload_n (zdk ttX11_text 33 rfl rfl) rfl (by decide) ?_
        refine zj_aload_n (zdk ttX11_text 34 rfl rfl) rfl (by decide) ?_
        have b85 : -2147483648 ≤ (h40.2 0 29) ∧ (h40.2 0 29) ≤ 2147483647 := fM_29 s42
        refine zj_geti (v := (h40.2 0 29)) (zdk ttX11_text 35 rfl rfl) zf_RX11_185 rfl (k_M s42) rfl ?_
        refine zj_puti (zdk ttX11_text 36 rfl rfl) zf_RX11_291 rfl (k_M s42) (Or.inl zw_RX11_291) (k2 := 31) rfl (fun h86 e87 => ?_)
        refine zj_aload_n (zdk ttX11_text 37 rfl rfl) rfl (by decide) ?_
        refine zj_aload_n (zdk ttX11_text 38 rfl rfl) rfl (by decide) ?_
        have b88 : -2147483648 ≤ (h40.2 0 30) ∧ (h40.2 0 30) ≤ 2147483647 := fM_30 s42
        have s89 : okM h86 := fwM_31 s42 e87 (by omega)
        refine zj_geti (v := (h40.2 0 30)) (zdk ttX11_text 39 rfl rfl) zf_RX11_188 rfl (k_M s89) (zwr_r e87 (by omega)) ?_
        refine zj_puti (zdk ttX11_text 40 rfl rfl) zf_RX11_58 rfl (k_M s89) (Or.inl zw_RX11_58) (k2 := 32) rfl (fun h90 e91 => ?_)
        refine zj_aload_n (zdk ttX11_text 41 rfl rfl) rfl (by decide) ?_
        refine zj_iconst (zdk ttX11_text 42 rfl rfl) ?_
        have s92 : okM h90 := fwM_32 s89 e91 (by omega)
        refine zj_puti (zdk ttX11_text 43 rfl rfl) zf_RX11_149 rfl (k_M s92) (Or.inl zw_RX11_149) (k2 := 11) rfl (fun h93 e94 => ?_)
        refine zj_iload_n (zdk ttX11_text 44 rfl rfl) rfl ?_
        refine zj_iconst (zdk ttX11_text 45 rfl rfl) ?_
        refine zj_icmp_ne (t := 81) (zdk ttX11_text 46 rfl rfl) (by decide) (by omega) (by decide) (fun c95 => ?_) (fun c95 => ?_)
        · exact absurd c95 (by omega)
        · refine zj_iconst (zdk ttX11_text 47 rfl rfl) ?_
          have s96 : okM h93 := fwM_11 s92 e94 (by omega)
          have f106 : zfr [0, 3, 11, 12, 13, 14, 15, 24, 25, 26, 28, 29, 30, 31, 32, 33, 35, 37] [9, 10, 11, 12, 13, 14, 15, 16, 17, 18, 19] h h1 := zfr_wf (zfr_r _ _ _) e2 rfl
          have f105 : zfr [0, 3, 11, 12, 13, 14, 15, 24, 25, 26, 28, 29, 30, 31, 32, 33, 35, 37] [9, 10, 11, 12, 13, 14, 15, 16, 17, 18, 19] h h4 := zfr_wf f106 e5 rfl
          have f104 : zfr [0, 3, 11, 12, 13, 14, 15, 24, 25, 26, 28, 29, 30, 31, 32, 33, 35, 37] [9, 10, 11, 12, 13, 14, 15, 16, 17, 18, 19] h h7 := zfr_wf f105 e8 rfl
          have f103 : zfr [0, 3, 11, 12, 13, 14, 15, 24, 25, 26, 28, 29, 30, 31, 32, 33, 35, 37] [9, 10, 11, 12, 13, 14, 15, 16, 17, 18, 19] h h10 := zfr_wf f104 e11 rfl
          have f102 : zfr [0, 3, 11, 12, 13, 14, 15, 24, 25, 26, 28, 29, 30, 31, 32, 33, 35, 37] [9, 10, 11, 12, 13, 14, 15, 16, 17, 18, 19] h h13 := zfr_wf f103 e14 rfl
          have f101 : zfr [0, 3, 11, 12, 13, 14, 15, 24, 25, 26, 28, 29, 30, 31, 32, 33, 35, 37] [9, 10, 11, 12, 13, 14, 15, 16, 17, 18, 19] h h16 := zfr_wf f102 e17 rfl
          have f100 : zfr [0, 3, 11, 12, 13, 14, 15, 24, 25, 26, 28, 29, 30, 31, 32, 33, 35, 37] [9, 10, 11, 12, 13, 14, 15, 16, 17, 18, 19] h h40 := zfr_t f101 f45 rfl rfl
          have f99 : zfr [0, 3, 11, 12, 13, 14, 15, 24, 25, 26, 28, 29, 30, 31, 32, 33, 35, 37] [9, 10, 11, 12, 13, 14, 15, 16, 17, 18, 19] h h86 := zfr_wf f100 e87 rfl
          have f98 : zfr [0, 3, 11, 12, 13, 14, 15, 24, 25, 26, 28, 29, 30, 31, 32, 33, 35, 37] [9, 10, 11, 12, 13, 14, 15, 16, 17, 18, 19] h h90 := zfr_wf f99 e91 rfl
          have f97 : zfr [0, 3, 11, 12, 13, 14, 15, 24, 25, 26, 28, 29, 30, 31, 32, 33, 35, 37] [9, 10, 11, 12, 13, 14, 15, 16, 17, 18, 19] h h93 := zfr_wf f98 e94 rfl
          have b107 : h93.2 0 11 = 0 := (zwr_v e94)
          exact zj_iret rfl (zdk ttX11_text 48 rfl rfl) (Nat.le_refl _) (Nat.le_refl _) ⟨(-1), rfl, by omega, s96, f97, by omega⟩

abbrev q2_X11_islander (h : zM) (p1 : Int) (p2 : Int) : Option zV → zM → Prop := zqi fun v h' => ((-2147483648) ≤ v ∧ v ≤ 2147483647) ∧ okM h' ∧ zfr [0, 3, 6] [1, 4, 5] h h' ∧ (zis p1 p2 (h.2 0 6) v (h'.2 0 6))
set_option maxRecDepth 100000 in
set_option maxHeartbeats 4000000 in
theorem s2_X11_islander (l : Launch) (h : zM) (p1 : Int) (p2 : Int) (s0 : okM h) (b_p1 : (-2147483648) ≤ p1 ∧ p1 ≤ 2147483647) (b_p2 : (-2147483648) ≤ p2 ∧ p2 ≤ 2147483647) : zT shM l yX11_islander cX11_islander 3 (some .int) (rmL 2) 0 0 [.inr 0, .inl p1, .inl p2] h (q2_X11_islander h p1 p2) := by
  refine zT_of (by decide +kernel) (L0 := [some (.inr 0), some (.inl p1), some (.inl p2)]) rfl (Nat.le_of_ble_eq_true rfl) ?_
  refine zj_aload_n (zdk ttX11_islander 0 rfl rfl) rfl (by decide) ?_
  refine zj_iconst (zdk ttX11_islander 1 rfl rfl) ?_
  refine zj_puti (zdk ttX11_islander 2 rfl rfl) zf_RX11_120 rfl (k_M s0) (Or.inl zw_RX11_120) (k2 := 0) rfl (fun h1 e2 => ?_)
  refine zj_aload_n (zdk ttX11_islander 3 rfl rfl) rfl (by decide) ?_
  refine zj_iload_n (zdk ttX11_islander 4 rfl rfl) rfl ?_
  refine zj_iconst (zdk ttX11_islander 5 rfl rfl) ?_
  refine zj_sipush (zdk ttX11_islander 6 rfl rfl) (by decide) ?_
  have s3 : okM h1 := fwM_0 s0 e2 (by omega)
  refine zj_callV (av := [.inl p1, .inl 1, .inl 200]) (st := []) (zdk ttX11_islander 7 rfl rfl) mb_X11_isIn mv_RX11_139 (ci := 11) rfl rfl (k_M s3) rfl rfl (Nat.le_of_ble_eq_true rfl) (s_X11_isIn l h1 p1 1 200 s3 (by omega) (by omega) (by omega)) (rm_ok (by decide) (by decide)) (zq_i fun v5 h6 q4 => ?_)
  obtain ⟨rfl, ⟨rfl, b7⟩ | ⟨rfl, b7⟩⟩ := q4
  · refine zj_if_eq (t := 37) (zdk ttX11_islander 8 rfl rfl) (by decide) (by decide) (fun c8 => ?_) (fun c8 => ?_)
    · refine zj_iconst (zdk ttX11_islander 19 rfl rfl) ?_
      have f9 : zfr [0, 3, 6] [1, 4, 5] h h1 := zfr_wf (zfr_r _ _ _) e2 rfl
      have b10 : h1.2 0 6 = (h.2 0 6) := (zwr_r e2 (by omega))
      have b11 : 0 ≤ (h.2 0 6) ∧ (h.2 0 6) ≤ 18 := fM_6 s0
      exact zj_iret rfl (zdk ttX11_islander 20 rfl rfl) (Nat.le_refl _) (Nat.le_refl _) ⟨(-1), rfl, by omega, s3, f9, by unfold zis zisG; omega⟩
    · exact absurd c8 (by omega)
  · refine zj_if_eq (t := 37) (zdk ttX11_islander 8 rfl rfl) (by decide) (by decide) (fun c12 => ?_) (fun c12 => ?_)
    · exact absurd c12 (by omega)
    · refine zj_aload_n (zdk ttX11_islander 9 rfl rfl) rfl (by decide) ?_
      refine zj_iload_n (zdk ttX11_islander 10 rfl rfl) rfl ?_
      refine zj_iconst (zdk ttX11_islander 11 rfl rfl) ?_
      refine zj_bipush (zdk ttX11_islander 12 rfl rfl) (by decide) ?_
      refine zj_callV (av := [.inl p2, .inl 0, .inl 9]) (st := []) (zdk ttX11_islander 13 rfl rfl) mb_X11_isIn mv_RX11_139 (ci := 11) rfl rfl (k_M s3) rfl rfl (Nat.le_of_ble_eq_true rfl) (s_X11_isIn l h1 p2 0 9 s3 (by omega) (by omega) (by omega)) (rm_ok (by decide) (by decide)) (zq_i fun v14 h15 q13 => ?_)
      obtain ⟨rfl, ⟨rfl, b16⟩ | ⟨rfl, b16⟩⟩ := q13
      · refine zj_if_eq (t := 37) (zdk ttX11_islander 14 rfl rfl) (by decide) (by decide) (fun c17 => ?_) (fun c17 => ?_)
        · refine zj_iconst (zdk ttX11_islander 19 rfl rfl) ?_
          have f18 : zfr [0, 3, 6] [1, 4, 5] h h1 := zfr_wf (zfr_r _ _ _) e2 rfl
          have b19 : h1.2 0 6 = (h.2 0 6) := (zwr_r e2 (by omega))
          have b20 : 0 ≤ (h.2 0 6) ∧ (h.2 0 6) ≤ 18 := fM_6 s0
          exact zj_iret rfl (zdk ttX11_islander 20 rfl rfl) (Nat.le_refl _) (Nat.le_refl _) ⟨(-1), rfl, by omega, s3, f18, by unfold zis zisG; omega⟩
        · exact absurd c17 (by omega)
      · refine zj_if_eq (t := 37) (zdk ttX11_islander 14 rfl rfl) (by decide) (by decide) (fun c21 => ?_) (fun c21 => ?_)
        · exact absurd c21 (by omega)
        · refine zj_aload_n (zdk ttX11_islander 15 rfl rfl) rfl (by decide) ?_
          have b22 : 0 ≤ (h.2 0 6) ∧ (h.2 0 6) ≤ 18 := fM_6 s0
          refine zj_geti (v := (h.2 0 6)) (zdk ttX11_islander 16 rfl rfl) zf_RX11_132 rfl (k_M s3) (zwr_r e2 (by omega)) ?_
          refine zj_bipush (zdk ttX11_islander 17 rfl rfl) (by decide) ?_
          refine zj_icmp_ne (t := 39) (zdk ttX11_islander 18 rfl rfl) (by decide) (by omega) (by decide) (fun c23 => ?_) (fun c23 => ?_)
          · refine zj_aload_n (zdk ttX11_islander 21 rfl rfl) rfl (by decide) ?_
            refine zj_getr (r := 4) (zdk ttX11_islander 22 rfl rfl) zf_RX11_19 rfl (k_M s3) (rfM_7 s3) ?_
            refine zj_aload_n (zdk ttX11_islander 23 rfl rfl) rfl (by decide) ?_
            refine zj_geti (v := (h.2 0 6)) (zdk ttX11_islander 24 rfl rfl) zf_RX11_132 rfl (k_M s3) (zwr_r e2 (by omega)) ?_
            refine zj_iload_n (zdk ttX11_islander 25 rfl rfl) rfl ?_
            refine zj_iast (zdk ttX11_islander 26 rfl rfl) (kaM_4 s3) (by decide) (by omega) (fun h24 e25 => ?_)
            refine zj_aload_n (zdk ttX11_islander 27 rfl rfl) rfl (by decide) ?_
            have s26 : okM h24 := awM_4 s3 e25 (by omega) (by unfold nsp; omega)
            refine zj_getr (r := 5) (zdk ttX11_islander 28 rfl rfl) zf_RX11_22 rfl (k_M s26) (rfM_8 s26) ?_
            refine zj_aload_n (zdk ttX11_islander 29 rfl rfl) rfl (by decide) ?_
            refine zj_geti (v := (h.2 0 6)) (zdk ttX11_islander 30 rfl rfl) zf_RX11_132 rfl (k_M s26) ((zwr_r e25 (by omega)).trans (zwr_r e2 (by omega))) ?_
            refine zj_iload_n (zdk ttX11_islander 31 rfl rfl) rfl ?_
            refine zj_iast (zdk ttX11_islander 32 rfl rfl) (kaM_5 s26) (by decide) (by omega) (fun h27 e28 => ?_)
            refine zj_aload_n (zdk ttX11_islander 33 rfl rfl) rfl (by decide) ?_
            have s29 : okM h27 := awM_5 s26 e28 (by omega) (by unfold nsp; omega)
            refine zj_getr (r := 1) (zdk ttX11_islander 34 rfl rfl) zf_RX11_7 rfl (k_M s29) (rfM_1 s29) ?_
            refine zj_bipush (zdk ttX11_islander 35 rfl rfl) (by decide) ?_
            refine zj_aload_n (zdk ttX11_islander 36 rfl rfl) rfl (by decide) ?_
            refine zj_geti (v := (h.2 0 6)) (zdk ttX11_islander 37 rfl rfl) zf_RX11_132 rfl (k_M s29) (((zwr_r e28 (by omega)).trans (zwr_r e25 (by omega))).trans (zwr_r e2 (by omega))) ?_
            refine zj_iadd (zdk ttX11_islander 38 rfl rfl) ?_
            refine zj_iconst (zdk ttX11_islander 39 rfl rfl) ?_
            refine zj_iast (zdk ttX11_islander 40 rfl rfl) (kaM_1 s29) (by decide) (by omega) (fun h30 e31 => ?_)
            refine zj_aload_n (zdk ttX11_islander 41 rfl rfl) rfl (by decide) ?_
            have s32 : okM h30 := okM_wr s29 e31 (by decide) (by omega) (by omega)
            refine zj_getr (r := 1) (zdk ttX11_islander 42 rfl rfl) zf_RX11_7 rfl (k_M s32) (rfM_1 s32) ?_
            refine zj_bipush (zdk ttX11_islander 43 rfl rfl) (by decide) ?_
            refine zj_aload_n (zdk ttX11_islander 44 rfl rfl) rfl (by decide) ?_
            refine zj_geti (v := (h.2 0 6)) (zdk ttX11_islander 45 rfl rfl) zf_RX11_132 rfl (k_M s32) ((((zwr_r e31 (by omega)).trans (zwr_r e28 (by omega))).trans (zwr_r e25 (by omega))).trans (zwr_r e2 (by omega))) ?_
            refine zj_iadd (zdk ttX11_islander 46 rfl rfl) ?_
            refine zj_iconst (zdk ttX11_islander 47 rfl rfl) ?_
            refine zj_iast (zdk ttX11_islander 48 rfl rfl) (kaM_1 s32) (by decide) (by omega) (fun h33 e34 => ?_)
            refine zj_aload_n (zdk ttX11_islander 49 rfl rfl) rfl (by decide) ?_
            have s35 : okM h33 := okM_wr s32 e34 (by decide) (by omega) (by omega)
            refine zj_getr (r := 1) (zdk ttX11_islander 50 rfl rfl) zf_RX11_7 rfl (k_M s35) (rfM_1 s35) ?_
            refine zj_bipush (zdk ttX11_islander 51 rfl rfl) (by decide) ?_
            refine zj_aload_n (zdk ttX11_islander 52 rfl rfl) rfl (by decide) ?_
            refine zj_geti (v := (h.2 0 6)) (zdk ttX11_islander 53 rfl rfl) zf_RX11_132 rfl (k_M s35) (((((zwr_r e34 (by omega)).trans (zwr_r e31 (by omega))).trans (zwr_r e28 (by omega))).trans (zwr_r e25 (by omega))).trans (zwr_r e2 (by omega))) ?_
            refine zj_iadd (zdk ttX11_islander 54 rfl rfl) ?_
            refine zj_iconst (zdk ttX11_islander 55 rfl rfl) ?_
            refine zj_iast (zdk ttX11_islander 56 rfl rfl) (kaM_1 s35) (by decide) (by omega) (fun h36 e37 => ?_)
            refine zj_aload_n (zdk ttX11_islander 57 rfl rfl) rfl (by decide) ?_
            refine zj_aload_n (zdk ttX11_islander 58 rfl rfl) rfl (by decide) ?_
            have s38 : okM h36 := okM_wr s35 e37 (by decide) (by omega) (by omega)
            refine zj_geti (v := (h.2 0 6)) (zdk ttX11_islander 59 rfl rfl) zf_RX11_132 rfl (k_M s38) ((((((zwr_r e37 (by omega)).trans (zwr_r e34 (by omega))).trans (zwr_r e31 (by omega))).trans (zwr_r e28 (by omega))).trans (zwr_r e25 (by omega))).trans (zwr_r e2 (by omega))) ?_
            refine zj_iconst (zdk ttX11_islander 60 rfl rfl) ?_
            refine zj_iadd (zdk ttX11_islander 61 rfl rfl) ?_
            refine zj_puti (zdk ttX11_islander 62 rfl rfl) zf_RX11_132 rfl (k_M s38) (Or.inl zw_RX11_132) (k2 := 6) rfl (fun h39 e40 => ?_)
            refine zj_aload_n (zdk ttX11_islander 63 rfl rfl) rfl (by decide) ?_
            refine zj_iconst (zdk ttX11_islander 64 rfl rfl) ?_
            have s41 : okM h39 := fwM_6 s38 e40 (by omega)
            refine zj_puti (zdk ttX11_islander 65 rfl rfl) zf_RX11_123 rfl (k_M s41) (Or.inl zw_RX11_123) (k2 := 3) rfl (fun h42 e43 => ?_)
            refine zj_aload_n (zdk ttX11_islander 66 rfl rfl) rfl (by decide) ?_
            have s44 : okM h42 := fwM_3 s41 e43 (by omega)
            refine zj_geti (v := ((h.2 0 6) + 1)) (zdk ttX11_islander 67 rfl rfl) zf_RX11_132 rfl (k_M s44) ((zwr_r e43 (by omega)).trans (zwr_v e40)) ?_
            refine zj_iconst (zdk ttX11_islander 68 rfl rfl) ?_
            refine zj_isub (zdk ttX11_islander 69 rfl rfl) ?_
            have f52 : zfr [0, 3, 6] [1, 4, 5] h h1 := zfr_wf (zfr_r _ _ _) e2 rfl
            have f51 : zfr [0, 3, 6] [1, 4, 5] h h24 := zfr_wa f52 e25 rfl
            have f50 : zfr [0, 3, 6] [1, 4, 5] h h27 := zfr_wa f51 e28 rfl
            have f49 : zfr [0, 3, 6] [1, 4, 5] h h30 := zfr_wa f50 e31 rfl
            have f48 : zfr [0, 3, 6] [1, 4, 5] h h33 := zfr_wa f49 e34 rfl
            have f47 : zfr [0, 3, 6] [1, 4, 5] h h36 := zfr_wa f48 e37 rfl
            have f46 : zfr [0, 3, 6] [1, 4, 5] h h39 := zfr_wf f47 e40 rfl
            have f45 : zfr [0, 3, 6] [1, 4, 5] h h42 := zfr_wf f46 e43 rfl
            have b53 : h42.2 0 6 = ((h.2 0 6) + 1) := ((zwr_r e43 (by omega)).trans (zwr_v e40))
            exact zj_iret rfl (zdk ttX11_islander 70 rfl rfl) (Nat.le_refl _) (Nat.le_refl _) ⟨(((h.2 0 6) + 1) - 1), rfl, by omega, s44, f45, by unfold zis zisG; omega⟩
          · refine zj_iconst (zdk ttX11_islander 19 rfl rfl) ?_
            have f54 : zfr [0, 3, 6] [1, 4, 5] h h1 := zfr_wf (zfr_r _ _ _) e2 rfl
            have b55 : h1.2 0 6 = (h.2 0 6) := (zwr_r e2 (by omega))
            exact zj_iret rfl (zdk ttX11_islander 20 rfl rfl) (Nat.le_refl _) (Nat.le_refl _) ⟨(-1), rfl, by omega, s3, f54, by unfold zis zisG; omega⟩

abbrev q2_X11_set (h : zM) (p1 : Int) (p2 : Int) (p3 : Int) : Option zV → zM → Prop := zqi fun v h' => (0 ≤ v ∧ v ≤ 1) ∧ okM h' ∧ zfr [0, 3] [1, 4, 5] h h' ∧ (zst9 p1 p2 p3 (h.2 0 6) v)
set_option maxRecDepth 100000 in
set_option maxHeartbeats 4000000 in
theorem s2_X11_set (l : Launch) (h : zM) (p1 : Int) (p2 : Int) (p3 : Int) (s0 : okM h) (b_p1 : (-2147483648) ≤ p1 ∧ p1 ≤ 2147483647) (b_p2 : (-2147483648) ≤ p2 ∧ p2 ≤ 2147483647) (b_p3 : (-2147483648) ≤ p3 ∧ p3 ≤ 2147483647) : zT shM l yX11_set cX11_set 4 (some .boolean) (rmL 3) 0 0 [.inr 0, .inl p1, .inl p2, .inl p3] h (q2_X11_set h p1 p2 p3) := by
  refine zT_of (by decide +kernel) (L0 := [some (.inr 0), some (.inl p1), some (.inl p2), some (.inl p3)]) rfl (Nat.le_of_ble_eq_true rfl) ?_
  refine zj_aload_n (zdk ttX11_set 0 rfl rfl) rfl (by decide) ?_
  refine zj_iconst (zdk ttX11_set 1 rfl rfl) ?_
  refine zj_puti (zdk ttX11_set 2 rfl rfl) zf_RX11_120 rfl (k_M s0) (Or.inl zw_RX11_120) (k2 := 0) rfl (fun h1 e2 => ?_)
  refine zj_aload_n (zdk ttX11_set 3 rfl rfl) rfl (by decide) ?_
  refine zj_iload_n (zdk ttX11_set 4 rfl rfl) rfl ?_
  refine zj_iload_n (zdk ttX11_set 5 rfl rfl) rfl ?_
  refine zj_iload_n (zdk ttX11_set 6 rfl rfl) rfl ?_
  have s3 : okM h1 := fwM_0 s0 e2 (by omega)
  refine zj_callV (av := [.inl p1, .inl p2, .inl p3]) (st := []) (zdk ttX11_set 7 rfl rfl) mb_X11_canSet mv_RX11_146 (ci := 11) rfl rfl (k_M s3) rfl rfl (Nat.le_of_ble_eq_true rfl) (s_X11_canSet l h1 p1 p2 p3 s3 (by omega) (by omega) (by omega)) (rm_ok (by decide) (by decide)) (zq_i fun v5 h6 q4 => ?_)
  obtain ⟨rfl, b8, ⟨rfl, b7⟩ | ⟨rfl, b7⟩⟩ := q4
  · refine zj_if_ne (t := 17) (zdk ttX11_set 8 rfl rfl) (by decide) (by decide) (fun c9 => ?_) (fun c9 => ?_)
    · exact absurd c9 (by omega)
    · refine zj_iconst (zdk ttX11_set 9 rfl rfl) ?_
      have f10 : zfr [0, 3] [1, 4, 5] h h1 := zfr_wf (zfr_r _ _ _) e2 rfl
      have b11 : h1.2 0 6 = (h.2 0 6) := (zwr_r e2 (by omega))
      have b12 : 0 ≤ (h.2 0 6) ∧ (h.2 0 6) ≤ 18 := fM_6 s0
      exact zj_zret rfl (zdk ttX11_set 10 rfl rfl) (Nat.le_refl _) (Nat.le_refl _) (by omega) ⟨0, rfl, by omega, s3, f10, by unfold zst9 zstG; omega⟩
  · refine zj_if_ne (t := 17) (zdk ttX11_set 8 rfl rfl) (by decide) (by decide) (fun c13 => ?_) (fun c13 => ?_)
    · refine zj_iload_n (zdk ttX11_set 11 rfl rfl) rfl ?_
      refine zj_if_ne (t := 28) (zdk ttX11_set 12 rfl rfl) (by decide) (by omega) (fun c14 => ?_) (fun c14 => ?_)
      · refine zj_iload_n (zdk ttX11_set 18 rfl rfl) rfl ?_
        refine zj_iconst (zdk ttX11_set 19 rfl rfl) ?_
        refine zj_icmp_ne (t := 40) (zdk ttX11_set 20 rfl rfl) (by decide) (by omega) (by decide) (fun c15 => ?_) (fun c15 => ?_)
        · refine zj_iload_n (zdk ttX11_set 26 rfl rfl) rfl ?_
          refine zj_iconst (zdk ttX11_set 27 rfl rfl) ?_
          refine zj_icmp_ne (t := 52) (zdk ttX11_set 28 rfl rfl) (by decide) (by omega) (by decide) (fun c16 => ?_) (fun c16 => ?_)
          · refine zj_iload_n (zdk ttX11_set 34 rfl rfl) rfl ?_
            refine zj_iconst (zdk ttX11_set 35 rfl rfl) ?_
            refine zj_icmp_ne (t := 64) (zdk ttX11_set 36 rfl rfl) (by decide) (by omega) (by decide) (fun c17 => ?_) (fun c17 => ?_)
            · refine zj_iload_n (zdk ttX11_set 42 rfl rfl) rfl ?_
              refine zj_iconst (zdk ttX11_set 43 rfl rfl) ?_
              refine zj_icmp_ne (t := 77) (zdk ttX11_set 44 rfl rfl) (by decide) (by omega) (by decide) (fun c18 => ?_) (fun c18 => ?_)
              · exact absurd c18 (by omega)
              · refine zj_aload_n (zdk ttX11_set 45 rfl rfl) rfl (by decide) ?_
                refine zj_getr (r := 1) (zdk ttX11_set 46 rfl rfl) zf_RX11_7 rfl (k_M s3) (rfM_1 s3) ?_
                refine zj_bipush (zdk ttX11_set 47 rfl rfl) (by decide) ?_
                refine zj_iload_n (zdk ttX11_set 48 rfl rfl) rfl ?_
                refine zj_iast (zdk ttX11_set 49 rfl rfl) (kaM_1 s3) (by decide) (by omega) (fun h19 e20 => ?_)
                refine zj_aload_n (zdk ttX11_set 50 rfl rfl) rfl (by decide) ?_
                refine zj_iconst (zdk ttX11_set 51 rfl rfl) ?_
                have s21 : okM h19 := okM_wr s3 e20 (by decide) (by omega) (by omega)
                refine zj_puti (zdk ttX11_set 52 rfl rfl) zf_RX11_123 rfl (k_M s21) (Or.inl zw_RX11_123) (k2 := 3) rfl (fun h22 e23 => ?_)
                refine zj_iconst (zdk ttX11_set 53 rfl rfl) ?_
                have s24 : okM h22 := fwM_3 s21 e23 (by omega)
                have f27 : zfr [0, 3] [1, 4, 5] h h1 := zfr_wf (zfr_r _ _ _) e2 rfl
                have f26 : zfr [0, 3] [1, 4, 5] h h19 := zfr_wa f27 e20 rfl
                have f25 : zfr [0, 3] [1, 4, 5] h h22 := zfr_wf f26 e23 rfl
                have b28 : h1.2 0 6 = (h.2 0 6) := (zwr_r e2 (by omega))
                have b29 : 0 ≤ (h.2 0 6) ∧ (h.2 0 6) ≤ 18 := fM_6 s0
                exact zj_zret rfl (zdk ttX11_set 54 rfl rfl) (Nat.le_refl _) (Nat.le_refl _) (by omega) ⟨1, rfl, by omega, s24, f25, by unfold zst9 zstG; omega⟩
            · refine zj_aload_n (zdk ttX11_set 37 rfl rfl) rfl (by decide) ?_
              refine zj_getr (r := 1) (zdk ttX11_set 38 rfl rfl) zf_RX11_7 rfl (k_M s3) (rfM_1 s3) ?_
              refine zj_iconst (zdk ttX11_set 39 rfl rfl) ?_
              refine zj_iload_n (zdk ttX11_set 40 rfl rfl) rfl ?_
              refine zj_iast (zdk ttX11_set 41 rfl rfl) (kaM_1 s3) (by decide) (by omega) (fun h30 e31 => ?_)
              refine zj_iload_n (zdk ttX11_set 42 rfl rfl) rfl ?_
              refine zj_iconst (zdk ttX11_set 43 rfl rfl) ?_
              refine zj_icmp_ne (t := 77) (zdk ttX11_set 44 rfl rfl) (by decide) (by omega) (by decide) (fun c32 => ?_) (fun c32 => ?_)
              · refine zj_aload_n (zdk ttX11_set 50 rfl rfl) rfl (by decide) ?_
                refine zj_iconst (zdk ttX11_set 51 rfl rfl) ?_
                have s33 : okM h30 := okM_wr s3 e31 (by decide) (by omega) (by omega)
                refine zj_puti (zdk ttX11_set 52 rfl rfl) zf_RX11_123 rfl (k_M s33) (Or.inl zw_RX11_123) (k2 := 3) rfl (fun h34 e35 => ?_)
                refine zj_iconst (zdk ttX11_set 53 rfl rfl) ?_
                have s36 : okM h34 := fwM_3 s33 e35 (by omega)
                have f39 : zfr [0, 3] [1, 4, 5] h h1 := zfr_wf (zfr_r _ _ _) e2 rfl
                have f38 : zfr [0, 3] [1, 4, 5] h h30 := zfr_wa f39 e31 rfl
                have f37 : zfr [0, 3] [1, 4, 5] h h34 := zfr_wf f38 e35 rfl
                have b40 : h1.2 0 6 = (h.2 0 6) := (zwr_r e2 (by omega))
                have b41 : 0 ≤ (h.2 0 6) ∧ (h.2 0 6) ≤ 18 := fM_6 s0
                exact zj_zret rfl (zdk ttX11_set 54 rfl rfl) (Nat.le_refl _) (Nat.le_refl _) (by omega) ⟨1, rfl, by omega, s36, f37, by unfold zst9 zstG; omega⟩
              · exact absurd c32 (by omega)
          · refine zj_aload_n (zdk ttX11_set 29 rfl rfl) rfl (by decide) ?_
            refine zj_getr (r := 1) (zdk ttX11_set 30 rfl rfl) zf_RX11_7 rfl (k_M s3) (rfM_1 s3) ?_
            refine zj_iconst (zdk ttX11_set 31 rfl rfl) ?_
            refine zj_iload_n (zdk ttX11_set 32 rfl rfl) rfl ?_
            refine zj_iast (zdk ttX11_set 33 rfl rfl) (kaM_1 s3) (by decide) (by omega) (fun h42 e43 => ?_)
            refine zj_iload_n (zdk ttX11_set 34 rfl rfl) rfl ?_
            refine zj_iconst (zdk ttX11_set 35 rfl rfl) ?_
            refine zj_icmp_ne (t := 64) (zdk ttX11_set 36 rfl rfl) (by decide) (by omega) (by decide) (fun c44 => ?_) (fun c44 => ?_)
            · refine zj_iload_n (zdk ttX11_set 42 rfl rfl) rfl ?_
              refine zj_iconst (zdk ttX11_set 43 rfl rfl) ?_
              refine zj_icmp_ne (t := 77) (zdk ttX11_set 44 rfl rfl) (by decide) (by omega) (by decide) (fun c45 => ?_) (fun c45 => ?_)
              · refine zj_aload_n (zdk ttX11_set 50 rfl rfl) rfl (by decide) ?_
                refine zj_iconst (zdk ttX11_set 51 rfl rfl) ?_
                have s46 : okM h42 := okM_wr s3 e43 (by decide) (by omega) (by omega)
                refine zj_puti (zdk ttX11_set 52 rfl rfl) zf_RX11_123 rfl (k_M s46) (Or.inl zw_RX11_123) (k2 := 3) rfl (fun h47 e48 => ?_)
                refine zj_iconst (zdk ttX11_set 53 rfl rfl) ?_
                have s49 : okM h47 := fwM_3 s46 e48 (by omega)
                have f52 : zfr [0, 3] [1, 4, 5] h h1 := zfr_wf (zfr_r _ _ _) e2 rfl
                have f51 : zfr [0, 3] [1, 4, 5] h h42 := zfr_wa f52 e43 rfl
                have f50 : zfr [0, 3] [1, 4, 5] h h47 := zfr_wf f51 e48 rfl
                have b53 : h1.2 0 6 = (h.2 0 6) := (zwr_r e2 (by omega))
                have b54 : 0 ≤ (h.2 0 6) ∧ (h.2 0 6) ≤ 18 := fM_6 s0
                exact zj_zret rfl (zdk ttX11_set 54 rfl rfl) (Nat.le_refl _) (Nat.le_refl _) (by omega) ⟨1, rfl, by omega, s49, f50, by unfold zst9 zstG; omega⟩
              · exact absurd c45 (by omega)
            · exact absurd c44 (by omega)
        · refine zj_aload_n (zdk ttX11_set 21 rfl rfl) rfl (by decide) ?_
          refine zj_getr (r := 5) (zdk ttX11_set 22 rfl rfl) zf_RX11_22 rfl (k_M s3) (rfM_8 s3) ?_
          refine zj_iload_n (zdk ttX11_set 23 rfl rfl) rfl ?_
          refine zj_iload_n (zdk ttX11_set 24 rfl rfl) rfl ?_
          refine zj_iast (zdk ttX11_set 25 rfl rfl) (kaM_5 s3) (by decide) (by omega) (fun h55 e56 => ?_)
          refine zj_iload_n (zdk ttX11_set 26 rfl rfl) rfl ?_
          refine zj_iconst (zdk ttX11_set 27 rfl rfl) ?_
          refine zj_icmp_ne (t := 52) (zdk ttX11_set 28 rfl rfl) (by decide) (by omega) (by decide) (fun c57 => ?_) (fun c57 => ?_)
          · refine zj_iload_n (zdk ttX11_set 34 rfl rfl) rfl ?_
            refine zj_iconst (zdk ttX11_set 35 rfl rfl) ?_
            refine zj_icmp_ne (t := 64) (zdk ttX11_set 36 rfl rfl) (by decide) (by omega) (by decide) (fun c58 => ?_) (fun c58 => ?_)
            · refine zj_iload_n (zdk ttX11_set 42 rfl rfl) rfl ?_
              refine zj_iconst (zdk ttX11_set 43 rfl rfl) ?_
              refine zj_icmp_ne (t := 77) (zdk ttX11_set 44 rfl rfl) (by decide) (by omega) (by decide) (fun c59 => ?_) (fun c59 => ?_)
              · refine zj_aload_n (zdk ttX11_set 50 rfl rfl) rfl (by decide) ?_
                refine zj_iconst (zdk ttX11_set 51 rfl rfl) ?_
                have s60 : okM h55 := awM_5 s3 e56 (by omega) (by unfold nsp; omega)
                refine zj_puti (zdk ttX11_set 52 rfl rfl) zf_RX11_123 rfl (k_M s60) (Or.inl zw_RX11_123) (k2 := 3) rfl (fun h61 e62 => ?_)
                refine zj_iconst (zdk ttX11_set 53 rfl rfl) ?_
                have s63 : okM h61 := fwM_3 s60 e62 (by omega)
                have f66 : zfr [0, 3] [1, 4, 5] h h1 := zfr_wf (zfr_r _ _ _) e2 rfl
                have f65 : zfr [0, 3] [1, 4, 5] h h55 := zfr_wa f66 e56 rfl
                have f64 : zfr [0, 3] [1, 4, 5] h h61 := zfr_wf f65 e62 rfl
                have b67 : h1.2 0 6 = (h.2 0 6) := (zwr_r e2 (by omega))
                have b68 : 0 ≤ (h.2 0 6) ∧ (h.2 0 6) ≤ 18 := fM_6 s0
                exact zj_zret rfl (zdk ttX11_set 54 rfl rfl) (Nat.le_refl _) (Nat.le_refl _) (by omega) ⟨1, rfl, by omega, s63, f64, by unfold zst9 zstG; omega⟩
              · exact absurd c59 (by omega)
            · exact absurd c58 (by omega)
          · exact absurd c57 (by omega)
      · refine zj_aload_n (zdk ttX11_set 13 rfl rfl) rfl (by decide) ?_
        refine zj_getr (r := 4) (zdk ttX11_set 14 rfl rfl) zf_RX11_19 rfl (k_M s3) (rfM_7 s3) ?_
        refine zj_iload_n (zdk ttX11_set 15 rfl rfl) rfl ?_
        refine zj_iload_n (zdk ttX11_set 16 rfl rfl) rfl ?_
        refine zj_iast (zdk ttX11_set 17 rfl rfl) (kaM_4 s3) (by decide) (by omega) (fun h69 e70 => ?_)
        refine zj_iload_n (zdk ttX11_set 18 rfl rfl) rfl ?_
        refine zj_iconst (zdk ttX11_set 19 rfl rfl) ?_
        refine zj_icmp_ne (t := 40) (zdk ttX11_set 20 rfl rfl) (by decide) (by omega) (by decide) (fun c71 => ?_) (fun c71 => ?_)
        · refine zj_iload_n (zdk ttX11_set 26 rfl rfl) rfl ?_
          refine zj_iconst (zdk ttX11_set 27 rfl rfl) ?_
          refine zj_icmp_ne (t := 52) (zdk ttX11_set 28 rfl rfl) (by decide) (by omega) (by decide) (fun c72 => ?_) (fun c72 => ?_)
          · refine zj_iload_n (zdk ttX11_set 34 rfl rfl) rfl ?_
            refine zj_iconst (zdk ttX11_set 35 rfl rfl) ?_
            refine zj_icmp_ne (t := 64) (zdk ttX11_set 36 rfl rfl) (by decide) (by omega) (by decide) (fun c73 => ?_) (fun c73 => ?_)
            · refine zj_iload_n (zdk ttX11_set 42 rfl rfl) rfl ?_
              refine zj_iconst (zdk ttX11_set 43 rfl rfl) ?_
              refine zj_icmp_ne (t := 77) (zdk ttX11_set 44 rfl rfl) (by decide) (by omega) (by decide) (fun c74 => ?_) (fun c74 => ?_)
              · refine zj_aload_n (zdk ttX11_set 50 rfl rfl) rfl (by decide) ?_
                refine zj_iconst (zdk ttX11_set 51 rfl rfl) ?_
                have s75 : okM h69 := awM_4 s3 e70 (by omega) (by unfold nsp; omega)
                refine zj_puti (zdk ttX11_set 52 rfl rfl) zf_RX11_123 rfl (k_M s75) (Or.inl zw_RX11_123) (k2 := 3) rfl (fun h76 e77 => ?_)
                refine zj_iconst (zdk ttX11_set 53 rfl rfl) ?_
                have s78 : okM h76 := fwM_3 s75 e77 (by omega)
                have f81 : zfr [0, 3] [1, 4, 5] h h1 := zfr_wf (zfr_r _ _ _) e2 rfl
                have f80 : zfr [0, 3] [1, 4, 5] h h69 := zfr_wa f81 e70 rfl
                have f79 : zfr [0, 3] [1, 4, 5] h h76 := zfr_wf f80 e77 rfl
                have b82 : h1.2 0 6 = (h.2 0 6) := (zwr_r e2 (by omega))
                have b83 : 0 ≤ (h.2 0 6) ∧ (h.2 0 6) ≤ 18 := fM_6 s0
                exact zj_zret rfl (zdk ttX11_set 54 rfl rfl) (Nat.le_refl _) (Nat.le_refl _) (by omega) ⟨1, rfl, by omega, s78, f79, by unfold zst9 zstG; omega⟩
              · exact absurd c74 (by omega)
            · exact absurd c73 (by omega)
          · exact absurd c72 (by omega)
        · exact absurd c71 (by omega)
    · exact absurd c13 (by omega)

abbrev q2_X11_goesToNextOrder (h : zM) : Option zV → zM → Prop := zqi fun v h' => (0 ≤ v ∧ v ≤ 1) ∧ okM h' ∧ zfr [] [33] h h' ∧ (zinj (h.2 0 53) (h'.2 33)) ∧ (v = 1 → zord (h.2 33) < zord (h'.2 33)) ∧ ((v = 0 ∧ ∀ j, 0 ≤ j → j + 1 < h.2 0 53 → h.2 33 (j + 1) < h.2 33 j) ∨ (v = 1 ∧ znr (h.2 0 53) (h.2 33) (h'.2 33)))
set_option maxRecDepth 100000 in
set_option maxHeartbeats 4000000 in
theorem s2_X11_goesToNextOrder (l : Launch) (h : zM) (s0 : okM h) (u_0 : zinj (h.2 0 53) (h.2 33)) (u_1 : 1 ≤ h.2 0 53) : zT shM l yX11_goesToNextOrder cX11_goesToNextOrder 6 (some .boolean) (rmL 1) 0 0 [.inr 0] h (q2_X11_goesToNextOrder h) := by
  refine zT_of (by decide +kernel) (L0 := [some (.inr 0), none, none, none, none, none]) rfl (Nat.le_of_ble_eq_true rfl) ?_
  refine zj_aload_n (zdk ttX11_goesToNextOrder 0 rfl rfl) rfl (by decide) ?_
  have b1 : 0 ≤ (h.2 0 53) ∧ (h.2 0 53) ≤ 6 := fM_53 s0
  refine zj_geti (v := (h.2 0 53)) (zdk ttX11_goesToNextOrder 1 rfl rfl) zf_RX11_445 rfl (k_M s0) rfl ?_
  refine zj_iconst (zdk ttX11_goesToNextOrder 2 rfl rfl) ?_
  refine zj_isub (zdk ttX11_goesToNextOrder 3 rfl rfl) ?_
  refine zj_istore_n (L' := [some (.inr 0), some (.inl ((h.2 0 53) - 2)), none, none, none, none]) (zdk ttX11_goesToNextOrder 4 rfl rfl) (by decide) rfl ?_
  have lp7 : ∀ (n7 : Nat) (x2 : Int), (-1 ≤ x2 ∧ x2 ≤ 4) → (x2 ≤ h.2 0 53 - 2) → (∀ j, x2 + 1 ≤ j → j + 1 < h.2 0 53 → h.2 33 (j + 1) < h.2 33 j) → (x2 - -2).toNat < n7 → zJ shM l yX11_goesToNextOrder cX11_goesToNextOrder 6 (some .boolean) (rmL 1) 0 0 (q2_X11_goesToNextOrder h) 0 0 7 [some (.inr 0), some (.inl x2), none, none, none, none] [] h := by
    intro n7
    induction n7 with
    | zero => intro x2 b8 u9 u10 m11; exact absurd m11 (Nat.not_lt_zero _)
    | succ n7 ih12 =>
      intro x2 b8 u9 u10 m11
      refine zj_iload_n (zdk ttX11_goesToNextOrder 5 rfl rfl) rfl ?_
      refine zj_if_lt (t := 35) (zdk ttX11_goesToNextOrder 6 rfl rfl) (by decide) (by omega) (fun c13 => ?_) (fun c13 => ?_)
      · refine zj_iload_n (zdk ttX11_goesToNextOrder 23 rfl rfl) rfl ?_
        refine zj_if_ge (t := 41) (zdk ttX11_goesToNextOrder 24 rfl rfl) (by decide) (by omega) (fun c14 => ?_) (fun c14 => ?_)
        · exact absurd c14 (by omega)
        · refine zj_iconst (zdk ttX11_goesToNextOrder 25 rfl rfl) ?_
          exact zj_zret rfl (zdk ttX11_goesToNextOrder 26 rfl rfl) (Nat.le_refl _) (Nat.le_refl _) (by omega) ⟨0, rfl, by omega, s0, (zfr_r _ _ _), u_0, (fun q => absurd q (by decide)), (Or.inl ⟨rfl, fun j a b => u10 j (by omega) b⟩)⟩
      · refine zj_aload_n (zdk ttX11_goesToNextOrder 7 rfl rfl) rfl (by decide) ?_
        refine zj_getr (r := 33) (zdk ttX11_goesToNextOrder 8 rfl rfl) zf_RX11_111 rfl (k_M s0) (rfM_56 s0) ?_
        refine zj_iload_n (zdk ttX11_goesToNextOrder 9 rfl rfl) rfl ?_
        have b15 : 0 ≤ (h.2 33 x2) ∧ (h.2 33 x2) ≤ 5 := abM_33 s0 x2
        refine zj_iald (v := (h.2 33 x2)) (zdk ttX11_goesToNextOrder 10 rfl rfl) (kaM_33 s0) (by decide) (by omega) rfl ?_
        refine zj_aload_n (zdk ttX11_goesToNextOrder 11 rfl rfl) rfl (by decide) ?_
        refine zj_getr (r := 33) (zdk ttX11_goesToNextOrder 12 rfl rfl) zf_RX11_111 rfl (k_M s0) (rfM_56 s0) ?_
        refine zj_iload_n (zdk ttX11_goesToNextOrder 13 rfl rfl) rfl ?_
        refine zj_iconst (zdk ttX11_goesToNextOrder 14 rfl rfl) ?_
        refine zj_iadd (zdk ttX11_goesToNextOrder 15 rfl rfl) ?_
        have b16 : 0 ≤ (h.2 33 (x2 + 1)) ∧ (h.2 33 (x2 + 1)) ≤ 5 := abM_33 s0 (x2 + 1)
        refine zj_iald (v := (h.2 33 (x2 + 1))) (zdk ttX11_goesToNextOrder 16 rfl rfl) (kaM_33 s0) (by decide) (by omega) rfl ?_
        refine zj_icmp_le (t := 35) (zdk ttX11_goesToNextOrder 17 rfl rfl) (by decide) (by omega) (by omega) (fun c17 => ?_) (fun c17 => ?_)
        · refine zj_iload_n (zdk ttX11_goesToNextOrder 23 rfl rfl) rfl ?_
          refine zj_if_ge (t := 41) (zdk ttX11_goesToNextOrder 24 rfl rfl) (by decide) (by omega) (fun c18 => ?_) (fun c18 => ?_)
          · refine zj_aload_n (zdk ttX11_goesToNextOrder 27 rfl rfl) rfl (by decide) ?_
            refine zj_geti (v := (h.2 0 53)) (zdk ttX11_goesToNextOrder 28 rfl rfl) zf_RX11_445 rfl (k_M s0) rfl ?_
            refine zj_iconst (zdk ttX11_goesToNextOrder 29 rfl rfl) ?_
            refine zj_isub (zdk ttX11_goesToNextOrder 30 rfl rfl) ?_
            refine zj_istore_n (L' := [some (.inr 0), some (.inl x2), some (.inl ((h.2 0 53) - 1)), none, none, none]) (zdk ttX11_goesToNextOrder 31 rfl rfl) (by decide) rfl ?_
            have lp22 : ∀ (n48 : Nat) (x19 : Int), (0 ≤ x19 ∧ x19 ≤ 5) → (x2 + 1 ≤ x19 ∧ x19 < h.2 0 53) → (∀ j, x19 + 1 ≤ j → j < h.2 0 53 → h.2 33 j < h.2 33 x2) → (x19 + 1).toNat < n48 → zJ shM l yX11_goesToNextOrder cX11_goesToNextOrder 6 (some .boolean) (rmL 1) 0 0 (q2_X11_goesToNextOrder h) 0 0 48 [some (.inr 0), some (.inl x2), some (.inl x19), none, none, none] [] h := by
              intro n48
              induction n48 with
              | zero => intro x19 b23 u24 u25 m26; exact absurd m26 (Nat.not_lt_zero _)
              | succ n48 ih27 =>
                intro x19 b23 u24 u25 m26
                refine zj_aload_n (zdk ttX11_goesToNextOrder 32 rfl rfl) rfl (by decide) ?_
                refine zj_getr (r := 33) (zdk ttX11_goesToNextOrder 33 rfl rfl) zf_RX11_111 rfl (k_M s0) (rfM_56 s0) ?_
                refine zj_iload_n (zdk ttX11_goesToNextOrder 34 rfl rfl) rfl ?_
                have b28 : 0 ≤ (h.2 33 x19) ∧ (h.2 33 x19) ≤ 5 := abM_33 s0 x19
                refine zj_iald (v := (h.2 33 x19)) (zdk ttX11_goesToNextOrder 35 rfl rfl) (kaM_33 s0) (by decide) (by omega) rfl ?_
                refine zj_aload_n (zdk ttX11_goesToNextOrder 36 rfl rfl) rfl (by decide) ?_
                refine zj_getr (r := 33) (zdk ttX11_goesToNextOrder 37 rfl rfl) zf_RX11_111 rfl (k_M s0) (rfM_56 s0) ?_
                refine zj_iload_n (zdk ttX11_goesToNextOrder 38 rfl rfl) rfl ?_
                refine zj_iald (v := (h.2 33 x2)) (zdk ttX11_goesToNextOrder 39 rfl rfl) (kaM_33 s0) (by decide) (by omega) rfl ?_
                refine zj_icmp_ge (t := 70) (zdk ttX11_goesToNextOrder 40 rfl rfl) (by decide) (by omega) (by omega) (fun c29 => ?_) (fun c29 => ?_)
                · refine zj_aload_n (zdk ttX11_goesToNextOrder 46 rfl rfl) rfl (by decide) ?_
                  refine zj_getr (r := 33) (zdk ttX11_goesToNextOrder 47 rfl rfl) zf_RX11_111 rfl (k_M s0) (rfM_56 s0) ?_
                  refine zj_iload_n (zdk ttX11_goesToNextOrder 48 rfl rfl) rfl ?_
                  refine zj_iald (v := (h.2 33 x2)) (zdk ttX11_goesToNextOrder 49 rfl rfl) (kaM_33 s0) (by decide) (by omega) rfl ?_
                  refine zj_istore_n (L' := [some (.inr 0), some (.inl x2), some (.inl x19), some (.inl (h.2 33 x2)), none, none]) (zdk ttX11_goesToNextOrder 50 rfl rfl) (by decide) rfl ?_
                  refine zj_aload_n (zdk ttX11_goesToNextOrder 51 rfl rfl) rfl (by decide) ?_
                  refine zj_getr (r := 33) (zdk ttX11_goesToNextOrder 52 rfl rfl) zf_RX11_111 rfl (k_M s0) (rfM_56 s0) ?_
                  refine zj_iload_n (zdk ttX11_goesToNextOrder 53 rfl rfl) rfl ?_
                  refine zj_aload_n (zdk ttX11_goesToNextOrder 54 rfl rfl) rfl (by decide) ?_
                  refine zj_getr (r := 33) (zdk ttX11_goesToNextOrder 55 rfl rfl) zf_RX11_111 rfl (k_M s0) (rfM_56 s0) ?_
                  refine zj_iload_n (zdk ttX11_goesToNextOrder 56 rfl rfl) rfl ?_
                  refine zj_iald (v := (h.2 33 x19)) (zdk ttX11_goesToNextOrder 57 rfl rfl) (kaM_33 s0) (by decide) (by omega) rfl ?_
                  refine zj_iast (zdk ttX11_goesToNextOrder 58 rfl rfl) (kaM_33 s0) (by decide) (by omega) (fun h30 e31 => ?_)
                  refine zj_aload_n (zdk ttX11_goesToNextOrder 59 rfl rfl) rfl (by decide) ?_
                  have s32 : okM h30 := awM_33 s0 e31 (by omega) (by unfold nsp; omega)
                  refine zj_getr (r := 33) (zdk ttX11_goesToNextOrder 60 rfl rfl) zf_RX11_111 rfl (k_M s32) (rfM_56 s32) ?_
                  refine zj_iload_n (zdk ttX11_goesToNextOrder 61 rfl rfl) rfl ?_
                  refine zj_iload_n (zdk ttX11_goesToNextOrder 62 rfl rfl) rfl ?_
                  refine zj_iast (zdk ttX11_goesToNextOrder 63 rfl rfl) (kaM_33 s32) (by decide) (by omega) (fun h33 e34 => ?_)
                  refine zj_aload_n (zdk ttX11_goesToNextOrder 64 rfl rfl) rfl (by decide) ?_
                  have s35 : okM h33 := awM_33 s32 e34 (by omega) (by unfold nsp; omega)
                  refine zj_geti (v := (h.2 0 53)) (zdk ttX11_goesToNextOrder 65 rfl rfl) zf_RX11_445 rfl (k_M s35) ((zwr_r e34 (by omega)).trans (zwr_r e31 (by omega))) ?_
                  refine zj_iconst (zdk ttX11_goesToNextOrder 66 rfl rfl) ?_
                  refine zj_isub (zdk ttX11_goesToNextOrder 67 rfl rfl) ?_
                  refine zj_istore (L' := [some (.inr 0), some (.inl x2), some (.inl x19), some (.inl (h.2 33 x2)), some (.inl ((h.2 0 53) - 1)), none]) (zdk ttX11_goesToNextOrder 68 rfl rfl) (by decide) rfl ?_
                  refine zj_iload_n (zdk ttX11_goesToNextOrder 69 rfl rfl) rfl ?_
                  refine zj_iconst (zdk ttX11_goesToNextOrder 70 rfl rfl) ?_
                  refine zj_iadd (zdk ttX11_goesToNextOrder 71 rfl rfl) ?_
                  refine zj_istore (L' := [some (.inr 0), some (.inl x2), some (.inl x19), some (.inl (h.2 33 x2)), some (.inl ((h.2 0 53) - 1)), some (.inl (x2 + 1))]) (zdk ttX11_goesToNextOrder 72 rfl rfl) (by decide) rfl ?_
                  have lp50 : ∀ (n109 : Nat) (x36 x37 x38 : Int) (h39 : zM), (0 ≤ x36 ∧ x36 ≤ 5) → (-1 ≤ x37 ∧ x37 ≤ 5) → (0 ≤ x38 ∧ x38 ≤ 6) → okM h39 → zfr [] [33] h h39 → (zinj (h.2 0 53) (h39.2 33)) → (∀ j, 0 ≤ j → j < x2 → h39.2 33 j = h.2 33 j) → (h.2 33 x2 < h39.2 33 x2) → (x2 < x38 ∧ x37 < h.2 0 53 ∧ 0 ≤ x2) → (zrv (h.2 0 53) x2 x19 x38 (h.2 33) (h39.2 33)) → (x38 + x37 = h.2 0 53 + x2) → (x37 - -2).toNat < n109 → zJ shM l yX11_goesToNextOrder cX11_goesToNextOrder 6 (some .boolean) (rmL 1) 0 0 (q2_X11_goesToNextOrder h) 0 0 109 [some (.inr 0), some (.inl x2), some (.inl x19), some (.inl x36), some (.inl x37), some (.inl x38)] [] h39 := by
                    intro n109
                    induction n109 with
                    | zero => intro x36 x37 x38 h39 b51 b52 b53 s40 f41 u54 u55 u56 u57 u58 u59 m60; exact absurd m60 (Nat.not_lt_zero _)
                    | succ n109 ih61 =>
                      intro x36 x37 x38 h39 b51 b52 b53 s40 f41 u54 u55 u56 u57 u58 u59 m60
                      refine zj_iload (zdk ttX11_goesToNextOrder 73 rfl rfl) rfl ?_
                      refine zj_iload (zdk ttX11_goesToNextOrder 74 rfl rfl) rfl ?_
                      refine zj_icmp_ge (t := 158) (zdk ttX11_goesToNextOrder 75 rfl rfl) (by decide) (by omega) (by omega) (fun c62 => ?_) (fun c62 => ?_)
                      · refine zj_iconst (zdk ttX11_goesToNextOrder 100 rfl rfl) ?_
                        exact zj_zret rfl (zdk ttX11_goesToNextOrder 101 rfl rfl) (Nat.le_refl _) (Nat.le_refl _) (by omega) ⟨1, rfl, by omega, s40, f41, u54, (fun _ => zord_lt (i := x2) (fun j => abM_33 s0 j) (fun j => abM_33 s40 j) (by omega) u55 u56), (Or.inr ⟨rfl, x2, x19, by omega, by omega, by omega, (by have q0 := u_0 x2 (x2 + 1) (by omega) (by omega) (by omega) (by omega); omega), u10, (by have q0 := u_0 x2 x19 (by omega) (by omega) (by omega) (by omega); omega), fun j a b => u25 j (by omega) b, zrv_e (b := x37) u58 (by omega) (by omega)⟩)⟩
                      · refine zj_aload_n (zdk ttX11_goesToNextOrder 76 rfl rfl) rfl (by decide) ?_
                        refine zj_getr (r := 33) (zdk ttX11_goesToNextOrder 77 rfl rfl) zf_RX11_111 rfl (k_M s40) (rfM_56 s40) ?_
                        refine zj_iload (zdk ttX11_goesToNextOrder 78 rfl rfl) rfl ?_
                        have b63 : 0 ≤ (h39.2 33 x38) ∧ (h39.2 33 x38) ≤ 5 := abM_33 s40 x38
                        refine zj_iald (v := (h39.2 33 x38)) (zdk ttX11_goesToNextOrder 79 rfl rfl) (kaM_33 s40) (by decide) (by omega) rfl ?_
                        refine zj_istore_n (L' := [some (.inr 0), some (.inl x2), some (.inl x19), some (.inl (h39.2 33 x38)), some (.inl x37), some (.inl x38)]) (zdk ttX11_goesToNextOrder 80 rfl rfl) (by decide) rfl ?_
                        refine zj_aload_n (zdk ttX11_goesToNextOrder 81 rfl rfl) rfl (by decide) ?_
                        refine zj_getr (r := 33) (zdk ttX11_goesToNextOrder 82 rfl rfl) zf_RX11_111 rfl (k_M s40) (rfM_56 s40) ?_
                        refine zj_iload (zdk ttX11_goesToNextOrder 83 rfl rfl) rfl ?_
                        refine zj_aload_n (zdk ttX11_goesToNextOrder 84 rfl rfl) rfl (by decide) ?_
                        refine zj_getr (r := 33) (zdk ttX11_goesToNextOrder 85 rfl rfl) zf_RX11_111 rfl (k_M s40) (rfM_56 s40) ?_
                        refine zj_iload (zdk ttX11_goesToNextOrder 86 rfl rfl) rfl ?_
                        have b64 : 0 ≤ (h39.2 33 x37) ∧ (h39.2 33 x37) ≤ 5 := abM_33 s40 x37
                        refine zj_iald (v := (h39.2 33 x37)) (zdk ttX11_goesToNextOrder 87 rfl rfl) (kaM_33 s40) (by decide) (by omega) rfl ?_
                        refine zj_iast (zdk ttX11_goesToNextOrder 88 rfl rfl) (kaM_33 s40) (by decide) (by omega) (fun h65 e66 => ?_)
                        refine zj_aload_n (zdk ttX11_goesToNextOrder 89 rfl rfl) rfl (by decide) ?_
                        have s67 : okM h65 := awM_33 s40 e66 (by omega) (by unfold nsp; omega)
                        refine zj_getr (r := 33) (zdk ttX11_goesToNextOrder 90 rfl rfl) zf_RX11_111 rfl (k_M s67) (rfM_56 s67) ?_
                        refine zj_iload (zdk ttX11_goesToNextOrder 91 rfl rfl) rfl ?_
                        refine zj_iload_n (zdk ttX11_goesToNextOrder 92 rfl rfl) rfl ?_
                        refine zj_iast (zdk ttX11_goesToNextOrder 93 rfl rfl) (kaM_33 s67) (by decide) (by omega) (fun h68 e69 => ?_)
                        refine zj_iload (zdk ttX11_goesToNextOrder 94 rfl rfl) rfl ?_
                        refine zj_iconst (zdk ttX11_goesToNextOrder 95 rfl rfl) ?_
                        refine zj_isub (zdk ttX11_goesToNextOrder 96 rfl rfl) ?_
                        refine zj_istore (L' := [some (.inr 0), some (.inl x2), some (.inl x19), some (.inl (h39.2 33 x38)), some (.inl (x37 - 1)), some (.inl x38)]) (zdk ttX11_goesToNextOrder 97 rfl rfl) (by decide) rfl ?_
                        refine zj_iinc (L' := [some (.inr 0), some (.inl x2), some (.inl x19), some (.inl (h39.2 33 x38)), some (.inl (x37 - 1)), some (.inl (x38 + 1))]) (zdk ttX11_goesToNextOrder 98 rfl rfl) rfl (by decide) rfl ?_
                        refine zj_goto (t := 109) (zdk ttX11_goesToNextOrder 99 rfl rfl) (by decide) ?_
                        have s70 : okM h68 := awM_33 s67 e69 (by omega) (by unfold nsp; omega)
                        have f72 : zfr [] [33] h h65 := zfr_wa f41 e66 rfl
                        have f71 : zfr [] [33] h h68 := zfr_wa f72 e69 rfl
                        have z73 : zinj (h.2 0 53) (h68.2 33) := zinj_swap (i := x38) (k := x37) u54 e66 e69 (by omega) (by omega)
                        exact ih61  (h39.2 33 x38) (x37 - 1) (x38 + 1) h68 (by omega) (by omega) (by omega) s70 f71 z73 (fun j q1 q2 => by rw [zwr_r e69 (by omega), zwr_r e66 (by omega)]; exact u55 j q1 q2) (by rw [zwr_r e69 (by omega), zwr_r e66 (by omega)]; exact u56) (by omega) (zrv_s u58 (by omega) (by omega) e66 e69) (by omega) (by omega)
                  have f75 : zfr [] [33] h h30 := zfr_wa (zfr_r _ _ _) e31 rfl
                  have f74 : zfr [] [33] h h33 := zfr_wa f75 e34 rfl
                  have z76 : zinj (h.2 0 53) (h33.2 33) := zinj_swap (i := x2) (k := x19) u_0 e31 e34 (by omega) (by omega)
                  exact lp50 _ (h.2 33 x2) ((h.2 0 53) - 1) (x2 + 1) h33 (by omega) (by omega) (by omega) s35 f74 z76 (fun j q1 q2 => by rw [zwr_r e34 (by omega), zwr_r e31 (by omega)]) (by rw [zwr_r e34 (by omega), zwr_v e31]; have q0 := u_0 x2 x19 (by omega) (by omega) (by omega) (by omega); omega) (by omega) (zrv_0 e31 e34 (by omega)) (by omega) (Nat.lt_succ_self _)
                · refine zj_iload_n (zdk ttX11_goesToNextOrder 41 rfl rfl) rfl ?_
                  refine zj_iconst (zdk ttX11_goesToNextOrder 42 rfl rfl) ?_
                  refine zj_isub (zdk ttX11_goesToNextOrder 43 rfl rfl) ?_
                  refine zj_istore_n (L' := [some (.inr 0), some (.inl x2), some (.inl (x19 - 1)), none, none, none]) (zdk ttX11_goesToNextOrder 44 rfl rfl) (by decide) rfl ?_
                  refine zj_goto (t := 48) (zdk ttX11_goesToNextOrder 45 rfl rfl) (by decide) ?_
                  have b77 : x19 = x2 + 1 → h.2 33 x19 = h.2 33 (x2 + 1) := fun q => by rw [q]
                  exact ih27  (x19 - 1) (by omega) (by omega) (fun j a b => (Classical.em (j = x19)).elim (fun q => by rw [q]; omega) (fun q => u25 j (by omega) b)) (by omega)
            exact lp22 _ ((h.2 0 53) - 1) (by omega) (by omega) (fun j a b => absurd b (by omega)) (Nat.lt_succ_self _)
          · exact absurd c18 (by omega)
        · refine zj_iload_n (zdk ttX11_goesToNextOrder 18 rfl rfl) rfl ?_
          refine zj_iconst (zdk ttX11_goesToNextOrder 19 rfl rfl) ?_
          refine zj_isub (zdk ttX11_goesToNextOrder 20 rfl rfl) ?_
          refine zj_istore_n (L' := [some (.inr 0), some (.inl (x2 - 1)), none, none, none, none]) (zdk ttX11_goesToNextOrder 21 rfl rfl) (by decide) rfl ?_
          refine zj_goto (t := 7) (zdk ttX11_goesToNextOrder 22 rfl rfl) (by decide) ?_
          exact ih12  (x2 - 1) (by omega) (by omega) (fun j a b => (Classical.em (j = x2)).elim (fun q => by rw [q]; omega) (fun q => u10 j (by omega) b)) (by omega)
  exact lp7 _ ((h.2 0 53) - 2) (by omega) (by omega) (fun j a b => absurd b (by omega)) (Nat.lt_succ_self _)

abbrev q2_X11_hung (h : zM) (p1 : Int) : Option zV → zM → Prop := zqi fun v h' => ((-2147483648) ≤ v ∧ v ≤ 2147483647) ∧ okM h' ∧ zfr [0] [33] h h' ∧ (zhD (zhX (h.2 32) (h.2 31) (h.2 0 53)) p1 v)
set_option maxRecDepth 100000 in
set_option maxHeartbeats 4000000 in
theorem s2_X11_hung (l : Launch) (h : zM) (p1 : Int) (s0 : okM h) (b_p1 : (-2147483648) ≤ p1 ∧ p1 ≤ 2147483647) (u_0 : ∀ k, 0 ≤ k → k < 6 → (0 ≤ h.2 32 k ∧ h.2 32 k ≤ 20) ∧ (-9 ≤ h.2 31 k ∧ h.2 31 k ≤ 9)) : zT shM l yX11_hung cX11_hung 8 (some .int) (rmL 2) 0 0 [.inr 0, .inl p1] h (q2_X11_hung h p1) := by
  refine zT_of (by decide +kernel) (L0 := [some (.inr 0), some (.inl p1), none, none, none, none, none, none]) rfl (Nat.le_of_ble_eq_true rfl) ?_
  refine zj_aload_n (zdk ttX11_hung 0 rfl rfl) rfl (by decide) ?_
  refine zj_iconst (zdk ttX11_hung 1 rfl rfl) ?_
  refine zj_puti (zdk ttX11_hung 2 rfl rfl) zf_RX11_120 rfl (k_M s0) (Or.inl zw_RX11_120) (k2 := 0) rfl (fun h1 e2 => ?_)
  refine zj_aload_n (zdk ttX11_hung 3 rfl rfl) rfl (by decide) ?_
  refine zj_iload_n (zdk ttX11_hung 4 rfl rfl) rfl ?_
  refine zj_iconst (zdk ttX11_hung 5 rfl rfl) ?_
  refine zj_iconst (zdk ttX11_hung 6 rfl rfl) ?_
  have s3 : okM h1 := fwM_0 s0 e2 (by omega)
  refine zj_callV (av := [.inl p1, .inl 0, .inl 1]) (st := []) (zdk ttX11_hung 7 rfl rfl) mb_X11_isIn mv_RX11_139 (ci := 11) rfl rfl (k_M s3) rfl rfl (Nat.le_of_ble_eq_true rfl) (s_X11_isIn l h1 p1 0 1 s3 (by omega) (by omega) (by omega)) (rm_ok (by decide) (by decide)) (zq_i fun v5 h6 q4 => ?_)
  obtain ⟨rfl, ⟨rfl, b7⟩ | ⟨rfl, b7⟩⟩ := q4
  · refine zj_if_ne (t := 17) (zdk ttX11_hung 8 rfl rfl) (by decide) (by decide) (fun c8 => ?_) (fun c8 => ?_)
    · exact absurd c8 (by omega)
    · refine zj_iconst (zdk ttX11_hung 9 rfl rfl) ?_
      have f9 : zfr [0] [33] h h1 := zfr_wf (zfr_r _ _ _) e2 rfl
      exact zj_iret rfl (zdk ttX11_hung 10 rfl rfl) (Nat.le_refl _) (Nat.le_refl _) ⟨(-1), rfl, by omega, s3, f9, ⟨fun z => absurd z (by omega), fun z => absurd z (by omega), fun _ => rfl⟩⟩
  · refine zj_if_ne (t := 17) (zdk ttX11_hung 8 rfl rfl) (by decide) (by decide) (fun c10 => ?_) (fun c10 => ?_)
    · refine zj_aload_n (zdk ttX11_hung 11 rfl rfl) rfl (by decide) ?_
      have b11 : 0 ≤ (h.2 0 53) ∧ (h.2 0 53) ≤ 6 := fM_53 s0
      refine zj_geti (v := (h.2 0 53)) (zdk ttX11_hung 12 rfl rfl) zf_RX11_445 rfl (k_M s3) (zwr_r e2 (by omega)) ?_
      refine zj_if_ne (t := 26) (zdk ttX11_hung 13 rfl rfl) (by decide) (by omega) (fun c12 => ?_) (fun c12 => ?_)
      · refine zj_iconst (zdk ttX11_hung 16 rfl rfl) ?_
        refine zj_istore_n (L' := [some (.inr 0), some (.inl p1), some (.inl 0), none, none, none, none, none]) (zdk ttX11_hung 17 rfl rfl) (by decide) rfl ?_
        have lp32 : ∀ (n28 : Nat) (x13 : Int) (h14 : zM), (0 ≤ x13 ∧ x13 ≤ 6) → okM h14 → zfr [0] [33] h h14 → (∀ j, 0 ≤ j → j < x13 → h14.2 33 j = j) → (7 - x13).toNat < n28 → zJ shM l yX11_hung cX11_hung 8 (some .int) (rmL 2) 0 0 (q2_X11_hung h p1) 0 0 28 [some (.inr 0), some (.inl p1), some (.inl x13), none, none, none, none, none] [] h14 := by
          intro n28
          induction n28 with
          | zero => intro x13 h14 b33 s15 f16 u34 m35; exact absurd m35 (Nat.not_lt_zero _)
          | succ n28 ih36 =>
            intro x13 h14 b33 s15 f16 u34 m35
            refine zj_iload_n (zdk ttX11_hung 18 rfl rfl) rfl ?_
            refine zj_aload_n (zdk ttX11_hung 19 rfl rfl) rfl (by decide) ?_
            refine zj_geti (v := (h.2 0 53)) (zdk ttX11_hung 20 rfl rfl) zf_RX11_445 rfl (k_M s15) (zfr_f f16 rfl rfl) ?_
            refine zj_icmp_ge (t := 49) (zdk ttX11_hung 21 rfl rfl) (by decide) (by omega) (by omega) (fun c37 => ?_) (fun c37 => ?_)
            · refine zj_ldc_w (z := 100000000) (zdk ttX11_hung 29 rfl rfl) wc_RX11_411 ?_
              refine zj_istore_n (L' := [some (.inr 0), some (.inl p1), some (.inl 100000000), none, none, none, none, none]) (zdk ttX11_hung 30 rfl rfl) (by decide) rfl ?_
              refine zj_iconst (zdk ttX11_hung 31 rfl rfl) ?_
              refine zj_istore_n (L' := [some (.inr 0), some (.inl p1), some (.inl 100000000), some (.inl 0), none, none, none, none]) (zdk ttX11_hung 32 rfl rfl) (by decide) rfl ?_
              refine zj_iconst (zdk ttX11_hung 33 rfl rfl) ?_
              refine zj_istore (L' := [some (.inr 0), some (.inl p1), some (.inl 100000000), some (.inl 0), some (.inl 1), none, none, none]) (zdk ttX11_hung 34 rfl rfl) (by decide) rfl ?_
              have lp117 : ∀ (n58 : Nat) (x38 x39 x40 : Int) (h41 : zM), (0 ≤ x38 ∧ x38 ≤ 100000000) → (0 ≤ x39 ∧ x39 ≤ 999999) → (0 ≤ x40 ∧ x40 ≤ 1) → okM h41 → zfr [0] [33] h h41 → (zinj (h.2 0 53) (h41.2 33)) → (zhI (h.2 32) (h.2 31) (h.2 0 53) (h41.2 33) x38 x39 x40) → (x40 * 50000 + 46656 - zord (h41.2 33)).toNat < n58 → zJ shM l yX11_hung cX11_hung 8 (some .int) (rmL 2) 0 0 (q2_X11_hung h p1) 0 0 58 [some (.inr 0), some (.inl p1), some (.inl x38), some (.inl x39), some (.inl x40), none, none, none] [] h41 := by
                intro n58
                induction n58 with
                | zero => intro x38 x39 x40 h41 b118 b119 b120 s42 f43 u121 u122 m123; exact absurd m123 (Nat.not_lt_zero _)
                | succ n58 ih124 =>
                  intro x38 x39 x40 h41 b118 b119 b120 s42 f43 u121 u122 m123
                  refine zj_iload (zdk ttX11_hung 35 rfl rfl) rfl ?_
                  refine zj_if_eq (t := 161) (zdk ttX11_hung 36 rfl rfl) (by decide) (by omega) (fun c125 => ?_) (fun c125 => ?_)
                  · refine zj_iload_n (zdk ttX11_hung 91 rfl rfl) rfl ?_
                    refine zj_if_ne (t := 169) (zdk ttX11_hung 92 rfl rfl) (by decide) (by omega) (fun c126 => ?_) (fun c126 => ?_)
                    · refine zj_iload_n (zdk ttX11_hung 95 rfl rfl) rfl ?_
                      exact zj_iret rfl (zdk ttX11_hung 96 rfl rfl) (Nat.le_refl _) (Nat.le_refl _) ⟨x39, rfl, by omega, s42, f43, (by have z9 := zhI_e (by omega) (show zhI (h.2 32) (h.2 31) (h.2 0 53) _ _ _ 0 by have y9 := u122; rw [show x40 = 0 by omega] at y9; exact y9); exact ⟨fun z => by omega, fun z => by omega, fun z => absurd (by omega) z⟩)⟩
                    · refine zj_iload_n (zdk ttX11_hung 93 rfl rfl) rfl ?_
                      refine zj_goto (t := 170) (zdk ttX11_hung 94 rfl rfl) (by decide) ?_
                      exact zj_iret rfl (zdk ttX11_hung 96 rfl rfl) (Nat.le_refl _) (Nat.le_refl _) ⟨x38, rfl, by omega, s42, f43, (by have z9 := zhI_e (by omega) (show zhI (h.2 32) (h.2 31) (h.2 0 53) _ _ _ 0 by have y9 := u122; rw [show x40 = 0 by omega] at y9; exact y9); exact ⟨fun z => by omega, fun z => by omega, fun z => absurd (by omega) z⟩)⟩
                  · refine zj_iconst (zdk ttX11_hung 37 rfl rfl) ?_
                    refine zj_istore (L' := [some (.inr 0), some (.inl p1), some (.inl x38), some (.inl x39), some (.inl x40), some (.inl 0), none, none]) (zdk ttX11_hung 38 rfl rfl) (by decide) rfl ?_
                    refine zj_iconst (zdk ttX11_hung 39 rfl rfl) ?_
                    refine zj_istore (L' := [some (.inr 0), some (.inl p1), some (.inl x38), some (.inl x39), some (.inl x40), some (.inl 0), some (.inl 0), none]) (zdk ttX11_hung 40 rfl rfl) (by decide) rfl ?_
                    refine zj_iconst (zdk ttX11_hung 41 rfl rfl) ?_
                    refine zj_istore (L' := [some (.inr 0), some (.inl p1), some (.inl x38), some (.inl x39), some (.inl x40), some (.inl 0), some (.inl 0), some (.inl 0)]) (zdk ttX11_hung 42 rfl rfl) (by decide) rfl ?_
                    have lp135 : ∀ (n72 : Nat) (x127 x128 x129 : Int), (-1080 ≤ x127 ∧ x127 ≤ 1080) → (0 ≤ x128 ∧ x128 ≤ 999999) → (0 ≤ x129 ∧ x129 ≤ 6) → (zvp (h.2 32) (h.2 31) (h41.2 33) ((h.2 0 53) - x129).toNat x129 x127 x128 = zvp (h.2 32) (h.2 31) (h41.2 33) (h.2 0 53).toNat 0 0 0) → (zdp (h41.2 33) ((h.2 0 53) - x129).toNat x129 x128 = zdp (h41.2 33) (h.2 0 53).toNat 0 0) → (-180 * x129 ≤ x127 ∧ x127 ≤ 180 * x129) → (zr10 x129 x128) → (x129 ≤ h.2 0 53) → (7 - x129).toNat < n72 → zJ shM l yX11_hung cX11_hung 8 (some .int) (rmL 2) 0 0 (q2_X11_hung h p1) 0 0 72 [some (.inr 0), some (.inl p1), some (.inl x38), some (.inl x39), some (.inl x40), some (.inl x127), some (.inl x128), some (.inl x129)] [] h41 := by
                      intro n72
                      induction n72 with
                      | zero => intro x127 x128 x129 b136 b137 b138 u139 u140 u141 u142 u143 m144; exact absurd m144 (Nat.not_lt_zero _)
                      | succ n72 ih145 =>
                        intro x127 x128 x129 b136 b137 b138 u139 u140 u141 u142 u143 m144
                        refine zj_iload (zdk ttX11_hung 43 rfl rfl) rfl ?_
                        refine zj_aload_n (zdk ttX11_hung 44 rfl rfl) rfl (by decide) ?_
                        refine zj_geti (v := (h.2 0 53)) (zdk ttX11_hung 45 rfl rfl) zf_RX11_445 rfl (k_M s42) (zfr_f f43 rfl rfl) ?_
                        refine zj_icmp_ge (t := 127) (zdk ttX11_hung 46 rfl rfl) (by decide) (by omega) (by omega) (fun c146 => ?_) (fun c146 => ?_)
                        · have r9 := zr10_b u142
                          have zw9 : zwp (-x127) = -x127 := zwp_id (by omega)
                          refine zj_aload_n (zdk ttX11_hung 73 rfl rfl) rfl (by decide) ?_
                          refine zj_iload (zdk ttX11_hung 74 rfl rfl) rfl ?_
                          refine zj_callV (av := [.inl x127]) (st := []) (zdk ttX11_hung 75 rfl rfl) mb_X11_plain mv_RX11_368 (ci := 11) rfl rfl (k_M s42) rfl rfl (Nat.le_of_ble_eq_true rfl) (s_X11_plain l h41 x127 s42 (by omega)) (rm_ok (by decide) (by decide)) (zq_i fun v148 h149 q147 => ?_)
                          obtain ⟨rfl, b150⟩ := q147
                          have b151 : -2147483648 ≤ v148 ∧ v148 ≤ 2147483647 := by omega
                          refine zj_iload_n (zdk ttX11_hung 76 rfl rfl) rfl ?_
                          refine zj_icmp_ge (t := 140) (zdk ttX11_hung 77 rfl rfl) (by decide) (by omega) (by omega) (fun c152 => ?_) (fun c152 => ?_)
                          · refine zj_aload_n (zdk ttX11_hung 80 rfl rfl) rfl (by decide) ?_
                            refine zj_iload_n (zdk ttX11_hung 81 rfl rfl) rfl ?_
                            refine zj_aload_n (zdk ttX11_hung 82 rfl rfl) rfl (by decide) ?_
                            refine zj_iload (zdk ttX11_hung 83 rfl rfl) rfl ?_
                            refine zj_callV (av := [.inl x127]) (st := [.inl x38, .inr 0]) (zdk ttX11_hung 84 rfl rfl) mb_X11_plain mv_RX11_368 (ci := 11) rfl rfl (k_M s42) rfl rfl (Nat.le_of_ble_eq_true rfl) (s_X11_plain l h41 x127 s42 (by omega)) (rm_ok (by decide) (by decide)) (zq_i fun v154 h155 q153 => ?_)
                            obtain ⟨rfl, b156⟩ := q153
                            have b157 : -2147483648 ≤ v154 ∧ v154 ≤ 2147483647 := by omega
                            refine zj_callV (av := [.inl x38, .inl v154]) (st := []) (zdk ttX11_hung 85 rfl rfl) mb_X11_lesser mv_RX11_371 (ci := 11) rfl rfl (k_M s42) rfl rfl (Nat.le_of_ble_eq_true rfl) (s_X11_lesser l h41 x38 v154 s42 (by omega) (by omega)) (rm_ok (by decide) (by decide)) (zq_i fun v159 h160 q158 => ?_)
                            obtain ⟨rfl, b161⟩ := q158
                            have b162 : -2147483648 ≤ v159 ∧ v159 ≤ 100000000 := by omega
                            refine zj_istore_n (L' := [some (.inr 0), some (.inl p1), some (.inl v159), some (.inl x39), some (.inl x40), some (.inl x127), some (.inl x128), some (.inl x129)]) (zdk ttX11_hung 86 rfl rfl) (by decide) rfl ?_
                            refine zj_aload_n (zdk ttX11_hung 87 rfl rfl) rfl (by decide) ?_
                            have b163 : h41.2 0 53 = (h.2 0 53) := (zfr_f f43 rfl rfl)
                            refine zj_callV (av := []) (st := []) (zdk ttX11_hung 88 rfl rfl) mb_X11_goesToNextOrder mv_RX11_448 (ci := 11) rfl rfl (k_M s42) rfl rfl (Nat.le_of_ble_eq_true rfl) (s2_X11_goesToNextOrder l h41 s42 (by rw [show h41.2 0 53 = h.2 0 53 from (zfr_f f43 rfl rfl)]; exact u121) (by omega)) (rm_ok (by decide) (by decide)) (zq_i fun v165 h166 q164 => ?_)
                            obtain ⟨b167, s168, f172, u169, u170, u171⟩ := q164
                            have b173 := zord_b (fun j => abM_33 s168 j)
                            have b173o := zord_b (fun j => abM_33 s42 j)
                            rw [show h41.2 0 53 = h.2 0 53 from (zfr_f f43 rfl rfl)] at u169
                            refine zj_istore (L' := [some (.inr 0), some (.inl p1), some (.inl v159), some (.inl x39), some (.inl v165), some (.inl x127), some (.inl x128), some (.inl x129)]) (zdk ttX11_hung 89 rfl rfl) (by decide) rfl ?_
                            refine zj_goto (t := 58) (zdk ttX11_hung 90 rfl rfl) (by decide) ?_
                            refine zj_kill (k := 5) (L' := [some (.inr 0), some (.inl p1), some (.inl v159), some (.inl x39), some (.inl v165), none, some (.inl x128), some (.inl x129)]) rfl ?_
                            refine zj_kill (k := 6) (L' := [some (.inr 0), some (.inl p1), some (.inl v159), some (.inl x39), some (.inl v165), none, none, some (.inl x129)]) rfl ?_
                            refine zj_kill (k := 7) (L' := [some (.inr 0), some (.inl p1), some (.inl v159), some (.inl x39), some (.inl v165), none, none, none]) rfl ?_
                            have f174 : zfr [0] [33] h h166 := zfr_t f43 f172 rfl rfl
                            exact ih124  v159 x39 v165 h166 (by omega) (by omega) (by omega) s168 f174 u169 (zhI_s (s := (x127.natAbs : Int)) (d := x128) (by omega) (by have z9 := u122; rw [show x40 = 1 by omega] at z9; exact z9) (by omega) (by omega) (u139.symm.trans (zvp_e (by omega))) (u140.symm.trans (zdp_e (by omega))) (by omega) (by have y9 := u171; rw [show h41.2 0 53 = h.2 0 53 by omega] at y9; exact y9)) (by omega)
                          · refine zj_iload (zdk ttX11_hung 78 rfl rfl) rfl ?_
                            refine zj_istore_n (L' := [some (.inr 0), some (.inl p1), some (.inl x38), some (.inl x128), some (.inl x40), some (.inl x127), some (.inl x128), some (.inl x129)]) (zdk ttX11_hung 79 rfl rfl) (by decide) rfl ?_
                            refine zj_aload_n (zdk ttX11_hung 80 rfl rfl) rfl (by decide) ?_
                            refine zj_iload_n (zdk ttX11_hung 81 rfl rfl) rfl ?_
                            refine zj_aload_n (zdk ttX11_hung 82 rfl rfl) rfl (by decide) ?_
                            refine zj_iload (zdk ttX11_hung 83 rfl rfl) rfl ?_
                            refine zj_callV (av := [.inl x127]) (st := [.inl x38, .inr 0]) (zdk ttX11_hung 84 rfl rfl) mb_X11_plain mv_RX11_368 (ci := 11) rfl rfl (k_M s42) rfl rfl (Nat.le_of_ble_eq_true rfl) (s_X11_plain l h41 x127 s42 (by omega)) (rm_ok (by decide) (by decide)) (zq_i fun v176 h177 q175 => ?_)
                            obtain ⟨rfl, b178⟩ := q175
                            have b179 : -2147483648 ≤ v176 ∧ v176 ≤ 2147483647 := by omega
                            refine zj_callV (av := [.inl x38, .inl v176]) (st := []) (zdk ttX11_hung 85 rfl rfl) mb_X11_lesser mv_RX11_371 (ci := 11) rfl rfl (k_M s42) rfl rfl (Nat.le_of_ble_eq_true rfl) (s_X11_lesser l h41 x38 v176 s42 (by omega) (by omega)) (rm_ok (by decide) (by decide)) (zq_i fun v181 h182 q180 => ?_)
                            obtain ⟨rfl, b183⟩ := q180
                            have b184 : -2147483648 ≤ v181 ∧ v181 ≤ 100000000 := by omega
                            refine zj_istore_n (L' := [some (.inr 0), some (.inl p1), some (.inl v181), some (.inl x128), some (.inl x40), some (.inl x127), some (.inl x128), some (.inl x129)]) (zdk ttX11_hung 86 rfl rfl) (by decide) rfl ?_
                            refine zj_aload_n (zdk ttX11_hung 87 rfl rfl) rfl (by decide) ?_
                            have b185 : h41.2 0 53 = (h.2 0 53) := (zfr_f f43 rfl rfl)
                            refine zj_callV (av := []) (st := []) (zdk ttX11_hung 88 rfl rfl) mb_X11_goesToNextOrder mv_RX11_448 (ci := 11) rfl rfl (k_M s42) rfl rfl (Nat.le_of_ble_eq_true rfl) (s2_X11_goesToNextOrder l h41 s42 (by rw [show h41.2 0 53 = h.2 0 53 from (zfr_f f43 rfl rfl)]; exact u121) (by omega)) (rm_ok (by decide) (by decide)) (zq_i fun v187 h188 q186 => ?_)
                            obtain ⟨b189, s190, f194, u191, u192, u193⟩ := q186
                            have b195 := zord_b (fun j => abM_33 s190 j)
                            have b195o := zord_b (fun j => abM_33 s42 j)
                            rw [show h41.2 0 53 = h.2 0 53 from (zfr_f f43 rfl rfl)] at u191
                            refine zj_istore (L' := [some (.inr 0), some (.inl p1), some (.inl v181), some (.inl x128), some (.inl v187), some (.inl x127), some (.inl x128), some (.inl x129)]) (zdk ttX11_hung 89 rfl rfl) (by decide) rfl ?_
                            refine zj_goto (t := 58) (zdk ttX11_hung 90 rfl rfl) (by decide) ?_
                            refine zj_kill (k := 5) (L' := [some (.inr 0), some (.inl p1), some (.inl v181), some (.inl x128), some (.inl v187), none, some (.inl x128), some (.inl x129)]) rfl ?_
                            refine zj_kill (k := 6) (L' := [some (.inr 0), some (.inl p1), some (.inl v181), some (.inl x128), some (.inl v187), none, none, some (.inl x129)]) rfl ?_
                            refine zj_kill (k := 7) (L' := [some (.inr 0), some (.inl p1), some (.inl v181), some (.inl x128), some (.inl v187), none, none, none]) rfl ?_
                            have f196 : zfr [0] [33] h h188 := zfr_t f43 f194 rfl rfl
                            exact ih124  v181 x128 v187 h188 (by omega) (by omega) (by omega) s190 f196 u191 (zhI_s (s := (x127.natAbs : Int)) (d := x128) (by omega) (by have z9 := u122; rw [show x40 = 1 by omega] at z9; exact z9) (by omega) (by omega) (u139.symm.trans (zvp_e (by omega))) (u140.symm.trans (zdp_e (by omega))) (by omega) (by have y9 := u193; rw [show h41.2 0 53 = h.2 0 53 by omega] at y9; exact y9)) (by omega)
                        · have r9 := zr10_b u142
                          have a9 : -900 ≤ x127 ∧ x127 ≤ 900 := by omega
                          have c9 : 0 ≤ x128 ∧ x128 ≤ 99999 := by omega
                          have o9 := abM_33 s42 x129
                          have t8 := (u_0 x129 (by omega) (by omega)).1
                          have t9 := (u_0 (h41.2 33 x129) (by omega) (by omega)).2
                          refine zj_iload (zdk ttX11_hung 47 rfl rfl) rfl ?_
                          refine zj_aload_n (zdk ttX11_hung 48 rfl rfl) rfl (by decide) ?_
                          refine zj_getr (r := 32) (zdk ttX11_hung 49 rfl rfl) zf_RX11_108 rfl (k_M s42) (rfM_55 s42) ?_
                          refine zj_iload (zdk ttX11_hung 50 rfl rfl) rfl ?_
                          have b197 : -2147483648 ≤ (h.2 32 x129) ∧ (h.2 32 x129) ≤ 2147483647 := abM_32 s0 x129
                          refine zj_iald (v := (h.2 32 x129)) (zdk ttX11_hung 51 rfl rfl) (kaM_32 s42) (by decide) (by omega) (zfr_a f43 rfl (by decide)) ?_
                          refine zj_aload_n (zdk ttX11_hung 52 rfl rfl) rfl (by decide) ?_
                          refine zj_getr (r := 31) (zdk ttX11_hung 53 rfl rfl) zf_RX11_105 rfl (k_M s42) (rfM_54 s42) ?_
                          refine zj_aload_n (zdk ttX11_hung 54 rfl rfl) rfl (by decide) ?_
                          refine zj_getr (r := 33) (zdk ttX11_hung 55 rfl rfl) zf_RX11_111 rfl (k_M s42) (rfM_56 s42) ?_
                          refine zj_iload (zdk ttX11_hung 56 rfl rfl) rfl ?_
                          have b198 : 0 ≤ (h41.2 33 x129) ∧ (h41.2 33 x129) ≤ 5 := abM_33 s42 x129
                          refine zj_iald (v := (h41.2 33 x129)) (zdk ttX11_hung 57 rfl rfl) (kaM_33 s42) (by decide) (by omega) rfl ?_
                          have b199 : -2147483648 ≤ (h.2 31 (h41.2 33 x129)) ∧ (h.2 31 (h41.2 33 x129)) ≤ 2147483647 := abM_31 s0 (h41.2 33 x129)
                          refine zj_iald (v := (h.2 31 (h41.2 33 x129))) (zdk ttX11_hung 58 rfl rfl) (kaM_31 s42) (by decide) (by omega) (zfr_a f43 rfl (by decide)) ?_
                          refine zj_imul (zdk ttX11_hung 59 rfl rfl) ?_
                          have b200 : -180 ≤ ((h.2 32 x129) * (h.2 31 (h41.2 33 x129))) ∧ ((h.2 32 x129) * (h.2 31 (h41.2 33 x129))) ≤ 180 := zmul_b (a := 0) (b := 20) (c := -9) (d := 9) (by omega) (by omega) (by decide)
                          refine zj_iadd (zdk ttX11_hung 60 rfl rfl) ?_
                          refine zj_istore (L' := [some (.inr 0), some (.inl p1), some (.inl x38), some (.inl x39), some (.inl x40), some (.inl (x127 + ((h.2 32 x129) * (h.2 31 (h41.2 33 x129))))), some (.inl x128), some (.inl x129)]) (zdk ttX11_hung 61 rfl rfl) (by decide) rfl ?_
                          refine zj_bipush (zdk ttX11_hung 62 rfl rfl) (by decide) ?_
                          refine zj_iload (zdk ttX11_hung 63 rfl rfl) rfl ?_
                          refine zj_imul (zdk ttX11_hung 64 rfl rfl) ?_
                          refine zj_aload_n (zdk ttX11_hung 65 rfl rfl) rfl (by decide) ?_
                          refine zj_getr (r := 33) (zdk ttX11_hung 66 rfl rfl) zf_RX11_111 rfl (k_M s42) (rfM_56 s42) ?_
                          refine zj_iload (zdk ttX11_hung 67 rfl rfl) rfl ?_
                          refine zj_iald (v := (h41.2 33 x129)) (zdk ttX11_hung 68 rfl rfl) (kaM_33 s42) (by decide) (by omega) rfl ?_
                          refine zj_iadd (zdk ttX11_hung 69 rfl rfl) ?_
                          refine zj_istore (L' := [some (.inr 0), some (.inl p1), some (.inl x38), some (.inl x39), some (.inl x40), some (.inl (x127 + ((h.2 32 x129) * (h.2 31 (h41.2 33 x129))))), some (.inl ((10 * x128) + (h41.2 33 x129))), some (.inl x129)]) (zdk ttX11_hung 70 rfl rfl) (by decide) rfl ?_
                          refine zj_iinc (L' := [some (.inr 0), some (.inl p1), some (.inl x38), some (.inl x39), some (.inl x40), some (.inl (x127 + ((h.2 32 x129) * (h.2 31 (h41.2 33 x129))))), some (.inl ((10 * x128) + (h41.2 33 x129))), some (.inl (x129 + 1))]) (zdk ttX11_hung 71 rfl rfl) rfl (by decide) rfl ?_
                          refine zj_goto (t := 72) (zdk ttX11_hung 72 rfl rfl) (by decide) ?_
                          exact ih145  (x127 + ((h.2 32 x129) * (h.2 31 (h41.2 33 x129)))) ((10 * x128) + (h41.2 33 x129)) (x129 + 1) (by omega) (by omega) (by omega) (by rw [show 10 * x128 = x128 * 10 from Int.mul_comm _ _]; exact (zvp_s (by omega)).symm.trans u139) (by rw [show 10 * x128 = x128 * 10 from Int.mul_comm _ _]; exact (zdp_s (by omega)).symm.trans u140) (by omega) (by rw [show 10 * x128 = x128 * 10 from Int.mul_comm _ _]; exact zr10_s u142 (by omega) (by omega)) (by omega) (by omega)
                    exact lp135 _ 0 0 0 (by omega) (by omega) (by omega) (by rw [Int.sub_zero]) (by rw [Int.sub_zero]) (by omega) zr10_0 (by omega) (Nat.lt_succ_self _)
              exact lp117 _ 100000000 0 1 h14 (by omega) (by omega) (by omega) s15 f16 (fun a b a1 a2 b1 b2 q => by rw [u34 a a1 (by omega), u34 b b1 (by omega)] at q; exact q) (zhI_0 (by omega) (fun j a b => u34 j a (by omega))) (Nat.lt_succ_self _)
            · refine zj_aload_n (zdk ttX11_hung 22 rfl rfl) rfl (by decide) ?_
              refine zj_getr (r := 33) (zdk ttX11_hung 23 rfl rfl) zf_RX11_111 rfl (k_M s15) (rfM_56 s15) ?_
              refine zj_iload_n (zdk ttX11_hung 24 rfl rfl) rfl ?_
              refine zj_iload_n (zdk ttX11_hung 25 rfl rfl) rfl ?_
              refine zj_iast (zdk ttX11_hung 26 rfl rfl) (kaM_33 s15) (by decide) (by omega) (fun h201 e202 => ?_)
              refine zj_iinc (L' := [some (.inr 0), some (.inl p1), some (.inl (x13 + 1)), none, none, none, none, none]) (zdk ttX11_hung 27 rfl rfl) rfl (by decide) rfl ?_
              refine zj_goto (t := 28) (zdk ttX11_hung 28 rfl rfl) (by decide) ?_
              have s203 : okM h201 := awM_33 s15 e202 (by omega) (by unfold nsp; omega)
              have f204 : zfr [0] [33] h h201 := zfr_wa f16 e202 rfl
              exact ih36  (x13 + 1) h201 (by omega) s203 f204 (fun j q1 q2 => (Classical.em (j = x13)).elim (fun q => by rw [q, zwr_v e202]) (fun q => by rw [zwr_r e202 (by omega)]; exact u34 j q1 (by omega))) (by omega)
        have f205 : zfr [0] [33] h h1 := zfr_wf (zfr_r _ _ _) e2 rfl
        exact lp32 _ 0 h1 (by omega) s3 f205 (fun j q1 q2 => absurd q1 (by omega)) (Nat.lt_succ_self _)
      · refine zj_iconst (zdk ttX11_hung 14 rfl rfl) ?_
        have f206 : zfr [0] [33] h h1 := zfr_wf (zfr_r _ _ _) e2 rfl
        exact zj_iret rfl (zdk ttX11_hung 15 rfl rfl) (Nat.le_refl _) (Nat.le_refl _) ⟨0, rfl, by omega, s3, f206, (by have z9 : zhX (h.2 32) (h.2 31) (h.2 0 53) = 0 := (by rw [show (h.2 0 53) = 0 by omega]; exact zhX_0 _ _); rw [z9]; exact ⟨fun _ => rfl, fun _ => rfl, fun z => absurd (by omega) z⟩)⟩
    · exact absurd c10 (by omega)

abbrev q2_X11_image (h : zM) (p1 : Int) : Option zV → zM → Prop := zqi fun v h' => (0 ≤ v ∧ v ≤ 1) ∧ okB h' ∧ zfr [0, 3, 6, 33, 35, 37, 42, 45, 49, 53, 58, 59, 60] [1, 4, 5, 6, 9, 10, 11, 12, 13, 14, 15, 17, 18, 19, 23, 24, 25, 28, 31, 32, 35] h h' ∧ (okM h') ∧ (zimc p1 (h.2 0 59) v (h'.2 0 59)) ∧ (zimx p1 (h.2 0 59) (h.2 0 42) (h.2 35 67) (h'.2 0 42) (h'.2 35 67)) ∧ (zimx p1 (h.2 0 59) (h.2 0 45) (h.2 35 68) (h'.2 0 45) (h'.2 35 68)) ∧ (zimx p1 (h.2 0 59) (h.2 0 49) (h.2 35 69) (h'.2 0 49) (h'.2 35 69)) ∧ (zimx p1 (h.2 0 59) (h.2 0 53) (h.2 35 70) (h'.2 0 53) (h'.2 35 70)) ∧ (zimx p1 (h.2 0 59) (h.2 0 6) (h.2 35 63) (h'.2 0 6) (h'.2 35 63)) ∧ (∀ j, 0 ≤ j → j < 5 → zimx p1 (h.2 0 59) (h.2 23 j) (h.2 35 (125 + 2 * j)) (h'.2 23 j) (h'.2 35 (125 + 2 * j))) ∧ (∀ j, 0 ≤ j → j < 5 → zimx p1 (h.2 0 59) (h.2 24 j) (h.2 35 (126 + 2 * j)) (h'.2 24 j) (h'.2 35 (126 + 2 * j))) ∧ (∀ j, 0 ≤ j → j < 7 → zimx p1 (h.2 0 59) (h.2 28 j) (h.2 35 (159 + j)) (h'.2 28 j) (h'.2 35 (159 + j))) ∧ (∀ j, 0 ≤ j → j < 6 → zimx p1 (h.2 0 59) (h.2 31 j) (h.2 35 (142 + 3 * j)) (h'.2 31 j) (h'.2 35 (142 + 3 * j))) ∧ (∀ j, 0 ≤ j → j < 6 → zimx p1 (h.2 0 59) (h.2 32 j) (h.2 35 (143 + 3 * j)) (h'.2 32 j) (h'.2 35 (143 + 3 * j)))
set_option maxRecDepth 100000 in
set_option maxHeartbeats 4000000 in
theorem s2_X11_image (l : Launch) (h : zM) (p1 : Int) (s0 : okB h) (b_p1 : 0 ≤ p1 ∧ p1 ≤ 1) (u_0 : okM h) : zT shM l yX11_image cX11_image 3 (some .boolean) (rmL 3) 0 0 [.inr 0, .inl p1] h (q2_X11_image h p1) := by
  refine zT_of (by decide +kernel) (L0 := [some (.inr 0), some (.inl p1), none]) rfl (Nat.le_of_ble_eq_true rfl) ?_
  refine zj_aload_n (zdk ttX11_image 0 rfl rfl) rfl (by decide) ?_
  refine zj_iconst (zdk ttX11_image 1 rfl rfl) ?_
  refine zj_puti (zdk ttX11_image 2 rfl rfl) zf_RX11_120 rfl (k_B s0) (Or.inl zw_RX11_120) (k2 := 0) rfl (fun h1 e2 => ?_)
  refine zj_iload_n (zdk ttX11_image 3 rfl rfl) rfl ?_
  refine zj_if_ne (t := 18) (zdk ttX11_image 4 rfl rfl) (by decide) (by omega) (fun c3 => ?_) (fun c3 => ?_)
  · refine zj_aload_n (zdk ttX11_image 10 rfl rfl) rfl (by decide) ?_
    refine zj_iload_n (zdk ttX11_image 11 rfl rfl) rfl ?_
    have s4 : okB h1 := fwB_0 s0 e2 (by omega)
    refine zj_putz (zdk ttX11_image 12 rfl rfl) zf_RX11_464 rfl (by omega) (k_B s4) (Or.inl zw_RX11_464) (k2 := 58) rfl (fun h5 e6 => ?_)
    refine zj_aload_n (zdk ttX11_image 13 rfl rfl) rfl (by decide) ?_
    refine zj_iconst (zdk ttX11_image 14 rfl rfl) ?_
    have s7 : okB h5 := fwB_58 s4 e6 (by omega)
    refine zj_putz (zdk ttX11_image 15 rfl rfl) zf_RX11_470 rfl (by omega) (k_B s7) (Or.inl zw_RX11_470) (k2 := 59) rfl (fun h8 e9 => ?_)
    refine zj_aload_n (zdk ttX11_image 16 rfl rfl) rfl (by decide) ?_
    refine zj_iconst (zdk ttX11_image 17 rfl rfl) ?_
    have s10 : okB h8 := fwB_59 s7 e9 (by omega)
    refine zj_puti (zdk ttX11_image 18 rfl rfl) zf_RX11_461 rfl (k_B s10) (Or.inl zw_RX11_461) (k2 := 60) rfl (fun h11 e12 => ?_)
    have f0 : zfr [0, 58, 59, 60] [] h h11 := (zfr_wf (zfr_wf (zfr_wf (zfr_wf (zfr_r _ _ _) e2 rfl) e6 rfl) e9 rfl) e12 rfl)
    have b13 : h11.2 0 58 = p1 := (((zwr_r e12 (by omega)).trans (zwr_r e9 (by omega))).trans (zwr_v e6))
    have b14 : h11.2 0 59 = 1 := ((zwr_r e12 (by omega)).trans (zwr_v e9))
    have b15 : h11.2 0 60 = 0 := (zwr_v e12)
    have hT0 : h11.2 0 58 = 0 → h.2 0 59 = 1 := fun q => by omega
    have zI0 := zPI_of u_0 f0 hT0
    have z0 : zSt h11 h11 0 := zSt_0 (by omega)
    refine zj_iconst (zdk ttX11_image 19 rfl rfl) ?_
    refine zj_istore_n (L' := [some (.inr 0), some (.inl p1), some (.inl 0)]) (zdk ttX11_image 20 rfl rfl) (by decide) rfl ?_
    have lp98 : ∀ (n35 : Nat) (x16 : Int) (h17 : zM), (0 ≤ x16 ∧ x16 ≤ 63) → okB h17 → zfr [0, 3, 6, 33, 35, 37, 42, 45, 49, 53, 58, 59, 60] [1, 4, 5, 6, 9, 10, 11, 12, 13, 14, 15, 17, 18, 19, 23, 24, 25, 28, 31, 32, 35] h h17 → (zSt h11 h17 (x16)) → (h17.2 0 59 = 1) → (64 - x16).toNat < n35 → zJ shM l yX11_image cX11_image 3 (some .boolean) (rmL 3) 0 0 (q2_X11_image h p1) 0 0 35 [some (.inr 0), some (.inl p1), some (.inl x16)] [] h17 := by
      intro n35
      induction n35 with
      | zero => intro x16 h17 b99 s18 f19 u100 u101 m102; exact absurd m102 (Nat.not_lt_zero _)
      | succ n35 ih103 =>
        intro x16 h17 b99 s18 f19 u100 u101 m102
        refine zj_iload_n (zdk ttX11_image 21 rfl rfl) rfl ?_
        refine zj_bipush (zdk ttX11_image 22 rfl rfl) (by decide) ?_
        refine zj_icmp_ge (t := 63) (zdk ttX11_image 23 rfl rfl) (by decide) (by omega) (by decide) (fun c104 => ?_) (fun c104 => ?_)
        · refine zj_aload_n (zdk ttX11_image 36 rfl rfl) rfl (by decide) ?_
          refine zj_callV (av := []) (st := []) (zdk ttX11_image 37 rfl rfl) mb_X11_keepsTold mv_RX11_473 (ci := 11) rfl rfl (k_B s18) rfl rfl (Nat.le_of_ble_eq_true rfl) (s_X11_keepsTold l h17 h11 s18 (zSt_j u100 (by omega)) zI0) (rm_ok (by decide) (by decide)) (zq_v fun h107 q105 => ?_)
          obtain ⟨s109, f111, u110⟩ := q105
          refine zj_iconst (zdk ttX11_image 38 rfl rfl) ?_
          refine zj_istore_n (L' := [some (.inr 0), some (.inl p1), some (.inl 0)]) (zdk ttX11_image 39 rfl rfl) (by decide) rfl ?_
          have lp233 : ∀ (n69 : Nat) (x112 : Int) (h113 : zM), (0 ≤ x112 ∧ x112 ≤ 600) → okB h113 → zfr [0, 3, 6, 33, 35, 37, 42, 45, 49, 53, 58, 59, 60] [1, 4, 5, 6, 9, 10, 11, 12, 13, 14, 15, 17, 18, 19, 23, 24, 25, 28, 31, 32, 35] h h113 → (zSt h11 h113 (262 + x112)) → (h113.2 0 59 = 1) → (601 - x112).toNat < n69 → zJ shM l yX11_image cX11_image 3 (some .boolean) (rmL 3) 0 0 (q2_X11_image h p1) 0 0 69 [some (.inr 0), some (.inl p1), some (.inl x112)] [] h113 := by
            intro n69
            induction n69 with
            | zero => intro x112 h113 b234 s114 f115 u235 u236 m237; exact absurd m237 (Nat.not_lt_zero _)
            | succ n69 ih238 =>
              intro x112 h113 b234 s114 f115 u235 u236 m237
              refine zj_iload_n (zdk ttX11_image 40 rfl rfl) rfl ?_
              refine zj_sipush (zdk ttX11_image 41 rfl rfl) (by decide) ?_
              refine zj_icmp_ge (t := 98) (zdk ttX11_image 42 rfl rfl) (by decide) (by omega) (by decide) (fun c239 => ?_) (fun c239 => ?_)
              · refine zj_aload_n (zdk ttX11_image 55 rfl rfl) rfl (by decide) ?_
                refine zj_callV (av := []) (st := []) (zdk ttX11_image 56 rfl rfl) mb_X11_keepsLaw mv_RX11_476 (ci := 11) rfl rfl (k_B s114) rfl rfl (Nat.le_of_ble_eq_true rfl) (s_X11_keepsLaw l h113 h11 s114 (zSt_j u235 (by omega)) zI0) (rm_ok (by decide) (by decide)) (zq_v fun h242 q240 => ?_)
                obtain ⟨s244, f246, u245⟩ := q240
                refine zj_iload_n (zdk ttX11_image 57 rfl rfl) rfl ?_
                refine zj_if_ne (t := 111) (zdk ttX11_image 58 rfl rfl) (by decide) (by omega) (fun c247 => ?_) (fun c247 => ?_)
                · refine zj_iconst (zdk ttX11_image 62 rfl rfl) ?_
                  have f248 : zfr [0, 3, 6, 33, 35, 37, 42, 45, 49, 53, 58, 59, 60] [1, 4, 5, 6, 9, 10, 11, 12, 13, 14, 15, 17, 18, 19, 23, 24, 25, 28, 31, 32, 35] h h242 := zfr_t f115 f246 rfl rfl
                  have b249 : h242.2 0 59 = (h113.2 0 59) := (zfr_f f246 rfl rfl)
                  have b250 : 0 ≤ (h113.2 0 59) ∧ (h113.2 0 59) ≤ 1 := fB_59 s114
                  have b251 : h242.2 0 59 = (h113.2 0 59) := (zfr_f f246 rfl rfl)
                  have b252 := zSt_pt f0 (zSt_j u245 (by omega)) (j := 67) (by decide) (zl_f42 rfl)
                  have b253 := zSt_pt f0 (zSt_j u245 (by omega)) (j := 68) (by decide) (zl_f45 rfl)
                  have b254 := zSt_pt f0 (zSt_j u245 (by omega)) (j := 69) (by decide) (zl_f49 rfl)
                  have b255 := zSt_pt f0 (zSt_j u245 (by omega)) (j := 70) (by decide) (zl_f53 rfl)
                  have b256 := zSt_pt f0 (zSt_j u245 (by omega)) (j := 63) (by decide) (zl_f6 rfl)
                  exact zj_zret rfl (zdk ttX11_image 63 rfl rfl) (Nat.le_refl _) (Nat.le_refl _) (by omega) ⟨1, rfl, by omega, s244, f248, (okM_img u_0 f0 (by omega) hT0 s244 f248 (zSt_j u245 (by omega))), by unfold zimc; omega, by unfold zimx; omega, by unfold zimx; omega, by unfold zimx; omega, by unfold zimx; omega, by unfold zimx; omega, (fun j a b => by have z9 := zSt_pt f0 (zSt_j u245 (by omega)) (j := (125 + 2 * j)) (by omega) (zl_23 (k := j) (by omega) (by omega)); unfold zimx; omega), (fun j a b => by have z9 := zSt_pt f0 (zSt_j u245 (by omega)) (j := (126 + 2 * j)) (by omega) (zl_24 (k := j) (by omega) (by omega)); unfold zimx; omega), (fun j a b => by have z9 := zSt_pt f0 (zSt_j u245 (by omega)) (j := (159 + j)) (by omega) (zl_28 (k := j) (by omega) (by omega)); unfold zimx; omega), (fun j a b => by have z9 := zSt_pt f0 (zSt_j u245 (by omega)) (j := (142 + 3 * j)) (by omega) (zl_31 (k := j) (by omega) (by omega)); unfold zimx; omega), (fun j a b => by have z9 := zSt_pt f0 (zSt_j u245 (by omega)) (j := (143 + 3 * j)) (by omega) (zl_32 (k := j) (by omega) (by omega)); unfold zimx; omega)⟩
                · exact absurd c247 (by omega)
              · refine zj_aload_n (zdk ttX11_image 43 rfl rfl) rfl (by decide) ?_
                refine zj_getr (r := 6) (zdk ttX11_image 44 rfl rfl) zf_RX11_25 rfl (k_B s114) (rfB_9 s114) ?_
                refine zj_iload_n (zdk ttX11_image 45 rfl rfl) rfl ?_
                refine zj_aload_n (zdk ttX11_image 46 rfl rfl) rfl (by decide) ?_
                refine zj_aload_n (zdk ttX11_image 47 rfl rfl) rfl (by decide) ?_
                refine zj_getr (r := 6) (zdk ttX11_image 48 rfl rfl) zf_RX11_25 rfl (k_B s114) (rfB_9 s114) ?_
                refine zj_iload_n (zdk ttX11_image 49 rfl rfl) rfl ?_
                have b257 : -2147483648 ≤ (h113.2 6 x112) ∧ (h113.2 6 x112) ≤ 2147483647 := abB_6 s114 x112
                refine zj_iald (v := (h113.2 6 x112)) (zdk ttX11_image 50 rfl rfl) (kaB_6 s114) (by decide) (by omega) rfl ?_
                refine zj_callV (av := [.inl (h113.2 6 x112)]) (st := [.inl x112, .inr 6]) (zdk ttX11_image 51 rfl rfl) mb_X11_keeps mv_RX11_467 (ci := 11) rfl rfl (k_B s114) rfl rfl (Nat.le_of_ble_eq_true rfl) (s_X11_keeps l h113 (h113.2 6 x112) s114 (by omega) (by have := u235.1; omega)) (rm_ok (by decide) (by decide)) (zq_i fun v259 h260 q258 => ?_)
                obtain ⟨b261, s262, f266, u263, u264, u265⟩ := q258
                refine zj_iast (zdk ttX11_image 52 rfl rfl) (kaB_6 s262) (by decide) (by omega) (fun h267 e268 => ?_)
                refine zj_iinc (L' := [some (.inr 0), some (.inl p1), some (.inl (x112 + 1))]) (zdk ttX11_image 53 rfl rfl) rfl (by decide) rfl ?_
                refine zj_goto (t := 69) (zdk ttX11_image 54 rfl rfl) (by decide) ?_
                have b269 : h267.2 0 59 = (h113.2 0 59) := ((zwr_r e268 (by omega)).trans (zfr_f f266 rfl rfl))
                have b270 : 0 ≤ (h113.2 0 59) ∧ (h113.2 0 59) ≤ 1 := fB_59 s114
                have z272r : h113.2 6 x112 = (h113.2 6 x112) := rfl
                have z272l : zloc (262 + x112) = (6, x112) := (zl_6 (by omega) (by omega))
                have z272 : zSt h11 h267 (262 + x112 + 1) := zSt_step u235 (by omega) z272l f266 u263 u264 z272r u265 e268
                have s271 : okB h267 := okB_w s262 e268 (zSt_pm u235 (by omega) z272l s114 zI0 u264 z272r u265)
                have f274 : zfr [0, 3, 6, 33, 35, 37, 42, 45, 49, 53, 58, 59, 60] [1, 4, 5, 6, 9, 10, 11, 12, 13, 14, 15, 17, 18, 19, 23, 24, 25, 28, 31, 32, 35] h h260 := zfr_t f115 f266 rfl rfl
                have f273 : zfr [0, 3, 6, 33, 35, 37, 42, 45, 49, 53, 58, 59, 60] [1, 4, 5, 6, 9, 10, 11, 12, 13, 14, 15, 17, 18, 19, 23, 24, 25, 28, 31, 32, 35] h h267 := zfr_wa f274 e268 rfl
                exact ih238  (x112 + 1) h267 (by omega) s271 f273 (zSt_j z272 (by omega)) (by omega) (by omega)
          have b275 : h107.2 0 59 = (h17.2 0 59) := (zfr_f f111 rfl rfl)
          have b276 : 0 ≤ (h17.2 0 59) ∧ (h17.2 0 59) ≤ 1 := fB_59 s18
          have f277 : zfr [0, 3, 6, 33, 35, 37, 42, 45, 49, 53, 58, 59, 60] [1, 4, 5, 6, 9, 10, 11, 12, 13, 14, 15, 17, 18, 19, 23, 24, 25, 28, 31, 32, 35] h h107 := zfr_t f19 f111 rfl rfl
          exact lp233 _ 0 h107 (by omega) s109 f277 (zSt_j u110 (by omega)) (by omega) (Nat.lt_succ_self _)
        · refine zj_aload_n (zdk ttX11_image 24 rfl rfl) rfl (by decide) ?_
          refine zj_getr (r := 1) (zdk ttX11_image 25 rfl rfl) zf_RX11_7 rfl (k_B s18) (rfB_1 s18) ?_
          refine zj_iload_n (zdk ttX11_image 26 rfl rfl) rfl ?_
          refine zj_aload_n (zdk ttX11_image 27 rfl rfl) rfl (by decide) ?_
          refine zj_aload_n (zdk ttX11_image 28 rfl rfl) rfl (by decide) ?_
          refine zj_getr (r := 1) (zdk ttX11_image 29 rfl rfl) zf_RX11_7 rfl (k_B s18) (rfB_1 s18) ?_
          refine zj_iload_n (zdk ttX11_image 30 rfl rfl) rfl ?_
          have b278 : -2147483648 ≤ (h17.2 1 x16) ∧ (h17.2 1 x16) ≤ 2147483647 := abB_1 s18 x16
          refine zj_iald (v := (h17.2 1 x16)) (zdk ttX11_image 31 rfl rfl) (kaB_1 s18) (by decide) (by omega) rfl ?_
          refine zj_callV (av := [.inl (h17.2 1 x16)]) (st := [.inl x16, .inr 1]) (zdk ttX11_image 32 rfl rfl) mb_X11_keeps mv_RX11_467 (ci := 11) rfl rfl (k_B s18) rfl rfl (Nat.le_of_ble_eq_true rfl) (s_X11_keeps l h17 (h17.2 1 x16) s18 (by omega) (by have := u100.1; omega)) (rm_ok (by decide) (by decide)) (zq_i fun v280 h281 q279 => ?_)
          obtain ⟨b282, s283, f287, u284, u285, u286⟩ := q279
          refine zj_iast (zdk ttX11_image 33 rfl rfl) (kaB_1 s283) (by decide) (by omega) (fun h288 e289 => ?_)
          refine zj_iinc (L' := [some (.inr 0), some (.inl p1), some (.inl (x16 + 1))]) (zdk ttX11_image 34 rfl rfl) rfl (by decide) rfl ?_
          refine zj_goto (t := 35) (zdk ttX11_image 35 rfl rfl) (by decide) ?_
          have b290 : h288.2 0 59 = (h17.2 0 59) := ((zwr_r e289 (by omega)).trans (zfr_f f287 rfl rfl))
          have b291 : 0 ≤ (h17.2 0 59) ∧ (h17.2 0 59) ≤ 1 := fB_59 s18
          have z293r : h17.2 1 x16 = (h17.2 1 x16) := rfl
          have z293l : zloc (x16) = (1, x16) := (zl_1 (by omega) (by omega))
          have z293 : zSt h11 h288 (x16 + 1) := zSt_step u100 (by omega) z293l f287 u284 u285 z293r u286 e289
          have s292 : okB h288 := okB_w s283 e289 (zSt_pm u100 (by omega) z293l s18 zI0 u285 z293r u286)
          have f295 : zfr [0, 3, 6, 33, 35, 37, 42, 45, 49, 53, 58, 59, 60] [1, 4, 5, 6, 9, 10, 11, 12, 13, 14, 15, 17, 18, 19, 23, 24, 25, 28, 31, 32, 35] h h281 := zfr_t f19 f287 rfl rfl
          have f294 : zfr [0, 3, 6, 33, 35, 37, 42, 45, 49, 53, 58, 59, 60] [1, 4, 5, 6, 9, 10, 11, 12, 13, 14, 15, 17, 18, 19, 23, 24, 25, 28, 31, 32, 35] h h288 := zfr_wa f295 e289 rfl
          exact ih103  (x16 + 1) h288 (by omega) s292 f294 (zSt_j z293 (by omega)) (by omega) (by omega)
    have b296 : h11.2 0 59 = 1 := ((zwr_r e12 (by omega)).trans (zwr_v e9))
    have s297 : okB h11 := fwB_60 s10 e12 (by omega)
    have f301 : zfr [0, 3, 6, 33, 35, 37, 42, 45, 49, 53, 58, 59, 60] [1, 4, 5, 6, 9, 10, 11, 12, 13, 14, 15, 17, 18, 19, 23, 24, 25, 28, 31, 32, 35] h h1 := zfr_wf (zfr_r _ _ _) e2 rfl
    have f300 : zfr [0, 3, 6, 33, 35, 37, 42, 45, 49, 53, 58, 59, 60] [1, 4, 5, 6, 9, 10, 11, 12, 13, 14, 15, 17, 18, 19, 23, 24, 25, 28, 31, 32, 35] h h5 := zfr_wf f301 e6 rfl
    have f299 : zfr [0, 3, 6, 33, 35, 37, 42, 45, 49, 53, 58, 59, 60] [1, 4, 5, 6, 9, 10, 11, 12, 13, 14, 15, 17, 18, 19, 23, 24, 25, 28, 31, 32, 35] h h8 := zfr_wf f300 e9 rfl
    have f298 : zfr [0, 3, 6, 33, 35, 37, 42, 45, 49, 53, 58, 59, 60] [1, 4, 5, 6, 9, 10, 11, 12, 13, 14, 15, 17, 18, 19, 23, 24, 25, 28, 31, 32, 35] h h11 := zfr_wf f299 e12 rfl
    exact lp98 _ 0 h11 (by omega) s297 f298 (zSt_j z0 (by omega)) (by omega) (Nat.lt_succ_self _)
  · refine zj_aload_n (zdk ttX11_image 5 rfl rfl) rfl (by decide) ?_
    have b302 : 0 ≤ (h.2 0 59) ∧ (h.2 0 59) ≤ 1 := fB_59 s0
    have s303 : okB h1 := fwB_0 s0 e2 (by omega)
    refine zj_geti (v := (h.2 0 59)) (zdk ttX11_image 6 rfl rfl) zf_RX11_470 rfl (k_B s303) (zwr_r e2 (by omega)) ?_
    refine zj_if_ne (t := 18) (zdk ttX11_image 7 rfl rfl) (by decide) (by omega) (fun c304 => ?_) (fun c304 => ?_)
    · refine zj_aload_n (zdk ttX11_image 10 rfl rfl) rfl (by decide) ?_
      refine zj_iload_n (zdk ttX11_image 11 rfl rfl) rfl ?_
      refine zj_putz (zdk ttX11_image 12 rfl rfl) zf_RX11_464 rfl (by omega) (k_B s303) (Or.inl zw_RX11_464) (k2 := 58) rfl (fun h305 e306 => ?_)
      refine zj_aload_n (zdk ttX11_image 13 rfl rfl) rfl (by decide) ?_
      refine zj_iconst (zdk ttX11_image 14 rfl rfl) ?_
      have s307 : okB h305 := fwB_58 s303 e306 (by omega)
      refine zj_putz (zdk ttX11_image 15 rfl rfl) zf_RX11_470 rfl (by omega) (k_B s307) (Or.inl zw_RX11_470) (k2 := 59) rfl (fun h308 e309 => ?_)
      refine zj_aload_n (zdk ttX11_image 16 rfl rfl) rfl (by decide) ?_
      refine zj_iconst (zdk ttX11_image 17 rfl rfl) ?_
      have s310 : okB h308 := fwB_59 s307 e309 (by omega)
      refine zj_puti (zdk ttX11_image 18 rfl rfl) zf_RX11_461 rfl (k_B s310) (Or.inl zw_RX11_461) (k2 := 60) rfl (fun h311 e312 => ?_)
      have f0 : zfr [0, 58, 59, 60] [] h h311 := (zfr_wf (zfr_wf (zfr_wf (zfr_wf (zfr_r _ _ _) e2 rfl) e306 rfl) e309 rfl) e312 rfl)
      have b313 : h311.2 0 58 = p1 := (((zwr_r e312 (by omega)).trans (zwr_r e309 (by omega))).trans (zwr_v e306))
      have b314 : h311.2 0 59 = 1 := ((zwr_r e312 (by omega)).trans (zwr_v e309))
      have b315 : h311.2 0 60 = 0 := (zwr_v e312)
      have hT0 : h311.2 0 58 = 0 → h.2 0 59 = 1 := fun q => by omega
      have zI0 := zPI_of u_0 f0 hT0
      have z0 : zSt h311 h311 0 := zSt_0 (by omega)
      refine zj_iconst (zdk ttX11_image 19 rfl rfl) ?_
      refine zj_istore_n (L' := [some (.inr 0), some (.inl p1), some (.inl 0)]) (zdk ttX11_image 20 rfl rfl) (by decide) rfl ?_
      have lp398 : ∀ (n35 : Nat) (x316 : Int) (h317 : zM), (0 ≤ x316 ∧ x316 ≤ 63) → okB h317 → zfr [0, 3, 6, 33, 35, 37, 42, 45, 49, 53, 58, 59, 60] [1, 4, 5, 6, 9, 10, 11, 12, 13, 14, 15, 17, 18, 19, 23, 24, 25, 28, 31, 32, 35] h h317 → (zSt h311 h317 (x316)) → (h317.2 0 59 = 1) → (64 - x316).toNat < n35 → zJ shM l yX11_image cX11_image 3 (some .boolean) (rmL 3) 0 0 (q2_X11_image h p1) 0 0 35 [some (.inr 0), some (.inl p1), some (.inl x316)] [] h317 := by
        intro n35
        induction n35 with
        | zero => intro x316 h317 b399 s318 f319 u400 u401 m402; exact absurd m402 (Nat.not_lt_zero _)
        | succ n35 ih403 =>
          intro x316 h317 b399 s318 f319 u400 u401 m402
          refine zj_iload_n (zdk ttX11_image 21 rfl rfl) rfl ?_
          refine zj_bipush (zdk ttX11_image 22 rfl rfl) (by decide) ?_
          refine zj_icmp_ge (t := 63) (zdk ttX11_image 23 rfl rfl) (by decide) (by omega) (by decide) (fun c404 => ?_) (fun c404 => ?_)
          · refine zj_aload_n (zdk ttX11_image 36 rfl rfl) rfl (by decide) ?_
            refine zj_callV (av := []) (st := []) (zdk ttX11_image 37 rfl rfl) mb_X11_keepsTold mv_RX11_473 (ci := 11) rfl rfl (k_B s318) rfl rfl (Nat.le_of_ble_eq_true rfl) (s_X11_keepsTold l h317 h311 s318 (zSt_j u400 (by omega)) zI0) (rm_ok (by decide) (by decide)) (zq_v fun h407 q405 => ?_)
            obtain ⟨s409, f411, u410⟩ := q405
            refine zj_iconst (zdk ttX11_image 38 rfl rfl) ?_
            refine zj_istore_n (L' := [some (.inr 0), some (.inl p1), some (.inl 0)]) (zdk ttX11_image 39 rfl rfl) (by decide) rfl ?_
            have lp533 : ∀ (n69 : Nat) (x412 : Int) (h413 : zM), (0 ≤ x412 ∧ x412 ≤ 600) → okB h413 → zfr [0, 3, 6, 33, 35, 37, 42, 45, 49, 53, 58, 59, 60] [1, 4, 5, 6, 9, 10, 11, 12, 13, 14, 15, 17, 18, 19, 23, 24, 25, 28, 31, 32, 35] h h413 → (zSt h311 h413 (262 + x412)) → (h413.2 0 59 = 1) → (601 - x412).toNat < n69 → zJ shM l yX11_image cX11_image 3 (some .boolean) (rmL 3) 0 0 (q2_X11_image h p1) 0 0 69 [some (.inr 0), some (.inl p1), some (.inl x412)] [] h413 := by
              intro n69
              induction n69 with
              | zero => intro x412 h413 b534 s414 f415 u535 u536 m537; exact absurd m537 (Nat.not_lt_zero _)
              | succ n69 ih538 =>
                intro x412 h413 b534 s414 f415 u535 u536 m537
                refine zj_iload_n (zdk ttX11_image 40 rfl rfl) rfl ?_
                refine zj_sipush (zdk ttX11_image 41 rfl rfl) (by decide) ?_
                refine zj_icmp_ge (t := 98) (zdk ttX11_image 42 rfl rfl) (by decide) (by omega) (by decide) (fun c539 => ?_) (fun c539 => ?_)
                · refine zj_aload_n (zdk ttX11_image 55 rfl rfl) rfl (by decide) ?_
                  refine zj_callV (av := []) (st := []) (zdk ttX11_image 56 rfl rfl) mb_X11_keepsLaw mv_RX11_476 (ci := 11) rfl rfl (k_B s414) rfl rfl (Nat.le_of_ble_eq_true rfl) (s_X11_keepsLaw l h413 h311 s414 (zSt_j u535 (by omega)) zI0) (rm_ok (by decide) (by decide)) (zq_v fun h542 q540 => ?_)
                  obtain ⟨s544, f546, u545⟩ := q540
                  refine zj_iload_n (zdk ttX11_image 57 rfl rfl) rfl ?_
                  refine zj_if_ne (t := 111) (zdk ttX11_image 58 rfl rfl) (by decide) (by omega) (fun c547 => ?_) (fun c547 => ?_)
                  · exact absurd c547 (by omega)
                  · refine zj_aload_n (zdk ttX11_image 59 rfl rfl) rfl (by decide) ?_
                    refine zj_iconst (zdk ttX11_image 60 rfl rfl) ?_
                    refine zj_puti (zdk ttX11_image 61 rfl rfl) zf_RX11_123 rfl (k_B s544) (Or.inl zw_RX11_123) (k2 := 3) rfl (fun h548 e549 => ?_)
                    refine zj_iconst (zdk ttX11_image 62 rfl rfl) ?_
                    have s550 : okB h548 := fwB_3 s544 e549 (by omega)
                    have f552 : zfr [0, 3, 6, 33, 35, 37, 42, 45, 49, 53, 58, 59, 60] [1, 4, 5, 6, 9, 10, 11, 12, 13, 14, 15, 17, 18, 19, 23, 24, 25, 28, 31, 32, 35] h h542 := zfr_t f415 f546 rfl rfl
                    have f551 : zfr [0, 3, 6, 33, 35, 37, 42, 45, 49, 53, 58, 59, 60] [1, 4, 5, 6, 9, 10, 11, 12, 13, 14, 15, 17, 18, 19, 23, 24, 25, 28, 31, 32, 35] h h548 := zfr_wf f552 e549 rfl
                    have b553 : h542.2 0 59 = (h413.2 0 59) := (zfr_f f546 rfl rfl)
                    have b554 : 0 ≤ (h413.2 0 59) ∧ (h413.2 0 59) ≤ 1 := fB_59 s414
                    have b555 : h548.2 0 59 = (h413.2 0 59) := ((zwr_r e549 (by omega)).trans (zfr_f f546 rfl rfl))
                    have b556 := zSt_pt f0 (zSt_j u545 (by omega)) (j := 67) (by decide) (zl_f42 rfl)
                    have b556a : h548.2 0 42 = h542.2 0 42 := zwr_r e549 (by decide)
                    have b556b : h548.2 35 67 = h542.2 35 67 := zwr_r e549 (by decide)
                    have b557 := zSt_pt f0 (zSt_j u545 (by omega)) (j := 68) (by decide) (zl_f45 rfl)
                    have b557a : h548.2 0 45 = h542.2 0 45 := zwr_r e549 (by decide)
                    have b557b : h548.2 35 68 = h542.2 35 68 := zwr_r e549 (by decide)
                    have b558 := zSt_pt f0 (zSt_j u545 (by omega)) (j := 69) (by decide) (zl_f49 rfl)
                    have b558a : h548.2 0 49 = h542.2 0 49 := zwr_r e549 (by decide)
                    have b558b : h548.2 35 69 = h542.2 35 69 := zwr_r e549 (by decide)
                    have b559 := zSt_pt f0 (zSt_j u545 (by omega)) (j := 70) (by decide) (zl_f53 rfl)
                    have b559a : h548.2 0 53 = h542.2 0 53 := zwr_r e549 (by decide)
                    have b559b : h548.2 35 70 = h542.2 35 70 := zwr_r e549 (by decide)
                    have b560 := zSt_pt f0 (zSt_j u545 (by omega)) (j := 63) (by decide) (zl_f6 rfl)
                    have b560a : h548.2 0 6 = h542.2 0 6 := zwr_r e549 (by decide)
                    have b560b : h548.2 35 63 = h542.2 35 63 := zwr_r e549 (by decide)
                    exact zj_zret rfl (zdk ttX11_image 63 rfl rfl) (Nat.le_refl _) (Nat.le_refl _) (by omega) ⟨1, rfl, by omega, s550, f551, (fwM_3 (okM_img u_0 f0 (by omega) hT0 s544 f552 (zSt_j u545 (by omega))) e549 (by decide)), by unfold zimc; omega, by unfold zimx; omega, by unfold zimx; omega, by unfold zimx; omega, by unfold zimx; omega, by unfold zimx; omega, (fun j a b => by have z9 := zSt_pt f0 (zSt_j u545 (by omega)) (j := (125 + 2 * j)) (by omega) (zl_23 (k := j) (by omega) (by omega)); have z1 : h548.2 23 j = h542.2 23 j := zwr_r e549 (by omega); have z2 : h548.2 35 (125 + 2 * j) = h542.2 35 (125 + 2 * j) := zwr_r e549 (by omega); unfold zimx; omega), (fun j a b => by have z9 := zSt_pt f0 (zSt_j u545 (by omega)) (j := (126 + 2 * j)) (by omega) (zl_24 (k := j) (by omega) (by omega)); have z1 : h548.2 24 j = h542.2 24 j := zwr_r e549 (by omega); have z2 : h548.2 35 (126 + 2 * j) = h542.2 35 (126 + 2 * j) := zwr_r e549 (by omega); unfold zimx; omega), (fun j a b => by have z9 := zSt_pt f0 (zSt_j u545 (by omega)) (j := (159 + j)) (by omega) (zl_28 (k := j) (by omega) (by omega)); have z1 : h548.2 28 j = h542.2 28 j := zwr_r e549 (by omega); have z2 : h548.2 35 (159 + j) = h542.2 35 (159 + j) := zwr_r e549 (by omega); unfold zimx; omega), (fun j a b => by have z9 := zSt_pt f0 (zSt_j u545 (by omega)) (j := (142 + 3 * j)) (by omega) (zl_31 (k := j) (by omega) (by omega)); have z1 : h548.2 31 j = h542.2 31 j := zwr_r e549 (by omega); have z2 : h548.2 35 (142 + 3 * j) = h542.2 35 (142 + 3 * j) := zwr_r e549 (by omega); unfold zimx; omega), (fun j a b => by have z9 := zSt_pt f0 (zSt_j u545 (by omega)) (j := (143 + 3 * j)) (by omega) (zl_32 (k := j) (by omega) (by omega)); have z1 : h548.2 32 j = h542.2 32 j := zwr_r e549 (by omega); have z2 : h548.2 35 (143 + 3 * j) = h542.2 35 (143 + 3 * j) := zwr_r e549 (by omega); unfold zimx; omega)⟩
                · refine zj_aload_n (zdk ttX11_image 43 rfl rfl) rfl (by decide) ?_
                  refine zj_getr (r := 6) (zdk ttX11_image 44 rfl rfl) zf_RX11_25 rfl (k_B s414) (rfB_9 s414) ?_
                  refine zj_iload_n (zdk ttX11_image 45 rfl rfl) rfl ?_
                  refine zj_aload_n (zdk ttX11_image 46 rfl rfl) rfl (by decide) ?_
                  refine zj_aload_n (zdk ttX11_image 47 rfl rfl) rfl (by decide) ?_
                  refine zj_getr (r := 6) (zdk ttX11_image 48 rfl rfl) zf_RX11_25 rfl (k_B s414) (rfB_9 s414) ?_
                  refine zj_iload_n (zdk ttX11_image 49 rfl rfl) rfl ?_
                  have b561 : -2147483648 ≤ (h413.2 6 x412) ∧ (h413.2 6 x412) ≤ 2147483647 := abB_6 s414 x412
                  refine zj_iald (v := (h413.2 6 x412)) (zdk ttX11_image 50 rfl rfl) (kaB_6 s414) (by decide) (by omega) rfl ?_
                  refine zj_callV (av := [.inl (h413.2 6 x412)]) (st := [.inl x412, .inr 6]) (zdk ttX11_image 51 rfl rfl) mb_X11_keeps mv_RX11_467 (ci := 11) rfl rfl (k_B s414) rfl rfl (Nat.le_of_ble_eq_true rfl) (s_X11_keeps l h413 (h413.2 6 x412) s414 (by omega) (by have := u535.1; omega)) (rm_ok (by decide) (by decide)) (zq_i fun v563 h564 q562 => ?_)
                  obtain ⟨b565, s566, f570, u567, u568, u569⟩ := q562
                  refine zj_iast (zdk ttX11_image 52 rfl rfl) (kaB_6 s566) (by decide) (by omega) (fun h571 e572 => ?_)
                  refine zj_iinc (L' := [some (.inr 0), some (.inl p1), some (.inl (x412 + 1))]) (zdk ttX11_image 53 rfl rfl) rfl (by decide) rfl ?_
                  refine zj_goto (t := 69) (zdk ttX11_image 54 rfl rfl) (by decide) ?_
                  have b573 : h571.2 0 59 = (h413.2 0 59) := ((zwr_r e572 (by omega)).trans (zfr_f f570 rfl rfl))
                  have b574 : 0 ≤ (h413.2 0 59) ∧ (h413.2 0 59) ≤ 1 := fB_59 s414
                  have z576r : h413.2 6 x412 = (h413.2 6 x412) := rfl
                  have z576l : zloc (262 + x412) = (6, x412) := (zl_6 (by omega) (by omega))
                  have z576 : zSt h311 h571 (262 + x412 + 1) := zSt_step u535 (by omega) z576l f570 u567 u568 z576r u569 e572
                  have s575 : okB h571 := okB_w s566 e572 (zSt_pm u535 (by omega) z576l s414 zI0 u568 z576r u569)
                  have f578 : zfr [0, 3, 6, 33, 35, 37, 42, 45, 49, 53, 58, 59, 60] [1, 4, 5, 6, 9, 10, 11, 12, 13, 14, 15, 17, 18, 19, 23, 24, 25, 28, 31, 32, 35] h h564 := zfr_t f415 f570 rfl rfl
                  have f577 : zfr [0, 3, 6, 33, 35, 37, 42, 45, 49, 53, 58, 59, 60] [1, 4, 5, 6, 9, 10, 11, 12, 13, 14, 15, 17, 18, 19, 23, 24, 25, 28, 31, 32, 35] h h571 := zfr_wa f578 e572 rfl
                  exact ih538  (x412 + 1) h571 (by omega) s575 f577 (zSt_j z576 (by omega)) (by omega) (by omega)
            have b579 : h407.2 0 59 = (h317.2 0 59) := (zfr_f f411 rfl rfl)
            have b580 : 0 ≤ (h317.2 0 59) ∧ (h317.2 0 59) ≤ 1 := fB_59 s318
            have f581 : zfr [0, 3, 6, 33, 35, 37, 42, 45, 49, 53, 58, 59, 60] [1, 4, 5, 6, 9, 10, 11, 12, 13, 14, 15, 17, 18, 19, 23, 24, 25, 28, 31, 32, 35] h h407 := zfr_t f319 f411 rfl rfl
            exact lp533 _ 0 h407 (by omega) s409 f581 (zSt_j u410 (by omega)) (by omega) (Nat.lt_succ_self _)
          · refine zj_aload_n (zdk ttX11_image 24 rfl rfl) rfl (by decide) ?_
            refine zj_getr (r := 1) (zdk ttX11_image 25 rfl rfl) zf_RX11_7 rfl (k_B s318) (rfB_1 s318) ?_
            refine zj_iload_n (zdk ttX11_image 26 rfl rfl) rfl ?_
            refine zj_aload_n (zdk ttX11_image 27 rfl rfl) rfl (by decide) ?_
            refine zj_aload_n (zdk ttX11_image 28 rfl rfl) rfl (by decide) ?_
            refine zj_getr (r := 1) (zdk ttX11_image 29 rfl rfl) zf_RX11_7 rfl (k_B s318) (rfB_1 s318) ?_
            refine zj_iload_n (zdk ttX11_image 30 rfl rfl) rfl ?_
            have b582 : -2147483648 ≤ (h317.2 1 x316) ∧ (h317.2 1 x316) ≤ 2147483647 := abB_1 s318 x316
            refine zj_iald (v := (h317.2 1 x316)) (zdk ttX11_image 31 rfl rfl) (kaB_1 s318) (by decide) (by omega) rfl ?_
            refine zj_callV (av := [.inl (h317.2 1 x316)]) (st := [.inl x316, .inr 1]) (zdk ttX11_image 32 rfl rfl) mb_X11_keeps mv_RX11_467 (ci := 11) rfl rfl (k_B s318) rfl rfl (Nat.le_of_ble_eq_true rfl) (s_X11_keeps l h317 (h317.2 1 x316) s318 (by omega) (by have := u400.1; omega)) (rm_ok (by decide) (by decide)) (zq_i fun v584 h585 q583 => ?_)
            obtain ⟨b586, s587, f591, u588, u589, u590⟩ := q583
            refine zj_iast (zdk ttX11_image 33 rfl rfl) (kaB_1 s587) (by decide) (by omega) (fun h592 e593 => ?_)
            refine zj_iinc (L' := [some (.inr 0), some (.inl p1), some (.inl (x316 + 1))]) (zdk ttX11_image 34 rfl rfl) rfl (by decide) rfl ?_
            refine zj_goto (t := 35) (zdk ttX11_image 35 rfl rfl) (by decide) ?_
            have b594 : h592.2 0 59 = (h317.2 0 59) := ((zwr_r e593 (by omega)).trans (zfr_f f591 rfl rfl))
            have b595 : 0 ≤ (h317.2 0 59) ∧ (h317.2 0 59) ≤ 1 := fB_59 s318
            have z597r : h317.2 1 x316 = (h317.2 1 x316) := rfl
            have z597l : zloc (x316) = (1, x316) := (zl_1 (by omega) (by omega))
            have z597 : zSt h311 h592 (x316 + 1) := zSt_step u400 (by omega) z597l f591 u588 u589 z597r u590 e593
            have s596 : okB h592 := okB_w s587 e593 (zSt_pm u400 (by omega) z597l s318 zI0 u589 z597r u590)
            have f599 : zfr [0, 3, 6, 33, 35, 37, 42, 45, 49, 53, 58, 59, 60] [1, 4, 5, 6, 9, 10, 11, 12, 13, 14, 15, 17, 18, 19, 23, 24, 25, 28, 31, 32, 35] h h585 := zfr_t f319 f591 rfl rfl
            have f598 : zfr [0, 3, 6, 33, 35, 37, 42, 45, 49, 53, 58, 59, 60] [1, 4, 5, 6, 9, 10, 11, 12, 13, 14, 15, 17, 18, 19, 23, 24, 25, 28, 31, 32, 35] h h592 := zfr_wa f599 e593 rfl
            exact ih403  (x316 + 1) h592 (by omega) s596 f598 (zSt_j z597 (by omega)) (by omega) (by omega)
      have b600 : h311.2 0 59 = 1 := ((zwr_r e312 (by omega)).trans (zwr_v e309))
      have s601 : okB h311 := fwB_60 s310 e312 (by omega)
      have f605 : zfr [0, 3, 6, 33, 35, 37, 42, 45, 49, 53, 58, 59, 60] [1, 4, 5, 6, 9, 10, 11, 12, 13, 14, 15, 17, 18, 19, 23, 24, 25, 28, 31, 32, 35] h h1 := zfr_wf (zfr_r _ _ _) e2 rfl
      have f604 : zfr [0, 3, 6, 33, 35, 37, 42, 45, 49, 53, 58, 59, 60] [1, 4, 5, 6, 9, 10, 11, 12, 13, 14, 15, 17, 18, 19, 23, 24, 25, 28, 31, 32, 35] h h305 := zfr_wf f605 e306 rfl
      have f603 : zfr [0, 3, 6, 33, 35, 37, 42, 45, 49, 53, 58, 59, 60] [1, 4, 5, 6, 9, 10, 11, 12, 13, 14, 15, 17, 18, 19, 23, 24, 25, 28, 31, 32, 35] h h308 := zfr_wf f604 e309 rfl
      have f602 : zfr [0, 3, 6, 33, 35, 37, 42, 45, 49, 53, 58, 59, 60] [1, 4, 5, 6, 9, 10, 11, 12, 13, 14, 15, 17, 18, 19, 23, 24, 25, 28, 31, 32, 35] h h311 := zfr_wf f603 e312 rfl
      exact lp398 _ 0 h311 (by omega) s601 f602 (zSt_j z0 (by omega)) (by omega) (Nat.lt_succ_self _)
    · refine zj_iconst (zdk ttX11_image 8 rfl rfl) ?_
      have f606 : zfr [0, 3, 6, 33, 35, 37, 42, 45, 49, 53, 58, 59, 60] [1, 4, 5, 6, 9, 10, 11, 12, 13, 14, 15, 17, 18, 19, 23, 24, 25, 28, 31, 32, 35] h h1 := zfr_wf (zfr_r _ _ _) e2 rfl
      have b607 : h1.2 0 59 = (h.2 0 59) := (zwr_r e2 (by omega))
      have b608 : h1.2 0 42 = (h.2 0 42) := (zwr_r e2 (by omega))
      have b609 : 0 ≤ (h.2 0 42) ∧ (h.2 0 42) ≤ 5 := fB_42 s0
      have b610 : h1.2 35 67 = (h.2 35 67) := (zwr_r e2 (by omega))
      have b611 : h1.2 0 45 = (h.2 0 45) := (zwr_r e2 (by omega))
      have b612 : -2147483648 ≤ (h.2 0 45) ∧ (h.2 0 45) ≤ 2147483647 := fB_45 s0
      have b613 : h1.2 35 68 = (h.2 35 68) := (zwr_r e2 (by omega))
      have b614 : h1.2 0 49 = (h.2 0 49) := (zwr_r e2 (by omega))
      have b615 : 0 ≤ (h.2 0 49) ∧ (h.2 0 49) ≤ 7 := fB_49 s0
      have b616 : h1.2 35 69 = (h.2 35 69) := (zwr_r e2 (by omega))
      have b617 : h1.2 0 53 = (h.2 0 53) := (zwr_r e2 (by omega))
      have b618 : 0 ≤ (h.2 0 53) ∧ (h.2 0 53) ≤ 6 := fB_53 s0
      have b619 : h1.2 35 70 = (h.2 35 70) := (zwr_r e2 (by omega))
      have b620 : h1.2 0 6 = (h.2 0 6) := (zwr_r e2 (by omega))
      have b621 : 0 ≤ (h.2 0 6) ∧ (h.2 0 6) ≤ 18 := fB_6 s0
      have b622 : h1.2 35 63 = (h.2 35 63) := (zwr_r e2 (by omega))
      exact zj_zret rfl (zdk ttX11_image 9 rfl rfl) (Nat.le_refl _) (Nat.le_refl _) (by omega) ⟨0, rfl, by omega, s303, f606, (fwM_0 u_0 e2 (by decide)), by unfold zimc; omega, by unfold zimx; omega, by unfold zimx; omega, by unfold zimx; omega, by unfold zimx; omega, by unfold zimx; omega, (fun j a b => by have z1 : h1.2 23 j = h.2 23 j := (zwr_r e2 (by omega)); have z2 : h1.2 35 (125 + 2 * j) = h.2 35 (125 + 2 * j) := (zwr_r e2 (by omega)); unfold zimx; omega), (fun j a b => by have z1 : h1.2 24 j = h.2 24 j := (zwr_r e2 (by omega)); have z2 : h1.2 35 (126 + 2 * j) = h.2 35 (126 + 2 * j) := (zwr_r e2 (by omega)); unfold zimx; omega), (fun j a b => by have z1 : h1.2 28 j = h.2 28 j := (zwr_r e2 (by omega)); have z2 : h1.2 35 (159 + j) = h.2 35 (159 + j) := (zwr_r e2 (by omega)); unfold zimx; omega), (fun j a b => by have z1 : h1.2 31 j = h.2 31 j := (zwr_r e2 (by omega)); have z2 : h1.2 35 (142 + 3 * j) = h.2 35 (142 + 3 * j) := (zwr_r e2 (by omega)); unfold zimx; omega), (fun j a b => by have z1 : h1.2 32 j = h.2 32 j := (zwr_r e2 (by omega)); have z2 : h1.2 35 (143 + 3 * j) = h.2 35 (143 + 3 * j) := (zwr_r e2 (by omega)); unfold zimx; omega)⟩
