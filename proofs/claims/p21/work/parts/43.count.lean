def zbc1 (x : Int) : Int := (x - (zand (zushr x 1) 1431655765))
def zbc2 (x : Int) : Int := ((zand x 858993459) + (zand (zushr x 2) 858993459))
def zbc3 (x : Int) : Int := (zand (x + (zushr x 4)) 252645135)
def zbc4 (x : Int) : Int := (x + (zushr x 8))
def zbc5 (x : Int) : Int := (x + (zushr x 16))
def zbcF (x : Int) : Int := (zand (zbc5 (zbc4 (zbc3 (zbc2 (zbc1 x))))) 63)
theorem s2_J6_bitCount_0f7a4 (sh : zSh) (l : Launch) (h : zM) (x : Int) : zT sh l yJ6_bitCount_0f7a4 cJ6_bitCount_0f7a4 1 (some .int) (rmL 0) 0 0 [.inl x] h (zqi fun v h' => h = h' ∧ v = zbcF x) := by
  refine zT_of (by decide +kernel) (L0 := [some (.inl x)]) rfl (Nat.le_of_ble_eq_true rfl) ?_
  refine zj_iload_n (zdk ttJ6_bitCount_0f7a4 0 rfl rfl) rfl ?_
  refine zj_iload_n (zdk ttJ6_bitCount_0f7a4 1 rfl rfl) rfl ?_
  refine zj_iconst (zdk ttJ6_bitCount_0f7a4 2 rfl rfl) ?_
  refine zj_iushr (zdk ttJ6_bitCount_0f7a4 3 rfl rfl) ?_
  refine zj_ldc_w (z := 1431655765) (zdk ttJ6_bitCount_0f7a4 4 rfl rfl) wc_RJ6_265 ?_
  refine zj_iand (zdk ttJ6_bitCount_0f7a4 5 rfl rfl) ?_
  refine zj_isub (zdk ttJ6_bitCount_0f7a4 6 rfl rfl) ?_
  refine zj_istore_n (L' := [some (.inl (zbc1 x))]) (zdk ttJ6_bitCount_0f7a4 7 rfl rfl) (by decide) rfl ?_
  refine zj_iload_n (zdk ttJ6_bitCount_0f7a4 8 rfl rfl) rfl ?_
  refine zj_ldc_w (z := 858993459) (zdk ttJ6_bitCount_0f7a4 9 rfl rfl) wc_RJ6_266 ?_
  refine zj_iand (zdk ttJ6_bitCount_0f7a4 10 rfl rfl) ?_
  refine zj_iload_n (zdk ttJ6_bitCount_0f7a4 11 rfl rfl) rfl ?_
  refine zj_iconst (zdk ttJ6_bitCount_0f7a4 12 rfl rfl) ?_
  refine zj_iushr (zdk ttJ6_bitCount_0f7a4 13 rfl rfl) ?_
  refine zj_ldc_w (z := 858993459) (zdk ttJ6_bitCount_0f7a4 14 rfl rfl) wc_RJ6_266 ?_
  refine zj_iand (zdk ttJ6_bitCount_0f7a4 15 rfl rfl) ?_
  refine zj_iadd (zdk ttJ6_bitCount_0f7a4 16 rfl rfl) ?_
  refine zj_istore_n (L' := [some (.inl (zbc2 (zbc1 x)))]) (zdk ttJ6_bitCount_0f7a4 17 rfl rfl) (by decide) rfl ?_
  refine zj_iload_n (zdk ttJ6_bitCount_0f7a4 18 rfl rfl) rfl ?_
  refine zj_iload_n (zdk ttJ6_bitCount_0f7a4 19 rfl rfl) rfl ?_
  refine zj_iconst (zdk ttJ6_bitCount_0f7a4 20 rfl rfl) ?_
  refine zj_iushr (zdk ttJ6_bitCount_0f7a4 21 rfl rfl) ?_
  refine zj_iadd (zdk ttJ6_bitCount_0f7a4 22 rfl rfl) ?_
  refine zj_ldc_w (z := 252645135) (zdk ttJ6_bitCount_0f7a4 23 rfl rfl) wc_RJ6_267 ?_
  refine zj_iand (zdk ttJ6_bitCount_0f7a4 24 rfl rfl) ?_
  refine zj_istore_n (L' := [some (.inl (zbc3 (zbc2 (zbc1 x))))]) (zdk ttJ6_bitCount_0f7a4 25 rfl rfl) (by decide) rfl ?_
  refine zj_iload_n (zdk ttJ6_bitCount_0f7a4 26 rfl rfl) rfl ?_
  refine zj_iload_n (zdk ttJ6_bitCount_0f7a4 27 rfl rfl) rfl ?_
  refine zj_bipush (zdk ttJ6_bitCount_0f7a4 28 rfl rfl) (by decide) ?_
  refine zj_iushr (zdk ttJ6_bitCount_0f7a4 29 rfl rfl) ?_
  refine zj_iadd (zdk ttJ6_bitCount_0f7a4 30 rfl rfl) ?_
  refine zj_istore_n (L' := [some (.inl (zbc4 (zbc3 (zbc2 (zbc1 x)))))]) (zdk ttJ6_bitCount_0f7a4 31 rfl rfl) (by decide) rfl ?_
  refine zj_iload_n (zdk ttJ6_bitCount_0f7a4 32 rfl rfl) rfl ?_
  refine zj_iload_n (zdk ttJ6_bitCount_0f7a4 33 rfl rfl) rfl ?_
  refine zj_bipush (zdk ttJ6_bitCount_0f7a4 34 rfl rfl) (by decide) ?_
  refine zj_iushr (zdk ttJ6_bitCount_0f7a4 35 rfl rfl) ?_
  refine zj_iadd (zdk ttJ6_bitCount_0f7a4 36 rfl rfl) ?_
  refine zj_istore_n (L' := [some (.inl (zbc5 (zbc4 (zbc3 (zbc2 (zbc1 x))))))]) (zdk ttJ6_bitCount_0f7a4 37 rfl rfl) (by decide) rfl ?_
  refine zj_iload_n (zdk ttJ6_bitCount_0f7a4 38 rfl rfl) rfl ?_
  refine zj_bipush (zdk ttJ6_bitCount_0f7a4 39 rfl rfl) (by decide) ?_
  refine zj_iand (zdk ttJ6_bitCount_0f7a4 40 rfl rfl) ?_
  exact zj_iret rfl (zdk ttJ6_bitCount_0f7a4 41 rfl rfl) (Nat.le_refl _) (Nat.le_refl _) ⟨(zand (zbc5 (zbc4 (zbc3 (zbc2 (zbc1 x))))) 63), rfl, rfl, rfl⟩
/-! ===== ferry: edges, paths, distances ===== -/
def fyp (l : Int) : Int := l % 2 + l / 2 % 2 + l / 4 % 2 + l / 8 % 2 + l / 16 % 2 + l / 32 % 2
theorem fyp_b (l : Int) : 0 ≤ fyp l ∧ fyp l ≤ 6 := by unfold fyp; omega
theorem fyp_n : ∀ n : Nat, n < 64 → (n = 0 ∨ fyp (zand (n : Int) ((n : Int) - 1)) + 1 = fyp (n : Int)) := by decide +kernel
theorem fyp_s {x : Int} (h : 0 ≤ x ∧ x < 64) (h0 : ¬ x = 0) : fyp (zand x (x - 1)) + 1 = fyp x := by
  have e : ((x.toNat : Nat) : Int) = x := by omega
  have := fyp_n x.toNat (by omega)
  rw [e] at this
  rcases this with h1 | h1
  · omega
  · exact h1
theorem zbc_n : ∀ n : Nat, n < 64 → zbcF (n : Int) = fyp (n : Int) := by decide +kernel
theorem zbc_6 {x : Int} (h : 0 ≤ x ∧ x < 64) : zbcF x = fyp x := by
  have e : ((x.toNat : Nat) : Int) = x := by omega
  have := zbc_n x.toNat (by omega)
  rw [e] at this
  exact this
/-- small numbers: what is not in another -/
def fyn (a b : Nat) : Nat := a - (a &&& b)
theorem fyz_n : ∀ a : Nat, a < 64 → ∀ b : Nat, b < 64 → zand (a : Int) (b : Int) = ((a &&& b : Nat) : Int) ∧ zand (a : Int) (zxor (b : Int) (-1)) = ((fyn a b : Nat) : Int) ∧ zxor (a : Int) (b : Int) = ((a ^^^ b : Nat) : Int) := by decide +kernel
theorem fyz {a b : Int} (ha : 0 ≤ a ∧ a < 64) (hb : 0 ≤ b ∧ b < 64) : zand a b = ((a.toNat &&& b.toNat : Nat) : Int) ∧ zand a (zxor b (-1)) = ((fyn a.toNat b.toNat : Nat) : Int) ∧ zxor a b = ((a.toNat ^^^ b.toNat : Nat) : Int) := by
  have h := fyz_n a.toNat (by omega) b.toNat (by omega)
  rw [Int.toNat_of_nonneg ha.1, Int.toNat_of_nonneg hb.1] at h
  exact h
/-- the next lesser part of a set; what a part of a set does to it -/
theorem fys_n : ((List.range 64).all fun f => (List.range 64).all fun g => !(Nat.beq (fyn g f) 0) || (Nat.beq g 0 || (List.range 64).all fun l => !(Nat.beq (fyn l f) 0) || (!(Nat.ble (l + 1) g) || Nat.ble l ((g - 1) &&& f)))) = true := by decide +kernel
theorem fyx_n : ((List.range 64).all fun o => (List.range 64).all fun l => !(Nat.beq (fyn l o) 0) || (Nat.ble (o ^^^ l) o && (Nat.ble l o && Nat.beq (fyn (fyn o l) o) 0))) = true := by decide +kernel
theorem fya_n : ([1, 3, 7, 15, 31, 63].all fun a => (List.range 64).all fun o => !(Nat.ble o a) || (List.range 64).all fun l => !(Nat.ble l a) || (Nat.ble (o ^^^ l) a && (Nat.ble (fyn a o) a && Nat.ble (fyn o l) a))) = true := by decide +kernel
def fyB (A : Int) : Prop := A = 1 ∨ A = 3 ∨ A = 7 ∨ A = 15 ∨ A = 31 ∨ A = 63
theorem fyB_n : ∀ n : Nat, n < 7 → (n = 0 ∨ fyB (zshl 1 (n : Int) - 1)) := by unfold fyB; decide +kernel
theorem fyB_s {n : Int} (h : 1 ≤ n ∧ n ≤ 6) : fyB (zshl 1 n - 1) := by
  have := fyB_n n.toNat (by omega)
  rw [Int.toNat_of_nonneg (by omega)] at this
  rcases this with h1 | h1
  · omega
  · exact h1
theorem fyB_b {A : Int} (h : fyB A) : 1 ≤ A ∧ A ≤ 63 := by unfold fyB at h; omega
theorem fyb {a b : Bool} (h : (!a || b) = true) (ha : a = true) : b = true := by cases a <;> cases b <;> simp_all
theorem fyk {a b : Bool} (h : (a && b) = true) : a = true ∧ b = true := by cases a <;> cases b <;> simp_all
theorem fys {f g l : Int} (hf : 0 ≤ f ∧ f < 64) (hg : 0 ≤ g ∧ g < 64) (hl : 0 ≤ l ∧ l < 64) (g0 : zand g (zxor f (-1)) = 0) (l0 : zand l (zxor f (-1)) = 0) (n0 : ¬ g = 0) (lg : l < g) : l ≤ zand (g - 1) f := by
  rw [(fyz hg hf).2.1] at g0
  rw [(fyz hl hf).2.1] at l0
  rw [(fyz (a := g - 1) (by omega) hf).1]
  have h1 := List.all_eq_true.mp fys_n f.toNat (List.mem_range.mpr (by omega))
  have h2 := List.all_eq_true.mp h1 g.toNat (List.mem_range.mpr (by omega))
  have h3 := fyb h2 (by rw [show fyn g.toNat f.toNat = 0 by omega]; rfl)
  rcases Bool.or_eq_true_iff.mp h3 with h4 | h4
  · have h9 := Nat.eq_of_beq_eq_true h4; omega
  · have h5 := List.all_eq_true.mp h4 l.toNat (List.mem_range.mpr (by omega))
    have h6 := fyb h5 (by rw [show fyn l.toNat f.toNat = 0 by omega]; rfl)
    have h7 := fyb h6 (Nat.ble_eq_true_of_le (by omega))
    have h8 := Nat.le_of_ble_eq_true h7
    rw [show (g - 1).toNat = g.toNat - 1 by omega]
    omega
theorem fyx {o l : Int} (ho : 0 ≤ o ∧ o < 64) (hl : 0 ≤ l ∧ l < 64) (l0 : zand l (zxor o (-1)) = 0) : zxor o l ≤ o ∧ l ≤ o := by
  rw [(fyz hl ho).2.1] at l0
  rw [(fyz ho hl).2.2]
  have h1 := List.all_eq_true.mp fyx_n o.toNat (List.mem_range.mpr (by omega))
  have h2 := List.all_eq_true.mp h1 l.toNat (List.mem_range.mpr (by omega))
  have h3 := fyk (fyb h2 (by rw [show fyn l.toNat o.toNat = 0 by omega]; rfl))
  have h4 := Nat.le_of_ble_eq_true h3.1
  have h5 := Nat.le_of_ble_eq_true (fyk h3.2).1
  omega
theorem fya {A o l : Int} (hA : fyB A) (ho : 0 ≤ o ∧ o ≤ A) (hl : 0 ≤ l ∧ l ≤ A) : (0 ≤ zxor o l ∧ zxor o l ≤ A) ∧ (0 ≤ zand A (zxor o (-1)) ∧ zand A (zxor o (-1)) ≤ A) ∧ (0 ≤ zand o (zxor l (-1)) ∧ zand o (zxor l (-1)) ≤ A) := by
  have hb := fyB_b hA
  rw [(fyz (a := o) (b := l) (by omega) (by omega)).2.2, (fyz (a := A) (b := o) (by omega) (by omega)).2.1, (fyz (a := o) (b := l) (by omega) (by omega)).2.1]
  have h0 := List.all_eq_true.mp fya_n A.toNat (by unfold fyB at hA; rcases hA with h | h | h | h | h | h <;> subst h <;> decide)
  have h1 := List.all_eq_true.mp h0 o.toNat (List.mem_range.mpr (by omega))
  have h2 := fyb h1 (Nat.ble_eq_true_of_le (by omega))
  have h3 := List.all_eq_true.mp h2 l.toNat (List.mem_range.mpr (by omega))
  have h4 := fyk (fyb h3 (Nat.ble_eq_true_of_le (by omega)))
  have h5 := Nat.le_of_ble_eq_true h4.1
  have h6 := Nat.le_of_ble_eq_true (fyk h4.2).1
  have h7 := Nat.le_of_ble_eq_true (fyk h4.2).2
  omega
/-- who stands where the boat is; where a load leads; a load that may go -/
def fyF (A s : Int) : Int := if s < 64 then zand A (zxor (s % 64) (-1)) else s % 64
def fyN (s l : Int) : Int := zxor (s % 64) l + (if s < 64 then 64 else 0)
def fyL (S : Int → Prop) (A b s l : Int) : Prop := (0 ≤ l ∧ l ≤ A) ∧ zand l (zxor (fyF A s) (-1)) = 0 ∧ fyp l ≤ b ∧ S (zand (fyF A s) (zxor l (-1)))
def fyE (S : Int → Prop) (A b s t : Int) : Prop := (0 ≤ s ∧ s < 128 ∧ s % 64 ≤ A) ∧ ∃ l, fyL S A b s l ∧ t = fyN s l
theorem fyF_b {A s : Int} (hA : fyB A) (hs : 0 ≤ s ∧ s < 128 ∧ s % 64 ≤ A) : 0 ≤ fyF A s ∧ fyF A s ≤ A := by
  have hb := fyB_b hA
  unfold fyF
  split
  · exact (fya (l := 0) hA (show 0 ≤ s % 64 ∧ s % 64 ≤ A by omega) (by omega)).2.1
  · omega
theorem fyN_b {A s l : Int} (hA : fyB A) (hs : 0 ≤ s ∧ s < 128 ∧ s % 64 ≤ A) (hl : 0 ≤ l ∧ l ≤ A) : (0 ≤ fyN s l ∧ fyN s l < 128 ∧ fyN s l % 64 ≤ A) ∧ (s < 64 → 64 ≤ fyN s l) ∧ (64 ≤ s → fyN s l < 64) := by
  have hb := fyB_b hA
  have h := (fya hA (show 0 ≤ s % 64 ∧ s % 64 ≤ A by omega) hl).1
  unfold fyN
  split <;> omega
theorem fyE_b {S : Int → Prop} {A b s t : Int} (hA : fyB A) (h : fyE S A b s t) : (0 ≤ t ∧ t < 128 ∧ t % 64 ≤ A) ∧ (s < 64 → 64 ≤ t) ∧ (64 ≤ s → t < 64) := by
  obtain ⟨hs, l, hl, rfl⟩ := h
  exact fyN_b hA hs hl.1
/-- whoever all have come over with, all had come over -/
theorem fyE_A {S : Int → Prop} {A b s : Int} (hA : fyB A) (h : fyE S A b s A) : s = 64 + A := by
  have hb := fyB_b hA
  obtain ⟨hs, l, hl, e⟩ := h
  have h1 := fyN_b hA hs hl.1
  have s1 : ¬ s < 64 := fun z => by have := h1.2.1 z; omega
  have e2 : fyN s l = zxor (s % 64) l := by unfold fyN; rw [if_neg s1]; omega
  have e3 : fyF A s = s % 64 := if_neg s1
  have h2 := fyx (o := s % 64) (l := l) (by omega) (by have := hl.1; omega) (by rw [← e3]; exact hl.2.1)
  omega
theorem fyE_x {S S' : Int → Prop} {A b : Int} (hA : fyB A) (h : ∀ g, 0 ≤ g → g < 64 → (S g ↔ S' g)) {s t : Int} : fyE S A b s t ↔ fyE S' A b s t := by
  have hb := fyB_b hA
  have key : ∀ {X Y : Int → Prop}, (∀ g, 0 ≤ g → g < 64 → (X g ↔ Y g)) → fyE X A b s t → fyE Y A b s t := by
    intro X Y h q
    obtain ⟨hs, l, hl, e⟩ := q
    have f := fyF_b hA hs
    have r := (fya hA f hl.1).2.2
    exact ⟨hs, l, ⟨hl.1, hl.2.1, hl.2.2.1, (h _ r.1 (by omega)).mp hl.2.2.2⟩, e⟩
  exact ⟨key h, key (fun g a c => (h g a c).symm)⟩
/-- reached by so many crossings; by no fewer -/
def fyR (E : Int → Int → Prop) : Nat → Int → Prop
  | 0, s => s = 0
  | k + 1, t => ∃ s, fyR E k s ∧ E s t
def fyD (E : Int → Int → Prop) (d : Nat) (s : Int) : Prop := fyR E d s ∧ ∀ j, j < d → ¬ fyR E j s
theorem fyR_x {E E' : Int → Int → Prop} (h : ∀ s t, E s t ↔ E' s t) : ∀ (k : Nat) (s : Int), fyR E k s ↔ fyR E' k s
  | 0, s => Iff.rfl
  | k + 1, t => ⟨fun ⟨s, a, b⟩ => ⟨s, (fyR_x h k s).mp a, (h s t).mp b⟩, fun ⟨s, a, b⟩ => ⟨s, (fyR_x h k s).mpr a, (h s t).mpr b⟩⟩
theorem fyD_x {E E' : Int → Int → Prop} (h : ∀ s t, E s t ↔ E' s t) (d : Nat) (s : Int) : fyD E d s ↔ fyD E' d s :=
  ⟨fun q => ⟨(fyR_x h d s).mp q.1, fun j a b => q.2 j a ((fyR_x h j s).mpr b)⟩, fun q => ⟨(fyR_x h d s).mpr q.1, fun j a b => q.2 j a ((fyR_x h j s).mp b)⟩⟩
theorem fyD_u {E : Int → Int → Prop} {d d' : Nat} {s : Int} (a : fyD E d s) (b : fyD E d' s) : d = d' := by
  rcases Nat.lt_trichotomy d d' with c | c | c
  · exact absurd a.1 (b.2 d c)
  · exact c
  · exact absurd b.1 (a.2 d' c)
theorem fyD_e {E : Int → Int → Prop} : ∀ (n k : Nat) (s : Int), k < n → fyR E k s → ∃ d, d ≤ k ∧ fyD E d s
  | 0, k, s, h, _ => absurd h (Nat.not_lt_zero _)
  | n + 1, k, s, h, r => by
    by_cases q : ∃ j, j < k ∧ fyR E j s
    · obtain ⟨j, j1, j2⟩ := q
      obtain ⟨d, d1, d2⟩ := fyD_e n j s (by omega) j2
      exact ⟨d, by omega, d2⟩
    · exact ⟨k, Nat.le_refl k, r, fun j a b => q ⟨j, a, b⟩⟩
theorem fyD_0 {E : Int → Int → Prop} : fyD E 0 0 := ⟨rfl, fun j a => absurd a (Nat.not_lt_zero _)⟩
/-- how many are not reached -/
def fyK (c : Int → Int) : Nat → Int
  | 0 => 0
  | n + 1 => fyK c n + (if c n = -1 then 1 else 0)
theorem fyK_0 (c : Int → Int) : ∀ n, 0 ≤ fyK c n
  | 0 => Int.le_refl 0
  | n + 1 => by
    have := fyK_0 c n
    show 0 ≤ fyK c n + (if c n = -1 then 1 else 0)
    split <;> omega
theorem fyK_f {c : Int → Int} (h : ∀ i : Int, 0 ≤ i → i < 128 → c i = -1) : ∀ n : Nat, n ≤ 128 → fyK c n = n
  | 0, _ => rfl
  | n + 1, q => by
    show fyK c n + (if c n = -1 then 1 else 0) = _
    rw [fyK_f h n (by omega), if_pos (h n (by omega) (by omega))]
    omega
theorem fyK_w {c c' : Int → Int} {t : Int} (h : ∀ s, ¬ s = t → c' s = c s) (ht : c t = -1) (ht' : ¬ c' t = -1) : ∀ n : Nat, fyK c' n = fyK c n - (if 0 ≤ t ∧ t < n then 1 else 0)
  | 0 => by
    show (0 : Int) = 0 - (if 0 ≤ t ∧ t < ((0 : Nat) : Int) then 1 else 0)
    rw [if_neg (by omega)]; rfl
  | n + 1 => by
    show fyK c' n + (if c' n = -1 then 1 else 0) = fyK c n + (if c n = -1 then 1 else 0) - (if 0 ≤ t ∧ t < ((n + 1 : Nat) : Int) then 1 else 0)
    rw [fyK_w h ht ht' n]
    by_cases q : (n : Int) = t
    · rw [q, if_neg ht', if_pos ht, if_neg (by omega), if_pos (by omega)]; omega
    · rw [h n q]
      by_cases r : 0 ≤ t ∧ t < (n : Int)
      · rw [if_pos r, if_pos (show 0 ≤ t ∧ t < ((n + 1 : Nat) : Int) by omega)]; omega
      · rw [if_neg r, if_neg (show ¬ (0 ≤ t ∧ t < ((n + 1 : Nat) : Int)) by omega)]; omega
theorem fyK_p {c : Int → Int} {t : Int} (ht : c t = -1) : ∀ n : Nat, 0 ≤ t ∧ t < n → 1 ≤ fyK c n
  | 0, h => absurd h (by omega)
  | n + 1, h => by
    show 1 ≤ fyK c n + (if c n = -1 then 1 else 0)
    by_cases q : (n : Int) = t
    · rw [q, if_pos ht]
      have := fyK_0 c n
      omega
    · have := fyK_p ht n (by omega)
      split <;> omega
/-- the class: a queue, and by how many crossings -/
def fyQ (E : Int → Int → Prop) (q c : Int → Int) (hd tl : Int) : Prop :=
  (∀ i, 0 ≤ i → i < tl → (0 ≤ q i ∧ q i < 128) ∧ (0 ≤ c (q i) ∧ c (q i) ≤ i) ∧ fyD E (c (q i)).toNat (q i)) ∧
  (∀ s, 0 ≤ s → s < 128 → ¬ c s = -1 → ∃ i, 0 ≤ i ∧ i < tl ∧ q i = s) ∧
  (∀ i j, 0 ≤ i → i ≤ j → j < tl → c (q i) ≤ c (q j)) ∧
  (∀ j, 0 ≤ j → j < tl → hd < tl → c (q j) ≤ c (q hd) + 1) ∧
  (∀ i t, 0 ≤ i → i < hd → i < tl → E (q i) t → ¬ c t = -1) ∧
  (q 0 = 0 ∧ 1 ≤ tl) ∧
  (∀ i, 1 ≤ i → i < tl → ∃ k, 0 ≤ k ∧ k < i ∧ E (q k) (q i)) ∧
  fyK c 128 + tl = 128
section FYQ
variable {E : Int → Int → Prop} {q c : Int → Int} {hd tl : Int}
theorem fyQ_6 (hE : ∀ s t, E s t → 0 ≤ t ∧ t < 128) (Q : fyQ E q c hd tl) (h0 : 0 ≤ hd) (h : hd < tl) : ∀ (j : Nat) (s : Int), fyR E j s → (j : Int) < c (q hd) → ∃ i, 0 ≤ i ∧ i < hd ∧ q i = s
  | 0, s, r, hj => by
    obtain ⟨Q1, Q2, Q3, Q4, Q5, Q6, Q7, Q8⟩ := Q
    have r0 : s = 0 := r
    by_cases z : hd = 0
    · have a := (Q1 hd h0 h).2.1
      omega
    · exact ⟨0, Int.le_refl 0, by omega, by rw [Q6.1, r0]⟩
  | j + 1, t, r, hj => by
    obtain ⟨s, r1, r2⟩ := r
    obtain ⟨i, i0, i1, i2⟩ := fyQ_6 hE Q h0 h j s r1 (by omega)
    obtain ⟨Q1, Q2, Q3, Q4, Q5, Q6, Q7, Q8⟩ := Q
    have tb := hE s t r2
    obtain ⟨k, k0, k1, k2⟩ := Q2 t tb.1 tb.2 (Q5 i t i0 i1 (by omega) (by rw [i2]; exact r2))
    refine ⟨k, k0, ?_, k2⟩
    by_cases z : k < hd
    · exact z
    · have m := Q3 hd k h0 (by omega) k1
      have d := (Q1 k k0 k1).2
      have d2 : ¬ (j + 1 < (c (q k)).toNat) := fun w => d.2.2 (j + 1) w (by rw [k2]; exact ⟨s, r1, r2⟩)
      omega
theorem fyQ_new (hE : ∀ s t, E s t → 0 ≤ t ∧ t < 128) (Q : fyQ E q c hd tl) (h0 : 0 ≤ hd) (h : hd < tl) {t : Int} (e : E (q hd) t) (ct : c t = -1) : tl ≤ 127 ∧ fyD E (c (q hd) + 1).toNat t := by
  have q6 := fyQ_6 hE Q h0 h
  obtain ⟨Q1, Q2, Q3, Q4, Q5, Q6, Q7, Q8⟩ := Q
  have tb := hE _ t e
  have k := fyK_p ct 128 (by omega)
  have d := Q1 hd h0 h
  refine ⟨by omega, ?_, fun j hj r => ?_⟩
  · rw [show (c (q hd) + 1).toNat = (c (q hd)).toNat + 1 by omega]
    exact ⟨q hd, d.2.2.1, e⟩
  · cases j with
    | zero =>
      have r0 : t = 0 := r
      have d0 := (Q1 0 (Int.le_refl 0) (by omega)).2.1
      rw [Q6.1, ← r0, ct] at d0
      omega
    | succ j =>
      obtain ⟨s, r1, r2⟩ := r
      obtain ⟨i, i0, i1, i2⟩ := q6 j s r1 (by omega)
      exact Q5 i t i0 i1 (by omega) (by rw [i2]; exact r2) ct
theorem fyQ_s (hE : ∀ s t, E s t → 0 ≤ t ∧ t < 128) (Q : fyQ E q c hd tl) (h0 : 0 ≤ hd) (h : hd < tl) {t : Int} (e : E (q hd) t) (ct : c t = -1) {q' c' : Int → Int} (cv : c' t = c (q hd) + 1) (cr : ∀ s, ¬ s = t → c' s = c s) (qv : q' tl = t) (qr : ∀ i, ¬ i = tl → q' i = q i) : fyQ E q' c' hd (tl + 1) := by
  have nw := fyQ_new hE Q h0 h e ct
  obtain ⟨Q1, Q2, Q3, Q4, Q5, Q6, Q7, Q8⟩ := Q
  have tb := hE _ t e
  have dh := Q1 hd h0 h
  have ne : ∀ i, 0 ≤ i → i < tl → ¬ q i = t := fun i a b z => by
    have := (Q1 i a b).2.1
    rw [z, ct] at this
    omega
  have o : ∀ i, 0 ≤ i → i < tl → c' (q' i) = c (q i) ∧ q' i = q i := fun i a b => by
    rw [qr i (by omega)]
    exact ⟨cr _ (ne i a b), rfl⟩
  have cn : ∀ s, ¬ c s = -1 → ¬ c' s = -1 := fun s z => by
    by_cases w : s = t
    · rw [w] at z; exact absurd ct z
    · rw [cr s w]; exact z
  have lt : c' (q' tl) = c (q hd) + 1 := by rw [qv]; exact cv
  refine ⟨fun i a b => ?_, fun s a b z => ?_, fun i j a b d => ?_, fun j a b d => ?_, fun i s a b d z => ?_, ⟨by rw [(o 0 (Int.le_refl 0) (by omega)).2]; exact Q6.1, by omega⟩, fun i a b => ?_, ?_⟩
  · by_cases w : i = tl
    · subst w
      rw [lt, qv]
      exact ⟨tb, by omega, nw.2⟩
    · have := o i a (by omega)
      rw [this.1, this.2]
      exact Q1 i a (by omega)
  · by_cases w : s = t
    · exact ⟨tl, by omega, by omega, by rw [qv, w]⟩
    · rw [cr s w] at z
      obtain ⟨i, i0, i1, i2⟩ := Q2 s a b z
      exact ⟨i, i0, by omega, by rw [(o i i0 i1).2, i2]⟩
  · by_cases w : j = tl
    · rw [w, lt]
      by_cases v : i = tl
      · rw [v, lt]; omega
      · rw [(o i a (by omega)).1]
        exact Q4 i a (by omega) h
    · rw [(o i a (by omega)).1, (o j (by omega) (by omega)).1]
      exact Q3 i j a b (by omega)
  · rw [(o hd h0 h).1]
    by_cases w : j = tl
    · rw [w, lt]; omega
    · rw [(o j a (by omega)).1]
      exact Q4 j a (by omega) h
  · rw [(o i a (by omega)).2] at z
    exact cn s (Q5 i s a b (by omega) z)
  · by_cases w : i = tl
    · exact ⟨hd, h0, by omega, by rw [w, qv, (o hd h0 h).2]; exact e⟩
    · obtain ⟨k, k0, k1, k2⟩ := Q7 i a (by omega)
      exact ⟨k, k0, k1, by rw [(o k k0 (by omega)).2, (o i (by omega) (by omega)).2]; exact k2⟩
  · rw [fyK_w cr ct (by omega) 128, if_pos (show 0 ≤ t ∧ t < ((128 : Nat) : Int) by omega)]
    omega
theorem fyQ_n (Q : fyQ E q c hd tl) (h0 : 0 ≤ hd) (h : hd < tl) (a : ∀ t, E (q hd) t → ¬ c t = -1) : fyQ E q c (hd + 1) tl := by
  obtain ⟨Q1, Q2, Q3, Q4, Q5, Q6, Q7, Q8⟩ := Q
  refine ⟨Q1, Q2, Q3, fun j a b d => ?_, fun i t i0 i1 i2 e => ?_, Q6, Q7, Q8⟩
  · have m := Q3 hd (hd + 1) h0 (by omega) d
    have n := Q4 j a b h
    omega
  · by_cases w : i = hd
    · rw [w] at e; exact a t e
    · exact Q5 i t i0 (by omega) i2 e
theorem fyQ_e (hE : ∀ s t, E s t → 0 ≤ t ∧ t < 128) (Q : fyQ E q c hd tl) (h : tl ≤ hd) : ∀ (k : Nat) (s : Int), fyR E k s → ∃ i, 0 ≤ i ∧ i < tl ∧ q i = s
  | 0, s, r => by
    have r0 : s = 0 := r
    have Q6 := Q.2.2.2.2.2.1
    exact ⟨0, Int.le_refl 0, by omega, by rw [Q6.1, r0]⟩
  | k + 1, t, r => by
    obtain ⟨s, r1, r2⟩ := r
    obtain ⟨i, i0, i1, i2⟩ := fyQ_e hE Q h k s r1
    have tb := hE s t r2
    exact Q.2.1 t tb.1 tb.2 (Q.2.2.2.2.1 i t i0 (by omega) i1 (by rw [i2]; exact r2))
theorem fyQ_0 (h0 : q 0 = 0) (c0 : c 0 = 0) (cr : ∀ s, 0 ≤ s → s < 128 → ¬ s = 0 → c s = -1) (k : fyK c 128 = 127) : fyQ E q c 0 1 := by
  refine ⟨fun i a b => ?_, fun s a b z => ?_, fun i j a b d => ?_, fun j a b d => ?_, fun i t a b => absurd b (by omega), ⟨h0, Int.le_refl 1⟩, fun i a b => absurd b (by omega), by omega⟩
  · rw [show i = 0 by omega, h0, c0]
    exact ⟨by decide, by decide, fyD_0⟩
  · by_cases w : s = 0
    · exact ⟨0, by decide, by decide, by rw [h0, w]⟩
    · exact absurd (cr s a b w) z
  · rw [show i = 0 by omega, show j = 0 by omega]; exact Int.le_refl _
  · rw [show j = 0 by omega]; omega
end FYQ
/-- what is answered -/
def fyA (E : Int → Int → Prop) (T v : Int) : Prop := (∃ d : Nat, d ≤ 127 ∧ fyD E d T ∧ v = d) ∨ (v = -1 ∧ ∀ d, ¬ fyD E d T)
def fyA2 (E : Int → Int → Prop) (T v : Int) : Prop := (∃ d : Nat, d ≤ 128 ∧ fyD E d T ∧ v = d) ∨ (v = -1 ∧ ∀ d, d ≤ 128 → ¬ fyD E d T)
theorem fyA_u {E E' : Int → Int → Prop} {T v v' : Int} (h : ∀ s t, E s t ↔ E' s t) (a : fyA E T v) (b : fyA2 E' T v') : v = v' := by
  rcases a with ⟨d, d1, d2, d3⟩ | ⟨a1, a2⟩
  · have d2' := (fyD_x h d T).mp d2
    rcases b with ⟨d', e1, e2, e3⟩ | ⟨b1, b2⟩
    · have := fyD_u d2' e2
      omega
    · exact absurd d2' (b2 d (by omega))
  · rcases b with ⟨d', e1, e2, e3⟩ | ⟨b1, b2⟩
    · exact absurd ((fyD_x h d' T).mpr e2) (a2 d')
    · omega
/-- the class: found; none left -/
theorem fyA_y {S : Int → Prop} {A b : Int} {q c : Int → Int} {hd tl : Int} (hA : fyB A) (Q : fyQ (fyE S A b) q c hd tl) (h0 : 0 ≤ hd) (h1 : hd ≤ 127) (h : hd < tl) (e : q hd % 64 = A) (n : ∀ i, 0 ≤ i → i < hd → ¬ q i % 64 = A) : fyA (fyE S A b) (64 + A) (c (q hd)) := by
  have hb := fyB_b hA
  obtain ⟨Q1, Q2, Q3, Q4, Q5, Q6, Q7, Q8⟩ := Q
  have d := Q1 hd h0 h
  have T : q hd = 64 + A := by
    by_cases z : q hd < 64
    · have zA : q hd = A := by omega
      have z0 : ¬ hd = 0 := fun w => by rw [w, Q6.1] at zA; omega
      obtain ⟨k, k0, k1, k2⟩ := Q7 hd (by omega) h
      rw [zA] at k2
      have := fyE_A hA k2
      exact absurd (show q k % 64 = A by omega) (n k k0 k1)
    · omega
  refine Or.inl ⟨(c (q hd)).toNat, by omega, ?_, by omega⟩
  rw [← T]
  exact d.2.2
theorem fyA_n {S : Int → Prop} {A b : Int} {q c : Int → Int} {hd tl : Int} (hA : fyB A) (Q : fyQ (fyE S A b) q c hd tl) (h : tl ≤ hd) (n : ∀ i, 0 ≤ i → i < hd → ¬ q i % 64 = A) : fyA (fyE S A b) (64 + A) (-1) := by
  have hb := fyB_b hA
  refine Or.inr ⟨rfl, fun d r => ?_⟩
  obtain ⟨i, i0, i1, i2⟩ := fyQ_e (fun s t e => by have := fyE_b hA e; omega) Q h d _ r.1
  exact n i i0 (by omega) (by rw [i2]; omega)
/-- the loads that were gone through -/
def fyP (S : Int → Prop) (A b : Int) (c : Int → Int) (s m : Int) : Prop := ∀ l, l < m → fyL S A b s l → ¬ c (fyN s l) = -1
theorem fyP_0 {S : Int → Prop} {A b : Int} {c : Int → Int} {s : Int} : fyP S A b c s 0 := fun l a b => absurd b.1.1 (by omega)
theorem fyP_s {S : Int → Prop} {A b : Int} {c : Int → Int} {s m : Int} (p : fyP S A b c s m) (h : fyL S A b s m → ¬ c (fyN s m) = -1) : fyP S A b c s (m + 1) := fun l a e => by
  by_cases w : l = m
  · rw [w] at e ⊢; exact h e
  · exact p l (by omega) e
theorem fyP_w {S : Int → Prop} {A b : Int} {c c' : Int → Int} {s m t : Int} (p : fyP S A b c s m) (cr : ∀ s, ¬ s = t → c' s = c s) (cv : ¬ c' t = -1) : fyP S A b c' s m := fun l a e => by
  by_cases w : fyN s l = t
  · rw [w]; exact cv
  · rw [cr _ w]; exact p l a e
theorem fyP_e {S : Int → Prop} {A b : Int} {c : Int → Int} {s m : Int} (p : fyP S A b c s m) (h : A < m) : ∀ t, fyE S A b s t → ¬ c t = -1 := fun t e => by
  obtain ⟨_, l, e1, e2⟩ := e
  rw [e2]
  exact p l (by have := e1.1; omega) e1
/-- the reference: level by level -/
def fyJ (E : Int → Int → Prop) (x : Int → Int) (k m : Int) : Prop :=
  (∀ s, 0 ≤ s → s < 128 → ¬ x s = 100000000 → (0 ≤ x s ∧ x s ≤ m) ∧ fyD E (x s).toNat s) ∧ (∀ (d : Nat) s, (d : Int) ≤ k → fyD E d s → x s = d)
theorem fyJ_m {E : Int → Int → Prop} {x : Int → Int} {k m m' : Int} (J : fyJ E x k m) (h : m ≤ m') : fyJ E x k m' := ⟨fun s a b z => by have := J.1 s a b z; exact ⟨by omega, this.2⟩, J.2⟩
theorem fyJ_0 {E : Int → Int → Prop} {x : Int → Int} (x0 : x 0 = 0) (xr : ∀ s, 0 ≤ s → s < 128 → ¬ s = 0 → x s = 100000000) : fyJ E x 0 0 := by
  refine ⟨fun s a b z => ?_, fun d s a e => ?_⟩
  · have s0 : s = 0 := by
      by_cases w : s = 0
      · exact w
      · exact absurd (xr s a b w) z
    rw [s0, x0]
    exact ⟨by decide, fyD_0⟩
  · have d0 : d = 0 := by omega
    subst d0
    have e0 : s = 0 := e.1
    rw [e0, x0]; rfl
theorem fyJ_s {E : Int → Int → Prop} (hE : ∀ s t, E s t → 0 ≤ t ∧ t < 128) {x x' : Int → Int} {k s t : Int} (k0 : 0 ≤ k) (J : fyJ E x k (k + 1)) (sb : 0 ≤ s ∧ s < 128) (hs : x s = k) (e : E s t) (xt : x t = 100000000) (k1 : k ≤ 1000) (xv : x' t = k + 1) (xr : ∀ s, ¬ s = t → x' s = x s) : fyJ E x' k (k + 1) := by
  obtain ⟨J1, J2⟩ := J
  have tb := hE s t e
  have ds := (J1 s sb.1 sb.2 (by omega)).2
  rw [hs] at ds
  have nt : ∀ (d : Nat), (d : Int) ≤ k → ¬ fyD E d t := fun d a z => by
    have := J2 d t a z
    omega
  refine ⟨fun u a b z => ?_, fun d u a z => ?_⟩
  · by_cases w : u = t
    · rw [w, xv]
      refine ⟨by omega, ?_, fun j hj r => ?_⟩
      · rw [show (k + 1).toNat = k.toNat + 1 by omega]
        exact ⟨s, ds.1, e⟩
      · obtain ⟨d, d1, d2⟩ := fyD_e (j + 1) j t (Nat.lt_succ_self j) r
        exact nt d (by omega) d2
    · rw [xr u w] at z ⊢
      exact J1 u a b z
  · by_cases w : u = t
    · rw [w] at z; exact absurd z (nt d a)
    · rw [xr u w]; exact J2 d u a z
/-- all that can be reached from level k was found -/
theorem fyJ_n {E : Int → Int → Prop} (hE : ∀ s t, E s t → 0 ≤ t ∧ t < 128) {x : Int → Int} {k : Int} (k0 : 0 ≤ k) (J : fyJ E x k (k + 1)) (a : ∀ s t, x s = k → E s t → ¬ x t = 100000000) : fyJ E x (k + 1) (k + 1) := by
  obtain ⟨J1, J2⟩ := J
  refine ⟨J1, fun d t b e => ?_⟩
  by_cases w : (d : Int) ≤ k
  · exact J2 d t w e
  · have dk : d = k.toNat + 1 := by omega
    subst dk
    obtain ⟨s, r1, r2⟩ := e.1
    have ds : fyD E k.toNat s := ⟨r1, fun j hj r => e.2 (j + 1) (by omega) ⟨s, r, r2⟩⟩
    have xs := J2 k.toNat s (by omega) ds
    have tb := hE s t r2
    have xt := a s t (by omega) r2
    have dt := J1 t tb.1 tb.2 xt
    have := fyD_u dt.2 e
    omega
theorem fyR_p {S : Int → Prop} {A b : Int} (hA : fyB A) : ∀ (k : Nat) (s : Int), fyR (fyE S A b) k s → (0 ≤ s ∧ s < 128 ∧ s % 64 ≤ A) ∧ (k % 2 = 0 → s < 64) ∧ (k % 2 = 1 → 64 ≤ s)
  | 0, s, r => by
    have hb := fyB_b hA
    have r0 : s = 0 := r
    omega
  | k + 1, t, r => by
    obtain ⟨s, r1, r2⟩ := r
    have h := fyR_p hA k s r1
    have e := fyE_b hA r2
    omega
/-- loads of one state, from the greatest down; states of one level -/
def fyM (S : Int → Prop) (A b : Int) (x : Int → Int) (s g : Int) : Prop := ∀ l, g < l → fyL S A b s l → ¬ x (fyN s l) = 100000000
def fyO (S : Int → Prop) (A b : Int) (x : Int → Int) (k o : Int) : Prop := ∀ s t, x s = k → s % 64 < o → fyE S A b s t → ¬ x t = 100000000
theorem fyO_0 {S : Int → Prop} {A b : Int} {x : Int → Int} {k : Int} : fyO S A b x k 0 := fun s t _ a e => by have := e.1; omega
theorem fyM_0 {S : Int → Prop} {A b : Int} {x : Int → Int} {s : Int} (hA : fyB A) (hs : 0 ≤ s ∧ s < 128 ∧ s % 64 ≤ A) : fyM S A b x s (fyF A s) := fun l a e => by
  have hb := fyB_b hA
  have f := fyF_b hA hs
  have := (fyx (o := fyF A s) (l := l) (by omega) (by have := e.1; omega) e.2.1).2
  omega
theorem fyM_w {S : Int → Prop} {A b : Int} {x x' : Int → Int} {s g t : Int} (p : fyM S A b x s g) (xr : ∀ s, ¬ s = t → x' s = x s) (xv : ¬ x' t = 100000000) : fyM S A b x' s g := fun l a e => by
  by_cases w : fyN s l = t
  · rw [w]; exact xv
  · rw [xr _ w]; exact p l a e
theorem fyM_z {S : Int → Prop} {A b : Int} {x : Int → Int} {s : Int} (p : fyM S A b x s 0) (h : fyL S A b s 0 → ¬ x (fyN s 0) = 100000000) : fyM S A b x s (-1) := fun l a e => by
  by_cases w : l = 0
  · rw [w] at e ⊢; exact h e
  · exact p l (by omega) e
theorem fyM_s {S : Int → Prop} {A b : Int} {x : Int → Int} {s g : Int} (hA : fyB A) (hs : 0 ≤ s ∧ s < 128 ∧ s % 64 ≤ A) (p : fyM S A b x s g) (hg : 1 ≤ g ∧ g < 64) (g0 : zand g (zxor (fyF A s) (-1)) = 0) (h : fyL S A b s g → ¬ x (fyN s g) = 100000000) : fyM S A b x s (zand (g - 1) (fyF A s)) := fun l a e => by
  have hb := fyB_b hA
  have f := fyF_b hA hs
  by_cases w : l = g
  · rw [w] at e ⊢; exact h e
  · by_cases v : l < g
    · have := fys (f := fyF A s) (g := g) (l := l) (by omega) (by omega) (by have := e.1; omega) g0 e.2.1 (by omega) v
      omega
    · exact p l (by omega) e
theorem fyg {f g : Int} (hf : 0 ≤ f ∧ f < 64) (hg : 1 ≤ g ∧ g < 64) : (0 ≤ zand (g - 1) f ∧ zand (g - 1) f < g) ∧ zand (zand (g - 1) f) (zxor f (-1)) = 0 := by
  have z := (fyz (a := g - 1) (b := f) (by omega) hf).1
  have le : (g - 1).toNat &&& f.toNat ≤ (g - 1).toNat := Nat.and_le_left
  rw [z, (fyz (a := (((g - 1).toNat &&& f.toNat : Nat) : Int)) (b := f) (by omega) hf).2.1]
  refine ⟨by omega, ?_⟩
  rw [Int.toNat_natCast]
  unfold fyn
  rw [Nat.and_assoc, Nat.and_self]
  omega
theorem fyz_0 {f : Int} (hf : 0 ≤ f ∧ f < 64) : zand f (zxor f (-1)) = 0 := by
  rw [(fyz hf hf).2.1]
  unfold fyn
  rw [Nat.and_self]
  omega
theorem fyO_w {S : Int → Prop} {A b : Int} {x x' : Int → Int} {k o t : Int} (p : fyO S A b x k o) (k1 : ¬ x' t = k) (xr : ∀ s, ¬ s = t → x' s = x s) (xv : ¬ x' t = 100000000) : fyO S A b x' k o := fun s u a c e => by
  have ns : ¬ s = t := fun w => by rw [w] at a; exact k1 a
  rw [xr s ns] at a
  by_cases w : u = t
  · rw [w]; exact xv
  · rw [xr u w]; exact p s u a c e
/-- one more state of the level is done: the one on the level's side; the other side's is not of the level -/
theorem fyO_s {S : Int → Prop} {A b : Int} {x : Int → Int} {k o s0 : Int} (p : fyO S A b x k o) (h : ∀ s t, x s = k → s % 64 = o → fyE S A b s t → s = s0 → ¬ x t = 100000000) (u : ∀ s t, x s = k → s % 64 = o → fyE S A b s t → s = s0) : fyO S A b x k (o + 1) := fun s t a c e => by
  by_cases w : s % 64 = o
  · exact h s t a w e (u s t a w e)
  · exact p s t a (by omega) e
theorem fyM_e {S : Int → Prop} {A b : Int} {x : Int → Int} {s g : Int} (p : fyM S A b x s g) (h : g < 0) : ∀ t, fyE S A b s t → ¬ x t = 100000000 := fun t e => by
  obtain ⟨_, l, e1, e2⟩ := e
  rw [e2]
  exact p l (by have := e1.1; omega) e1
/-- who stands at level k stands on its side -/
theorem fyJ_p {S : Int → Prop} {A b : Int} (hA : fyB A) {x : Int → Int} {k : Int} (k0 : 0 ≤ k ∧ k ≤ 1000) (J : fyJ (fyE S A b) x k (k + 1)) {s : Int} (hs : 0 ≤ s ∧ s < 128) (a : x s = k) : s = 64 * (k % 2) + s % 64 ∧ s % 64 ≤ A := by
  have d := (J.1 s hs.1 hs.2 (by omega)).2
  rw [a] at d
  have r := fyR_p hA _ _ d.1
  have e : ((k.toNat % 2 : Nat) : Int) = k % 2 := by omega
  omega
theorem fyA2_e {E : Int → Int → Prop} {x : Int → Int} {T v : Int} (hT : 0 ≤ T ∧ T < 128) (J : fyJ E x 128 128) (h1 : x T = 100000000 → v = -1) (h2 : ¬ x T = 100000000 → v = x T) : fyA2 E T v := by
  by_cases z : x T = 100000000
  · refine Or.inr ⟨h1 z, fun d a e => ?_⟩
    have := J.2 d T (by omega) e
    omega
  · have h := J.1 T hT.1 hT.2 z
    have hv := h2 z
    exact Or.inl ⟨(x T).toNat, by omega, h.2, by omega⟩
/-- the end of a level: every state of it was gone through -/
theorem fyO_e {S : Int → Prop} {A b : Int} {x : Int → Int} {k o : Int} (p : fyO S A b x k o) (h : A < o) : ∀ s t, x s = k → fyE S A b s t → ¬ x t = 100000000 := fun s t a e => p s t a (by have := e.1; omega) e
theorem fyF_0 {A o s : Int} (h : s < 64) (e : s % 64 = o) : zand A (zxor o (-1)) = fyF A s := by unfold fyF; rw [if_pos h, e]
theorem fyF_1 {A o s : Int} (h : 64 ≤ s) (e : s % 64 = o) : o = fyF A s := by unfold fyF; rw [if_neg (by omega), e]
theorem fyN_e {s l o t : Int} (e : s % 64 = o) (h : (s < 64 ∧ t = zxor o l + 64) ∨ (64 ≤ s ∧ t = zxor o l)) : fyN s l = t := by
  unfold fyN
  rw [e]
  rcases h with ⟨a, b⟩ | ⟨a, b⟩
  · rw [if_pos a]; exact b.symm
  · rw [if_neg (by omega)]; omega
/-- couples: as pairs, and of each with whom he can't be left alone -/
def fyC (P : Int → Int) (n g : Int) : Prop := ∀ i, 0 ≤ i → i < n → ¬ zand g (P i) = P i
def fyG (N : Int → Int) (g : Int) : Prop := ∀ k, 0 ≤ k → k < 6 → zand (zshr g k) 1 = 1 → zand (N k) g = 0
def fyS (P : Int → Int) (n : Int) (N : Int → Int) : Prop := ∀ g, 0 ≤ g → g < 64 → (fyC P n g ↔ fyG N g)
theorem fyi_0 (z : Int32) : z.toInt = 0 ↔ z.toBitVec.toNat = 0 := by
  constructor
  · intro h
    have e : z = Int32.ofInt 0 := Int32.toInt_inj.mp (by rw [h]; rfl)
    rw [e]; rfl
  · intro h
    exact zb_nat h (by decide)
theorem fyo (x y g : Int) : zand (zor x y) g = 0 ↔ zand x g = 0 ∧ zand y g = 0 := by
  have e : zand (zor x y) g = ((Int32.ofInt x ||| Int32.ofInt y) &&& Int32.ofInt g).toInt := by
    show (Int32.ofInt (Int32.ofInt x ||| Int32.ofInt y).toInt &&& Int32.ofInt g).toInt = _
    rw [Int32.ofInt_toInt]
  rw [e, fyi_0]
  show _ ↔ (Int32.ofInt x &&& Int32.ofInt g).toInt = 0 ∧ (Int32.ofInt y &&& Int32.ofInt g).toInt = 0
  rw [fyi_0, fyi_0, Int32.toBitVec_and, Int32.toBitVec_and, Int32.toBitVec_and, Int32.toBitVec_or, BitVec.toNat_and, BitVec.toNat_and, BitVec.toNat_and, BitVec.toNat_or, Nat.and_or_distrib_right, Nat.or_eq_zero_iff]
theorem fyv_n : ∀ g : Nat, g < 64 → ∀ a : Nat, a < 6 → (zand (zshl 1 (a : Int)) (g : Int) = 0 ↔ ¬ zand (zshr (g : Int) (a : Int)) 1 = 1) := by decide +kernel
theorem fyw_n : ∀ g : Nat, g < 64 → ∀ a : Nat, a < 6 → ∀ b : Nat, b < 6 → (zand (g : Int) (zor (zshl 1 (a : Int)) (zshl 1 (b : Int))) = zor (zshl 1 (a : Int)) (zshl 1 (b : Int)) ↔ (zand (zshr (g : Int) (a : Int)) 1 = 1 ∧ zand (zshr (g : Int) (b : Int)) 1 = 1)) := by decide +kernel
theorem fyv {g a : Int} (hg : 0 ≤ g ∧ g < 64) (ha : 0 ≤ a ∧ a ≤ 5) : zand (zshl 1 a) g = 0 ↔ ¬ zand (zshr g a) 1 = 1 := by
  have h := fyv_n g.toNat (by omega) a.toNat (by omega)
  rw [Int.toNat_of_nonneg hg.1, Int.toNat_of_nonneg ha.1] at h
  exact h
theorem fyw {g a b : Int} (hg : 0 ≤ g ∧ g < 64) (ha : 0 ≤ a ∧ a ≤ 5) (hb : 0 ≤ b ∧ b ≤ 5) : zand g (zor (zshl 1 a) (zshl 1 b)) = zor (zshl 1 a) (zshl 1 b) ↔ (zand (zshr g a) 1 = 1 ∧ zand (zshr g b) 1 = 1) := by
  have h := fyw_n g.toNat (by omega) a.toNat (by omega) b.toNat (by omega)
  rw [Int.toNat_of_nonneg hg.1, Int.toNat_of_nonneg ha.1, Int.toNat_of_nonneg hb.1] at h
  exact h
/-- what couple does to the reference's row -/
def fyU (N N' : Int → Int) (v a b : Int) : Prop := (v = 0 → ∀ k, 0 ≤ k → k < 6 → N' k = 0) ∧ (v < 0 → ∀ k, N' k = N k) ∧ (1 ≤ v → ∀ k, N' k = if k = a then zor (N a) (zshl 1 b) else if k = b then zor (N b) (zshl 1 a) else N k)
theorem fyG_s {N N' : Int → Int} {a b g : Int} (ha : 0 ≤ a ∧ a ≤ 5) (hb : 0 ≤ b ∧ b ≤ 5) (hab : ¬ a = b) (hg : 0 ≤ g ∧ g < 64) (h : ∀ k, N' k = if k = a then zor (N a) (zshl 1 b) else if k = b then zor (N b) (zshl 1 a) else N k) : fyG N' g ↔ (fyG N g ∧ ¬ (zand (zshr g a) 1 = 1 ∧ zand (zshr g b) 1 = 1)) := by
  have na : N' a = zor (N a) (zshl 1 b) := by rw [h a, if_pos rfl]
  have nb : N' b = zor (N b) (zshl 1 a) := by rw [h b, if_neg (fun z => hab z.symm), if_pos rfl]
  have no : ∀ k, ¬ k = a → ¬ k = b → N' k = N k := fun k x y => by rw [h k, if_neg x, if_neg y]
  constructor
  · intro G
    refine ⟨fun k k0 k1 kb => ?_, fun z => ?_⟩
    · have gk := G k k0 k1 kb
      by_cases x : k = a
      · rw [x] at gk ⊢; rw [na] at gk; exact ((fyo _ _ _).mp gk).1
      · by_cases y : k = b
        · rw [y] at gk ⊢; rw [nb] at gk; exact ((fyo _ _ _).mp gk).1
        · rw [no k x y] at gk; exact gk
    · have gk := G a ha.1 (by omega) z.1
      rw [na] at gk
      exact (fyv hg hb).mp ((fyo _ _ _).mp gk).2 z.2
  · intro G k k0 k1 kb
    by_cases x : k = a
    · rw [x] at kb ⊢
      rw [na]
      exact (fyo _ _ _).mpr ⟨G.1 a ha.1 (by omega) kb, (fyv hg hb).mpr (fun z => G.2 ⟨kb, z⟩)⟩
    · by_cases y : k = b
      · rw [y] at kb ⊢
        rw [nb]
        exact (fyo _ _ _).mpr ⟨G.1 b hb.1 (by omega) kb, (fyv hg ha).mpr (fun z => G.2 ⟨z, kb⟩)⟩
      · rw [no k x y]; exact G.1 k k0 k1 kb
theorem fyC_s {P P' : Int → Int} {n p g : Int} (n0 : 0 ≤ n) (h : ∀ i, P' i = if i = n then p else P i) : fyC P' (n + 1) g ↔ (fyC P n g ∧ ¬ zand g p = p) := by
  have hn : P' n = p := by rw [h n, if_pos rfl]
  have ho : ∀ i, ¬ i = n → P' i = P i := fun i x => by rw [h i, if_neg x]
  constructor
  · intro c
    refine ⟨fun i a b => ?_, ?_⟩
    · have := c i a (by omega)
      rw [ho i (by omega)] at this
      exact this
    · have := c n n0 (by omega)
      rw [hn] at this
      exact this
  · intro c i a b
    by_cases x : i = n
    · rw [x, hn]; exact c.2
    · rw [ho i x]; exact c.1 i a (by omega)
theorem fyS_c {P P' N N' : Int → Int} {n v n' v' a b : Int} (n0 : 0 ≤ n) (r : fyS P n N) (z : zcw (a = -1) ((0 ≤ a ∧ a ≤ 5) ∧ (0 ≤ b ∧ b ≤ 5) ∧ ¬ a = b) 8 n v n') (e : v = v') (p : zpu P P' v n (zor (zshl 1 a) (zshl 1 b))) (u : fyU N N' v' a b) : fyS P' n' N' := by
  subst e
  intro g g0 g1
  have rg := r g g0 g1
  by_cases R : a = -1
  · have w := z.1 R
    rw [w.2]
    refine ⟨fun _ k k0 k1 _ => ?_, fun _ i i0 i1 => absurd i1 (by omega)⟩
    rw [u.1 w.1 k k0 k1]
    have := zand_l (a := 0) (by decide) g
    omega
  · by_cases V : ((0 ≤ a ∧ a ≤ 5) ∧ (0 ≤ b ∧ b ≤ 5) ∧ ¬ a = b)
    · by_cases m : n < 8
      · have w := z.2.1 R V m
        rw [w.2, fyC_s (P := P) (p := zor (zshl 1 a) (zshl 1 b)) n0 (fun i => by rw [p i]; by_cases x : i = n; rw [if_pos ⟨by omega, x⟩, if_pos x]; rw [if_neg (fun y => x y.2), if_neg x]), fyG_s V.1 V.2.1 V.2.2 ⟨g0, g1⟩ (u.2.2 (by omega)), fyw ⟨g0, g1⟩ V.1 V.2.1, rg]
      · have w := z.2.2.2 R (by omega)
        have eP : P' = P := funext fun i => by rw [p i, if_neg (by omega)]
        have eN : N' = N := funext fun k => u.2.1 (by omega) k
        rw [w.2, eP, eN]
        exact rg
    · have w := z.2.2.1 R V
      have eP : P' = P := funext fun i => by rw [p i, if_neg (by omega)]
      have eN : N' = N := funext fun k => u.2.1 (by omega) k
      rw [w.2, eP, eN]
      exact rg
theorem fyS_x {P P' N N' : Int → Int} {n n' : Int} (r : fyS P n N) (en : n' = n) (n8 : n ≤ 8) (eP : ∀ i, 0 ≤ i → i < 8 → P' i = P i) (eN : ∀ k, 0 ≤ k → k < 6 → N' k = N k) : fyS P' n' N' := by
  subst en
  intro g g0 g1
  have rg := r g g0 g1
  constructor
  · intro c k k0 k1 kb
    rw [eN k k0 k1]
    exact rg.mp (fun i i0 i1 => by have := c i i0 i1; rw [eP i i0 (by omega)] at this; exact this) k k0 k1 kb
  · intro G i i0 i1
    rw [eP i i0 (by omega)]
    exact rg.mpr (fun k k0 k1 kb => by have := G k k0 k1 kb; rw [eN k k0 k1] at this; exact this) i i0 i1
/-- ferry's answers -/
def fyZ (p b : Int) : Prop := (1 ≤ p ∧ p ≤ 6) ∧ (1 ≤ b ∧ b ≤ 3)
def fyd (S : Int → Prop) (p b v : Int) : Prop := (fyZ p b → fyA (fyE S (zshl 1 p - 1) b) (64 + (zshl 1 p - 1)) v) ∧ (¬ fyZ p b → v = -1)
def fyd2 (S : Int → Prop) (p b v : Int) : Prop := (fyZ p b → fyA2 (fyE S (zshl 1 p - 1) b) (64 + (zshl 1 p - 1)) v) ∧ (¬ fyZ p b → v = -1)
theorem fyd_u {S S' : Int → Prop} {p b v v' : Int} (h : ∀ g, 0 ≤ g → g < 64 → (S g ↔ S' g)) (c : fyd S p b v) (m : fyd2 S' p b v') : v = v' := by
  by_cases z : fyZ p b
  · exact fyA_u (fun s t => fyE_x (fyB_s z.1) h) (c.1 z) (m.1 z)
  · rw [c.2 z, m.2 z]
theorem fyQ_i {E : Int → Int → Prop} {m0 m1 m2 : zM} (e0 : ∀ s, 0 ≤ s → s < 128 → m0.2 111 s = -1) (e1 : m1 = zwr m0 111 0 0) (e2 : m2 = zwr m1 112 0 0) : fyQ E (m2.2 112) (m2.2 111) 0 1 := by
  have ke : m2.2 111 = m1.2 111 := funext fun i => zwr_r e2 (by omega)
  have kw := fyK_w (c := m0.2 111) (c' := m1.2 111) (t := 0) (fun s n => zwr_r e1 (by omega)) (e0 0 (by decide) (by decide)) (by rw [zwr_v e1]; decide) 128
  rw [fyK_f e0 128 (Nat.le_refl _), if_pos (by decide)] at kw
  refine fyQ_0 (zwr_v e2) (by rw [ke]; exact zwr_v e1) (fun s a b n => by rw [ke, zwr_r e1 (by omega)]; exact e0 s a b) (by rw [ke, kw]; rfl)
theorem fyQ_f {E : Int → Int → Prop} {q c : Int → Int} {hd tl t : Int} (Q : fyQ E q c hd tl) (h : 128 ≤ tl) (ht : 0 ≤ t ∧ t < 128) : ¬ c t = -1 := fun z => by
  have k := fyK_p z 128 (by omega)
  have := Q.2.2.2.2.2.2.2
  omega
theorem fyU_w {h m0 m1 m2 m3 : zM} {a b v x1 x2 : Int} (e0 : ∀ i, m0.2 25 i = h.2 25 i) (h1 : x1 = h.2 25 a) (e1 : m1 = zwr m0 25 a (zor x1 (zshl 1 b))) (h2 : x2 = m1.2 25 b) (e2 : m2 = zwr m1 25 b (zor x2 (zshl 1 a))) (e3 : ∀ i, m3.2 25 i = m2.2 25 i) (hab : ¬ a = b) (hv : 1 ≤ v) : fyU (h.2 25) (m3.2 25) v a b := by
  refine ⟨fun z => absurd z (by omega), fun z => absurd z (by omega), fun _ k => ?_⟩
  have h3 : x2 = h.2 25 b := by rw [h2, zwr_r e1 (by omega), e0]
  rw [e3 k]
  by_cases x : k = a
  · rw [if_pos x, x, zwr_r e2 (by omega), zwr_v e1, h1]
  · rw [if_neg x]
    by_cases y : k = b
    · rw [if_pos y, y, zwr_v e2, h3]
    · rw [if_neg y, zwr_r e2 (by omega), zwr_r e1 (by omega), e0]
theorem fyS_im {P PK P' PK' N NK N' NK' : Int → Int} {p q n k n' k' Q v Q' : Int} (cn : zimx p q n k n' k') (cP : ∀ j, 0 ≤ j → j < 8 → zimx p q (P j) (PK j) (P' j) (PK' j)) (cN : ∀ j, 0 ≤ j → j < 6 → zimx p Q (N j) (NK j) (N' j) (NK' j)) (z : zimc p Q v Q') (e : q = Q) (hq : 0 ≤ q ∧ q ≤ 1) (n8 : n ≤ 8) (k8 : k ≤ 8) (r : fyS P n N) (rk : Q = 1 → fyS PK k NK) : fyS P' n' N' ∧ (Q' = 1 → fyS PK' k' NK') := by
  subst e
  by_cases y : p = 0
  · have z1 := z.2.1 y
    by_cases w : q = 0
    · exact ⟨fyS_x r (cn.2.2.1 y w) n8 (fun i a b => (cP i a b).2.2.1 y w) (fun i a b => (cN i a b).2.2.1 y w), fun u => absurd u (by omega)⟩
    · have rk' := rk (by omega)
      exact ⟨fyS_x rk' (cn.2.2.2 y w) k8 (fun i a b => (cP i a b).2.2.2 y w) (fun i a b => (cN i a b).2.2.2 y w), fun _ => fyS_x rk' (cn.2.1 y) k8 (fun i a b => (cP i a b).2.1 y) (fun i a b => (cN i a b).2.1 y)⟩
  · exact ⟨fyS_x r (cn.1 y).2 n8 (fun i a b => ((cP i a b).1 y).2) (fun i a b => ((cN i a b).1 y).2), fun _ => fyS_x r (cn.1 y).1 n8 (fun i a b => ((cP i a b).1 y).1) (fun i a b => ((cN i a b).1 y).1)⟩
abbrev q2_X5_isSafe (h : zM) (c : Int) (p1 : Int) : Option zV → zM → Prop := zqi fun v h' => h = h' ∧ (0 ≤ v ∧ v ≤ 1) ∧ ((v = 1 ∧ fyC (h.2 (c + 3)) (h.2 c 4) p1) ∨ (v = 0 ∧ ¬ fyC (h.2 (c + 3)) (h.2 c 4) p1))
set_option maxRecDepth 100000 in
set_option maxHeartbeats 4000000 in
theorem s2_X5_isSafe (l : Launch) (h : zM) (c : Int) (p1 : Int) (s0 : okC h) (hc : zPu c) (b_p1 : (-2147483648) ≤ p1 ∧ p1 ≤ 2147483647) : zT shC l yX5_isSafe cX5_isSafe 3 (some .boolean) (rmL 1) 0 0 [.inr c, .inl p1] h (q2_X5_isSafe h c p1) := by
  refine zT_of (by decide +kernel) (L0 := [some (.inr c), some (.inl p1), none]) rfl (Nat.le_of_ble_eq_true rfl) ?_
  have b1 := zPu_b hc
  refine zj_iconst (zdk ttX5_isSafe 0 rfl rfl) ?_
  refine zj_istore_n (L' := [some (.inr c), some (.inl p1), some (.inl 0)]) (zdk ttX5_isSafe 1 rfl rfl) (by decide) rfl ?_
  have lp8 : ∀ (n : Nat) (x2 : Int), (0 ≤ x2 ∧ x2 ≤ 8) → (∀ i, 0 ≤ i → i < x2 → ¬ zand p1 (h.2 (c + 3) i) = h.2 (c + 3) i) → (9 - x2).toNat < n → zJ shC l yX5_isSafe cX5_isSafe 3 (some .boolean) (rmL 1) 0 0 (q2_X5_isSafe h c p1) 0 0 2 [some (.inr c), some (.inl p1), some (.inl x2)] [] h := by
    intro n
    induction n with
    | zero => intro x2 b9 u10 m11; exact absurd m11 (Nat.not_lt_zero _)
    | succ n ih12 =>
      intro x2 b9 u10 m11
      refine zj_iload_n (zdk ttX5_isSafe 2 rfl rfl) rfl ?_
      refine zj_aload_n (zdk ttX5_isSafe 3 rfl rfl) rfl (by omega) ?_
      have b13 : 0 ≤ (h.2 c 4) ∧ (h.2 c 4) ≤ 8 := fb_5_0_4 s0 hc
      refine zj_geti (v := (h.2 c 4)) (zdk ttX5_isSafe 4 rfl rfl) zf_RX5_26 rfl (k_5_0 s0 hc) rfl ?_
      refine zj_icmp_ge (t := 35) (zdk ttX5_isSafe 5 rfl rfl) (by decide) (by omega) (by omega) (fun c14 => ?_) (fun c14 => ?_)
      · refine zj_iconst (zdk ttX5_isSafe 21 rfl rfl) ?_
        exact zj_zret rfl (zdk ttX5_isSafe 22 rfl rfl) (Nat.le_refl _) (Nat.le_refl _) (by omega) ⟨1, rfl, rfl, by omega, by first | exact Or.inl ⟨rfl, fun i a b => u10 i a (by omega)⟩ | exact Or.inr ⟨rfl, fun z => absurd (show zand p1 (h.2 (c + 3) x2) = h.2 (c + 3) x2 by omega) (z x2 (by omega) (by omega))⟩⟩
      · refine zj_iload_n (zdk ttX5_isSafe 6 rfl rfl) rfl ?_
        refine zj_aload_n (zdk ttX5_isSafe 7 rfl rfl) rfl (by omega) ?_
        refine zj_getr (r := (c + 3)) (zdk ttX5_isSafe 8 rfl rfl) zf_RX5_23 rfl (k_5_0 s0 hc) (rf_5_0_3 s0 hc) ?_
        refine zj_iload_n (zdk ttX5_isSafe 9 rfl rfl) rfl ?_
        have b15 : -2147483648 ≤ (h.2 (c + 3) x2) ∧ (h.2 (c + 3) x2) ≤ 2147483647 := ab_5_0_3 s0 hc x2
        refine zj_iald (v := (h.2 (c + 3) x2)) (zdk ttX5_isSafe 10 rfl rfl) (ka_5_0_3 s0 hc) (by decide) (by omega) rfl ?_
        refine zj_iand (zdk ttX5_isSafe 11 rfl rfl) ?_
        have b16 := zand_in p1 (h.2 (c + 3) x2)
        refine zj_aload_n (zdk ttX5_isSafe 12 rfl rfl) rfl (by omega) ?_
        refine zj_getr (r := (c + 3)) (zdk ttX5_isSafe 13 rfl rfl) zf_RX5_23 rfl (k_5_0 s0 hc) (rf_5_0_3 s0 hc) ?_
        refine zj_iload_n (zdk ttX5_isSafe 14 rfl rfl) rfl ?_
        refine zj_iald (v := (h.2 (c + 3) x2)) (zdk ttX5_isSafe 15 rfl rfl) (ka_5_0_3 s0 hc) (by decide) (by omega) rfl ?_
        refine zj_icmp_ne (t := 29) (zdk ttX5_isSafe 16 rfl rfl) (by decide) (by omega) (by omega) (fun c17 => ?_) (fun c17 => ?_)
        · refine zj_iinc (L' := [some (.inr c), some (.inl p1), some (.inl (x2 + 1))]) (zdk ttX5_isSafe 19 rfl rfl) rfl (by decide) rfl ?_
          refine zj_goto (t := 2) (zdk ttX5_isSafe 20 rfl rfl) (by decide) ?_
          exact ih12  (x2 + 1) (by omega) (fun i a b => (Classical.em (i = x2)).elim (fun q => by rw [q]; omega) (fun q => u10 i a (by omega))) (by omega)
        · refine zj_iconst (zdk ttX5_isSafe 17 rfl rfl) ?_
          exact zj_zret rfl (zdk ttX5_isSafe 18 rfl rfl) (Nat.le_refl _) (Nat.le_refl _) (by omega) ⟨0, rfl, rfl, by omega, by first | exact Or.inl ⟨rfl, fun i a b => u10 i a (by omega)⟩ | exact Or.inr ⟨rfl, fun z => absurd (show zand p1 (h.2 (c + 3) x2) = h.2 (c + 3) x2 by omega) (z x2 (by omega) (by omega))⟩⟩
  exact lp8 _ 0 (by omega) (fun i a b => absurd b (by omega)) (Nat.lt_succ_self _)

abbrev q2_X8_fewestCrossings (h : zM) (p1 : Int) (p2 : Int) (p3 : Int) : Option zV → zM → Prop := zqi fun v h' => ((-2147483648) ≤ v ∧ v ≤ 2147483647) ∧ okC h' ∧ zfC w_X8_fewestCrossings h h' ∧ (fyA (fyE (fyC (h.2 (p1 + 3)) (h.2 p1 4)) ((zshl 1 p2) - 1) p3) (64 + ((zshl 1 p2) - 1)) v)
set_option maxRecDepth 100000 in
set_option maxHeartbeats 4000000 in
theorem s2_X8_fewestCrossings (l : Launch) (h : zM) (p1 : Int) (p2 : Int) (p3 : Int) (s0 : okC h) (r_p1 : zPu p1) (b_p2 : 1 ≤ p2 ∧ p2 ≤ 6) (b_p3 : 1 ≤ p3 ∧ p3 ≤ 3) : zT shC l yX8_fewestCrossings cX8_fewestCrossings 15 (some .int) (rmL 2) 0 0 [.inr 108, .inr p1, .inl p2, .inl p3] h (q2_X8_fewestCrossings h p1 p2 p3) := by
  refine zT_of (by decide +kernel) (L0 := [some (.inr 108), some (.inr p1), some (.inl p2), some (.inl p3), none, none, none, none, none, none, none, none, none, none, none]) rfl (Nat.le_of_ble_eq_true rfl) ?_
  have b1 := zPu_b r_p1
  refine zj_iconst (zdk ttX8_fewestCrossings 0 rfl rfl) ?_
  refine zj_iload_n (zdk ttX8_fewestCrossings 1 rfl rfl) rfl ?_
  refine zj_ishl (zdk ttX8_fewestCrossings 2 rfl rfl) ?_
  have b2 := zshl_1 (n := p2) (a := 1) (b := 6) (lo := 2) (hi := 64) (by omega) (by decide) (by decide) (by decide)
  refine zj_iconst (zdk ttX8_fewestCrossings 3 rfl rfl) ?_
  refine zj_isub (zdk ttX8_fewestCrossings 4 rfl rfl) ?_
  refine zj_istore (L' := [some (.inr 108), some (.inr p1), some (.inl p2), some (.inl p3), some (.inl ((zshl 1 p2) - 1)), none, none, none, none, none, none, none, none, none, none]) (zdk ttX8_fewestCrossings 5 rfl rfl) (by decide) rfl ?_
  have hA9 : fyB ((zshl 1 p2) - 1) := fyB_s (by omega)
  have hb9 := fyB_b hA9
  have hE9 : ∀ s t, (fyE (fyC (h.2 (p1 + 3)) (h.2 p1 4)) ((zshl 1 p2) - 1) p3) s t → 0 ≤ t ∧ t < 128 := fun s t e => by have := fyE_b hA9 e; omega
  refine zj_aload_n (zdk ttX8_fewestCrossings 6 rfl rfl) rfl (by decide) ?_
  refine zj_getr (r := 111) (zdk ttX8_fewestCrossings 7 rfl rfl) zf_RX8_18 rfl (k_L108 s0) (rf_L108_2 s0) ?_
  refine zj_iconst (zdk ttX8_fewestCrossings 8 rfl rfl) ?_
  refine zj_callS (av := [.inr 111, .inl (-1)]) (st := []) (zdk ttX8_fewestCrossings 9 rfl rfl) mb_J7_fill_53178 ms_RX8_40 rfl rfl (Nat.le_of_ble_eq_true rfl) (s_J7_fill_53178 shC l h 111 (-1) (ka_L108_2 s0) (by decide)) (rm_ok (by decide) (by decide)) (zq_v fun h3 e4 => ?_)
  refine zj_aload_n (zdk ttX8_fewestCrossings 10 rfl rfl) rfl (by decide) ?_
  have s5 : okC h3 := okC_fill s0 e4 (fun j => pa_L108_2 (v := (-1)) (by omega) j) (na_L108_2).1 (na_L108_2).2
  refine zj_getr (r := 111) (zdk ttX8_fewestCrossings 11 rfl rfl) zf_RX8_18 rfl (k_L108 s5) (rf_L108_2 s5) ?_
  refine zj_iconst (zdk ttX8_fewestCrossings 12 rfl rfl) ?_
  refine zj_iconst (zdk ttX8_fewestCrossings 13 rfl rfl) ?_
  refine zj_iast (zdk ttX8_fewestCrossings 14 rfl rfl) (ka_L108_2 s5) (by decide) (by omega) (fun h6 e7 => ?_)
  refine zj_aload_n (zdk ttX8_fewestCrossings 15 rfl rfl) rfl (by decide) ?_
  have s8 : okC h6 := aw_L108_2 s5 e7 (by omega)
  refine zj_getr (r := 112) (zdk ttX8_fewestCrossings 16 rfl rfl) zf_RX8_21 rfl (k_L108 s8) (rf_L108_3 s8) ?_
  refine zj_iconst (zdk ttX8_fewestCrossings 17 rfl rfl) ?_
  refine zj_iconst (zdk ttX8_fewestCrossings 18 rfl rfl) ?_
  refine zj_iast (zdk ttX8_fewestCrossings 19 rfl rfl) (ka_L108_3 s8) (by decide) (by omega) (fun h9 e10 => ?_)
  refine zj_iconst (zdk ttX8_fewestCrossings 20 rfl rfl) ?_
  refine zj_istore (L' := [some (.inr 108), some (.inr p1), some (.inl p2), some (.inl p3), some (.inl ((zshl 1 p2) - 1)), some (.inl 1), none, none, none, none, none, none, none, none, none]) (zdk ttX8_fewestCrossings 21 rfl rfl) (by decide) rfl ?_
  refine zj_iconst (zdk ttX8_fewestCrossings 22 rfl rfl) ?_
  refine zj_istore (L' := [some (.inr 108), some (.inr p1), some (.inl p2), some (.inl p3), some (.inl ((zshl 1 p2) - 1)), some (.inl 1), some (.inl 0), none, none, none, none, none, none, none, none]) (zdk ttX8_fewestCrossings 23 rfl rfl) (by decide) rfl ?_
  have lp251 : ∀ (n : Nat) (x11 x12 : Int) (h13 : zM), (1 ≤ x11 ∧ x11 ≤ 128) → (0 ≤ x12 ∧ x12 ≤ 128) → okC h13 → zfC w_X8_fewestCrossings h h13 → (fyQ (fyE (fyC (h.2 (p1 + 3)) (h.2 p1 4)) ((zshl 1 p2) - 1) p3) (h13.2 112) (h13.2 111) x12 x11) → (∀ i, 0 ≤ i → i < x12 → ¬ h13.2 112 i % 64 = ((zshl 1 p2) - 1)) → (x12 ≤ x11) → (129 - x12).toNat < n → zJ shC l yX8_fewestCrossings cX8_fewestCrossings 15 (some .int) (rmL 2) 0 0 (q2_X8_fewestCrossings h p1 p2 p3) 0 0 35 [some (.inr 108), some (.inr p1), some (.inl p2), some (.inl p3), some (.inl ((zshl 1 p2) - 1)), some (.inl x11), some (.inl x12), none, none, none, none, none, none, none, none] [] h13 := by
    intro n
    induction n with
    | zero => intro x11 x12 h13 b252 b253 s14 f15 u254 u255 u256 m257; exact absurd m257 (Nat.not_lt_zero _)
    | succ n ih258 =>
      intro x11 x12 h13 b252 b253 s14 f15 u254 u255 u256 m257
      refine zj_iload (zdk ttX8_fewestCrossings 24 rfl rfl) rfl ?_
      refine zj_iload (zdk ttX8_fewestCrossings 25 rfl rfl) rfl ?_
      refine zj_icmp_ge (t := 263) (zdk ttX8_fewestCrossings 26 rfl rfl) (by decide) (by omega) (by omega) (fun c259 => ?_) (fun c259 => ?_)
      · refine zj_iconst (zdk ttX8_fewestCrossings 142 rfl rfl) ?_
        exact zj_iret rfl (zdk ttX8_fewestCrossings 143 rfl rfl) (Nat.le_refl _) (Nat.le_refl _) ⟨(-1), rfl, by omega, s14, f15, by first | exact fyA_n hA9 u254 (by omega) u255 | exact fyA_y hA9 u254 (by omega) (by omega) (by omega) (show h13.2 112 x12 % 64 = ((zshl 1 p2) - 1) by omega) u255⟩
      · refine zj_iload (zdk ttX8_fewestCrossings 27 rfl rfl) rfl ?_
        refine zj_aload_n (zdk ttX8_fewestCrossings 28 rfl rfl) rfl (by decide) ?_
        refine zj_getr (r := 112) (zdk ttX8_fewestCrossings 29 rfl rfl) zf_RX8_21 rfl (k_L108 s14) (rf_L108_3 s14) ?_
        refine zj_alen (zdk ttX8_fewestCrossings 30 rfl rfl) (ka_L108_3 s14) ?_
        refine zj_icmp_ge (t := 263) (zdk ttX8_fewestCrossings 31 rfl rfl) (by decide) (by omega) (by decide) (fun c260 => ?_) (fun c260 => ?_)
        · exact absurd c260 (by omega)
        · refine zj_aload_n (zdk ttX8_fewestCrossings 32 rfl rfl) rfl (by decide) ?_
          refine zj_getr (r := 112) (zdk ttX8_fewestCrossings 33 rfl rfl) zf_RX8_21 rfl (k_L108 s14) (rf_L108_3 s14) ?_
          refine zj_iload (zdk ttX8_fewestCrossings 34 rfl rfl) rfl ?_
          have b261 : 0 ≤ (h13.2 112 x12) ∧ (h13.2 112 x12) ≤ 127 := ab_L108_3 s14 x12
          refine zj_iald (v := (h13.2 112 x12)) (zdk ttX8_fewestCrossings 35 rfl rfl) (ka_L108_3 s14) (by decide) (by omega) rfl ?_
          refine zj_istore (L' := [some (.inr 108), some (.inr p1), some (.inl p2), some (.inl p3), some (.inl ((zshl 1 p2) - 1)), some (.inl x11), some (.inl x12), some (.inl (h13.2 112 x12)), none, none, none, none, none, none, none]) (zdk ttX8_fewestCrossings 36 rfl rfl) (by decide) rfl ?_
          have r9 : (0 ≤ (h13.2 112 x12) ∧ (h13.2 112 x12) < 128 ∧ (h13.2 112 x12) % 64 ≤ ((zshl 1 p2) - 1)) := (fyR_p hA9 _ _ (u254.1 x12 (by omega) (by omega)).2.2.1).1
          have k9 : 0 ≤ h13.2 111 (h13.2 112 x12) ∧ h13.2 111 (h13.2 112 x12) ≤ x12 := (u254.1 x12 (by omega) (by omega)).2.1
          refine zj_iload (zdk ttX8_fewestCrossings 37 rfl rfl) rfl ?_
          refine zj_bipush (zdk ttX8_fewestCrossings 38 rfl rfl) (by decide) ?_
          refine zj_iremP (zdk ttX8_fewestCrossings 39 rfl rfl) (by omega) (by omega) ?_
          refine zj_istore (L' := [some (.inr 108), some (.inr p1), some (.inl p2), some (.inl p3), some (.inl ((zshl 1 p2) - 1)), some (.inl x11), some (.inl x12), some (.inl (h13.2 112 x12)), some (.inl ((h13.2 112 x12) % 64)), none, none, none, none, none, none]) (zdk ttX8_fewestCrossings 40 rfl rfl) (by decide) rfl ?_
          refine zj_iload (zdk ttX8_fewestCrossings 41 rfl rfl) rfl ?_
          refine zj_iload (zdk ttX8_fewestCrossings 42 rfl rfl) rfl ?_
          refine zj_icmp_ne (t := 83) (zdk ttX8_fewestCrossings 43 rfl rfl) (by decide) (by omega) (by omega) (fun c262 => ?_) (fun c262 => ?_)
          · refine zj_iload (zdk ttX8_fewestCrossings 49 rfl rfl) rfl ?_
            refine zj_bipush (zdk ttX8_fewestCrossings 50 rfl rfl) (by decide) ?_
            refine zj_icmp_lt (t := 94) (zdk ttX8_fewestCrossings 51 rfl rfl) (by decide) (by omega) (by decide) (fun c263 => ?_) (fun c263 => ?_)
            · refine zj_iconst (zdk ttX8_fewestCrossings 54 rfl rfl) ?_
              refine zj_istore (L' := [some (.inr 108), some (.inr p1), some (.inl p2), some (.inl p3), some (.inl ((zshl 1 p2) - 1)), some (.inl x11), some (.inl x12), some (.inl (h13.2 112 x12)), some (.inl ((h13.2 112 x12) % 64)), some (.inl 0), none, none, none, none, none]) (zdk ttX8_fewestCrossings 55 rfl rfl) (by decide) rfl ?_
              refine zj_iload (zdk ttX8_fewestCrossings 56 rfl rfl) rfl ?_
              refine zj_if_eq (t := 107) (zdk ttX8_fewestCrossings 57 rfl rfl) (by decide) (by decide) (fun c264 => ?_) (fun c264 => ?_)
              · refine zj_iload (zdk ttX8_fewestCrossings 60 rfl rfl) rfl ?_
                refine zj_iload (zdk ttX8_fewestCrossings 61 rfl rfl) rfl ?_
                refine zj_iconst (zdk ttX8_fewestCrossings 62 rfl rfl) ?_
                refine zj_ixor (zdk ttX8_fewestCrossings 63 rfl rfl) ?_
                have b265 := zxor_in ((h13.2 112 x12) % 64) (-1)
                refine zj_iand (zdk ttX8_fewestCrossings 64 rfl rfl) ?_
                have b266 := zand_l (a := ((zshl 1 p2) - 1)) (by omega) (zxor ((h13.2 112 x12) % 64) (-1))
                refine zj_istore (L' := [some (.inr 108), some (.inr p1), some (.inl p2), some (.inl p3), some (.inl ((zshl 1 p2) - 1)), some (.inl x11), some (.inl x12), some (.inl (h13.2 112 x12)), some (.inl ((h13.2 112 x12) % 64)), some (.inl 0), some (.inl (zand ((zshl 1 p2) - 1) (zxor ((h13.2 112 x12) % 64) (-1)))), none, none, none, none]) (zdk ttX8_fewestCrossings 65 rfl rfl) (by decide) rfl ?_
                refine zj_iconst (zdk ttX8_fewestCrossings 66 rfl rfl) ?_
                refine zj_istore (L' := [some (.inr 108), some (.inr p1), some (.inl p2), some (.inl p3), some (.inl ((zshl 1 p2) - 1)), some (.inl x11), some (.inl x12), some (.inl (h13.2 112 x12)), some (.inl ((h13.2 112 x12) % 64)), some (.inl 0), some (.inl (zand ((zshl 1 p2) - 1) (zxor ((h13.2 112 x12) % 64) (-1)))), some (.inl 0), none, none, none]) (zdk ttX8_fewestCrossings 67 rfl rfl) (by decide) rfl ?_
                have lp321 : ∀ (n : Nat) (x267 x268 : Int) (h269 : zM), (1 ≤ x267 ∧ x267 ≤ 128) → (0 ≤ x268 ∧ x268 ≤ 64) → okC h269 → zfC w_X8_fewestCrossings h h269 → (fyQ (fyE (fyC (h.2 (p1 + 3)) (h.2 p1 4)) ((zshl 1 p2) - 1) p3) (h269.2 112) (h269.2 111) x12 x267) → (fyP (fyC (h.2 (p1 + 3)) (h.2 p1 4)) ((zshl 1 p2) - 1) p3 (h269.2 111) (h13.2 112 x12) x268) → (h269.2 112 x12 = (h13.2 112 x12)) → (x12 < x267) → (∀ i, 0 ≤ i → i < x12 → ¬ h269.2 112 i % 64 = ((zshl 1 p2) - 1)) → (65 - x268).toNat < n → zJ shC l yX8_fewestCrossings cX8_fewestCrossings 15 (some .int) (rmL 2) 0 0 (q2_X8_fewestCrossings h p1 p2 p3) 0 0 119 [some (.inr 108), some (.inr p1), some (.inl p2), some (.inl p3), some (.inl ((zshl 1 p2) - 1)), some (.inl x267), some (.inl x12), some (.inl (h13.2 112 x12)), some (.inl ((h13.2 112 x12) % 64)), some (.inl 0), some (.inl (zand ((zshl 1 p2) - 1) (zxor ((h13.2 112 x12) % 64) (-1)))), some (.inl x268), none, none, none] [] h269 := by
                  intro n
                  induction n with
                  | zero => intro x267 x268 h269 b322 b323 s270 f271 u324 u325 u326 u327 u328 m329; exact absurd m329 (Nat.not_lt_zero _)
                  | succ n ih330 =>
                    intro x267 x268 h269 b322 b323 s270 f271 u324 u325 u326 u327 u328 m329
                    refine zj_iload (zdk ttX8_fewestCrossings 68 rfl rfl) rfl ?_
                    refine zj_iload (zdk ttX8_fewestCrossings 69 rfl rfl) rfl ?_
                    refine zj_icmp_gt (t := 257) (zdk ttX8_fewestCrossings 70 rfl rfl) (by decide) (by omega) (by omega) (fun c331 => ?_) (fun c331 => ?_)
                    · refine zj_iinc (L' := [some (.inr 108), some (.inr p1), some (.inl p2), some (.inl p3), some (.inl ((zshl 1 p2) - 1)), some (.inl x267), some (.inl (x12 + 1)), some (.inl (h13.2 112 x12)), some (.inl ((h13.2 112 x12) % 64)), some (.inl 0), some (.inl (zand ((zshl 1 p2) - 1) (zxor ((h13.2 112 x12) % 64) (-1)))), some (.inl x268), none, none, none]) (zdk ttX8_fewestCrossings 140 rfl rfl) rfl (by decide) rfl ?_
                      refine zj_goto (t := 35) (zdk ttX8_fewestCrossings 141 rfl rfl) (by decide) ?_
                      refine zj_kill (k := 7) (L' := [some (.inr 108), some (.inr p1), some (.inl p2), some (.inl p3), some (.inl ((zshl 1 p2) - 1)), some (.inl x267), some (.inl (x12 + 1)), none, some (.inl ((h13.2 112 x12) % 64)), some (.inl 0), some (.inl (zand ((zshl 1 p2) - 1) (zxor ((h13.2 112 x12) % 64) (-1)))), some (.inl x268), none, none, none]) rfl ?_
                      refine zj_kill (k := 8) (L' := [some (.inr 108), some (.inr p1), some (.inl p2), some (.inl p3), some (.inl ((zshl 1 p2) - 1)), some (.inl x267), some (.inl (x12 + 1)), none, none, some (.inl 0), some (.inl (zand ((zshl 1 p2) - 1) (zxor ((h13.2 112 x12) % 64) (-1)))), some (.inl x268), none, none, none]) rfl ?_
                      refine zj_kill (k := 9) (L' := [some (.inr 108), some (.inr p1), some (.inl p2), some (.inl p3), some (.inl ((zshl 1 p2) - 1)), some (.inl x267), some (.inl (x12 + 1)), none, none, none, some (.inl (zand ((zshl 1 p2) - 1) (zxor ((h13.2 112 x12) % 64) (-1)))), some (.inl x268), none, none, none]) rfl ?_
                      refine zj_kill (k := 10) (L' := [some (.inr 108), some (.inr p1), some (.inl p2), some (.inl p3), some (.inl ((zshl 1 p2) - 1)), some (.inl x267), some (.inl (x12 + 1)), none, none, none, none, some (.inl x268), none, none, none]) rfl ?_
                      refine zj_kill (k := 11) (L' := [some (.inr 108), some (.inr p1), some (.inl p2), some (.inl p3), some (.inl ((zshl 1 p2) - 1)), some (.inl x267), some (.inl (x12 + 1)), none, none, none, none, none, none, none, none]) rfl ?_
                      exact ih258  x267 (x12 + 1) h269 (by omega) (by omega) s270 f271 (fyQ_n u324 (by omega) (by omega) (fun t e => fyP_e u325 (by omega) t (by rw [u326] at e; exact e))) (fun i a b => (Classical.em (i = x12)).elim (fun q => by rw [q, u326]; omega) (fun q => u328 i a (by omega))) (by omega) (by omega)
                    · refine zj_iload (zdk ttX8_fewestCrossings 71 rfl rfl) rfl ?_
                      refine zj_iload (zdk ttX8_fewestCrossings 72 rfl rfl) rfl ?_
                      refine zj_iconst (zdk ttX8_fewestCrossings 73 rfl rfl) ?_
                      refine zj_ixor (zdk ttX8_fewestCrossings 74 rfl rfl) ?_
                      have b332 := zxor_in (zand ((zshl 1 p2) - 1) (zxor ((h13.2 112 x12) % 64) (-1))) (-1)
                      refine zj_iand (zdk ttX8_fewestCrossings 75 rfl rfl) ?_
                      have b333 := zand_l (a := x268) (by omega) (zxor (zand ((zshl 1 p2) - 1) (zxor ((h13.2 112 x12) % 64) (-1))) (-1))
                      refine zj_if_ne (t := 149) (zdk ttX8_fewestCrossings 76 rfl rfl) (by decide) (by omega) (fun c334 => ?_) (fun c334 => ?_)
                      · refine zj_iconst (zdk ttX8_fewestCrossings 83 rfl rfl) ?_
                        refine zj_istore (L' := [some (.inr 108), some (.inr p1), some (.inl p2), some (.inl p3), some (.inl ((zshl 1 p2) - 1)), some (.inl x267), some (.inl x12), some (.inl (h13.2 112 x12)), some (.inl ((h13.2 112 x12) % 64)), some (.inl 0), some (.inl (zand ((zshl 1 p2) - 1) (zxor ((h13.2 112 x12) % 64) (-1)))), some (.inl x268), some (.inl 0), none, none]) (zdk ttX8_fewestCrossings 84 rfl rfl) (by decide) rfl ?_
                        refine zj_iload (zdk ttX8_fewestCrossings 85 rfl rfl) rfl ?_
                        refine zj_iload (zdk ttX8_fewestCrossings 86 rfl rfl) rfl ?_
                        refine zj_ixor (zdk ttX8_fewestCrossings 87 rfl rfl) ?_
                        have b335 := zxor_k (a := ((h13.2 112 x12) % 64)) (b := x268) (K := 64) 6 (by decide) (by decide) (by omega) (by omega)
                        refine zj_iload (zdk ttX8_fewestCrossings 88 rfl rfl) rfl ?_
                        refine zj_if_eq (t := 166) (zdk ttX8_fewestCrossings 89 rfl rfl) (by decide) (by decide) (fun c336 => ?_) (fun c336 => ?_)
                        · refine zj_bipush (zdk ttX8_fewestCrossings 92 rfl rfl) (by decide) ?_
                          refine zj_iadd (zdk ttX8_fewestCrossings 93 rfl rfl) ?_
                          refine zj_istore (L' := [some (.inr 108), some (.inr p1), some (.inl p2), some (.inl p3), some (.inl ((zshl 1 p2) - 1)), some (.inl x267), some (.inl x12), some (.inl (h13.2 112 x12)), some (.inl ((h13.2 112 x12) % 64)), some (.inl 0), some (.inl (zand ((zshl 1 p2) - 1) (zxor ((h13.2 112 x12) % 64) (-1)))), some (.inl x268), some (.inl 0), some (.inl ((zxor ((h13.2 112 x12) % 64) x268) + 64)), none]) (zdk ttX8_fewestCrossings 94 rfl rfl) (by decide) rfl ?_
                          refine zj_aload_n (zdk ttX8_fewestCrossings 95 rfl rfl) rfl (by decide) ?_
                          refine zj_getr (r := 111) (zdk ttX8_fewestCrossings 96 rfl rfl) zf_RX8_18 rfl (k_L108 s270) (rf_L108_2 s270) ?_
                          refine zj_iload (zdk ttX8_fewestCrossings 97 rfl rfl) rfl ?_
                          have b337 : -2147483648 ≤ (h269.2 111 ((zxor ((h13.2 112 x12) % 64) x268) + 64)) ∧ (h269.2 111 ((zxor ((h13.2 112 x12) % 64) x268) + 64)) ≤ 2147483647 := ab_L108_2 s270 ((zxor ((h13.2 112 x12) % 64) x268) + 64)
                          refine zj_iald (v := (h269.2 111 ((zxor ((h13.2 112 x12) % 64) x268) + 64))) (zdk ttX8_fewestCrossings 98 rfl rfl) (ka_L108_2 s270) (by decide) (by omega) rfl ?_
                          refine zj_iconst (zdk ttX8_fewestCrossings 99 rfl rfl) ?_
                          refine zj_icmp_ne (t := 196) (zdk ttX8_fewestCrossings 100 rfl rfl) (by decide) (by omega) (by decide) (fun c338 => ?_) (fun c338 => ?_)
                          · refine zj_iconst (zdk ttX8_fewestCrossings 108 rfl rfl) ?_
                            refine zj_istore (L' := [some (.inr 108), some (.inr p1), some (.inl p2), some (.inl p3), some (.inl ((zshl 1 p2) - 1)), some (.inl x267), some (.inl x12), some (.inl (h13.2 112 x12)), some (.inl ((h13.2 112 x12) % 64)), some (.inl 0), some (.inl (zand ((zshl 1 p2) - 1) (zxor ((h13.2 112 x12) % 64) (-1)))), some (.inl x268), some (.inl 0), some (.inl ((zxor ((h13.2 112 x12) % 64) x268) + 64)), some (.inl 0)]) (zdk ttX8_fewestCrossings 109 rfl rfl) (by decide) rfl ?_
                            refine zj_iload (zdk ttX8_fewestCrossings 110 rfl rfl) rfl ?_
                            refine zj_if_eq (t := 251) (zdk ttX8_fewestCrossings 111 rfl rfl) (by decide) (by decide) (fun c339 => ?_) (fun c339 => ?_)
                            · refine zj_iinc (L' := [some (.inr 108), some (.inr p1), some (.inl p2), some (.inl p3), some (.inl ((zshl 1 p2) - 1)), some (.inl x267), some (.inl x12), some (.inl (h13.2 112 x12)), some (.inl ((h13.2 112 x12) % 64)), some (.inl 0), some (.inl (zand ((zshl 1 p2) - 1) (zxor ((h13.2 112 x12) % 64) (-1)))), some (.inl (x268 + 1)), some (.inl 0), some (.inl ((zxor ((h13.2 112 x12) % 64) x268) + 64)), some (.inl 0)]) (zdk ttX8_fewestCrossings 138 rfl rfl) rfl (by decide) rfl ?_
                              refine zj_goto (t := 119) (zdk ttX8_fewestCrossings 139 rfl rfl) (by decide) ?_
                              refine zj_kill (k := 12) (L' := [some (.inr 108), some (.inr p1), some (.inl p2), some (.inl p3), some (.inl ((zshl 1 p2) - 1)), some (.inl x267), some (.inl x12), some (.inl (h13.2 112 x12)), some (.inl ((h13.2 112 x12) % 64)), some (.inl 0), some (.inl (zand ((zshl 1 p2) - 1) (zxor ((h13.2 112 x12) % 64) (-1)))), some (.inl (x268 + 1)), none, some (.inl ((zxor ((h13.2 112 x12) % 64) x268) + 64)), some (.inl 0)]) rfl ?_
                              refine zj_kill (k := 13) (L' := [some (.inr 108), some (.inr p1), some (.inl p2), some (.inl p3), some (.inl ((zshl 1 p2) - 1)), some (.inl x267), some (.inl x12), some (.inl (h13.2 112 x12)), some (.inl ((h13.2 112 x12) % 64)), some (.inl 0), some (.inl (zand ((zshl 1 p2) - 1) (zxor ((h13.2 112 x12) % 64) (-1)))), some (.inl (x268 + 1)), none, none, some (.inl 0)]) rfl ?_
                              refine zj_kill (k := 14) (L' := [some (.inr 108), some (.inr p1), some (.inl p2), some (.inl p3), some (.inl ((zshl 1 p2) - 1)), some (.inl x267), some (.inl x12), some (.inl (h13.2 112 x12)), some (.inl ((h13.2 112 x12) % 64)), some (.inl 0), some (.inl (zand ((zshl 1 p2) - 1) (zxor ((h13.2 112 x12) % 64) (-1)))), some (.inl (x268 + 1)), none, none, none]) rfl ?_
                              have f340 : (zand ((zshl 1 p2) - 1) (zxor ((h13.2 112 x12) % 64) (-1))) = fyF ((zshl 1 p2) - 1) (h13.2 112 x12) := by first | exact fyF_0 (by omega) (by omega) | exact fyF_1 (by omega) (by omega)
                              have n341 : fyN (h13.2 112 x12) x268 = ((zxor ((h13.2 112 x12) % 64) x268) + 64) := fyN_e (o := ((h13.2 112 x12) % 64)) (by omega) (by first | exact Or.inl ⟨by omega, by omega⟩ | exact Or.inr ⟨by omega, by omega⟩)
                              exact ih330  x267 (x268 + 1) h269 (by omega) (by omega) s270 f271 u324 (fyP_s u325 (fun e9 => by obtain ⟨ea, eb, ec, ed⟩ := e9; rw [n341]; rw [← f340] at eb ed; intro z9; first | omega | exact absurd ed (by rcases u314 with k9 | k9; exact absurd k9.1 (by omega); exact k9.2) | exact fyQ_f u324 (by omega) (by omega) z9)) u326 (by omega) u328 (by omega)
                            · exact absurd c339 (by omega)
                          · refine zj_iload (zdk ttX8_fewestCrossings 101 rfl rfl) rfl ?_
                            refine zj_aload_n (zdk ttX8_fewestCrossings 102 rfl rfl) rfl (by decide) ?_
                            refine zj_getr (r := 112) (zdk ttX8_fewestCrossings 103 rfl rfl) zf_RX8_21 rfl (k_L108 s270) (rf_L108_3 s270) ?_
                            refine zj_alen (zdk ttX8_fewestCrossings 104 rfl rfl) (ka_L108_3 s270) ?_
                            refine zj_icmp_ge (t := 196) (zdk ttX8_fewestCrossings 105 rfl rfl) (by decide) (by omega) (by decide) (fun c342 => ?_) (fun c342 => ?_)
                            · refine zj_iconst (zdk ttX8_fewestCrossings 108 rfl rfl) ?_
                              refine zj_istore (L' := [some (.inr 108), some (.inr p1), some (.inl p2), some (.inl p3), some (.inl ((zshl 1 p2) - 1)), some (.inl x267), some (.inl x12), some (.inl (h13.2 112 x12)), some (.inl ((h13.2 112 x12) % 64)), some (.inl 0), some (.inl (zand ((zshl 1 p2) - 1) (zxor ((h13.2 112 x12) % 64) (-1)))), some (.inl x268), some (.inl 0), some (.inl ((zxor ((h13.2 112 x12) % 64) x268) + 64)), some (.inl 0)]) (zdk ttX8_fewestCrossings 109 rfl rfl) (by decide) rfl ?_
                              refine zj_iload (zdk ttX8_fewestCrossings 110 rfl rfl) rfl ?_
                              refine zj_if_eq (t := 251) (zdk ttX8_fewestCrossings 111 rfl rfl) (by decide) (by decide) (fun c343 => ?_) (fun c343 => ?_)
                              · refine zj_iinc (L' := [some (.inr 108), some (.inr p1), some (.inl p2), some (.inl p3), some (.inl ((zshl 1 p2) - 1)), some (.inl x267), some (.inl x12), some (.inl (h13.2 112 x12)), some (.inl ((h13.2 112 x12) % 64)), some (.inl 0), some (.inl (zand ((zshl 1 p2) - 1) (zxor ((h13.2 112 x12) % 64) (-1)))), some (.inl (x268 + 1)), some (.inl 0), some (.inl ((zxor ((h13.2 112 x12) % 64) x268) + 64)), some (.inl 0)]) (zdk ttX8_fewestCrossings 138 rfl rfl) rfl (by decide) rfl ?_
                                refine zj_goto (t := 119) (zdk ttX8_fewestCrossings 139 rfl rfl) (by decide) ?_
                                refine zj_kill (k := 12) (L' := [some (.inr 108), some (.inr p1), some (.inl p2), some (.inl p3), some (.inl ((zshl 1 p2) - 1)), some (.inl x267), some (.inl x12), some (.inl (h13.2 112 x12)), some (.inl ((h13.2 112 x12) % 64)), some (.inl 0), some (.inl (zand ((zshl 1 p2) - 1) (zxor ((h13.2 112 x12) % 64) (-1)))), some (.inl (x268 + 1)), none, some (.inl ((zxor ((h13.2 112 x12) % 64) x268) + 64)), some (.inl 0)]) rfl ?_
                                refine zj_kill (k := 13) (L' := [some (.inr 108), some (.inr p1), some (.inl p2), some (.inl p3), some (.inl ((zshl 1 p2) - 1)), some (.inl x267), some (.inl x12), some (.inl (h13.2 112 x12)), some (.inl ((h13.2 112 x12) % 64)), some (.inl 0), some (.inl (zand ((zshl 1 p2) - 1) (zxor ((h13.2 112 x12) % 64) (-1)))), some (.inl (x268 + 1)), none, none, some (.inl 0)]) rfl ?_
                                refine zj_kill (k := 14) (L' := [some (.inr 108), some (.inr p1), some (.inl p2), some (.inl p3), some (.inl ((zshl 1 p2) - 1)), some (.inl x267), some (.inl x12), some (.inl (h13.2 112 x12)), some (.inl ((h13.2 112 x12) % 64)), some (.inl 0), some (.inl (zand ((zshl 1 p2) - 1) (zxor ((h13.2 112 x12) % 64) (-1)))), some (.inl (x268 + 1)), none, none, none]) rfl ?_
                                have f344 : (zand ((zshl 1 p2) - 1) (zxor ((h13.2 112 x12) % 64) (-1))) = fyF ((zshl 1 p2) - 1) (h13.2 112 x12) := by first | exact fyF_0 (by omega) (by omega) | exact fyF_1 (by omega) (by omega)
                                have n345 : fyN (h13.2 112 x12) x268 = ((zxor ((h13.2 112 x12) % 64) x268) + 64) := fyN_e (o := ((h13.2 112 x12) % 64)) (by omega) (by first | exact Or.inl ⟨by omega, by omega⟩ | exact Or.inr ⟨by omega, by omega⟩)
                                exact ih330  x267 (x268 + 1) h269 (by omega) (by omega) s270 f271 u324 (fyP_s u325 (fun e9 => by obtain ⟨ea, eb, ec, ed⟩ := e9; rw [n345]; rw [← f344] at eb ed; intro z9; first | omega | exact absurd ed (by rcases u314 with k9 | k9; exact absurd k9.1 (by omega); exact k9.2) | exact fyQ_f u324 (by omega) (by omega) z9)) u326 (by omega) u328 (by omega)
                              · exact absurd c343 (by omega)
                            · refine zj_iconst (zdk ttX8_fewestCrossings 106 rfl rfl) ?_
                              refine zj_goto (t := 197) (zdk ttX8_fewestCrossings 107 rfl rfl) (by decide) ?_
                              refine zj_istore (L' := [some (.inr 108), some (.inr p1), some (.inl p2), some (.inl p3), some (.inl ((zshl 1 p2) - 1)), some (.inl x267), some (.inl x12), some (.inl (h13.2 112 x12)), some (.inl ((h13.2 112 x12) % 64)), some (.inl 0), some (.inl (zand ((zshl 1 p2) - 1) (zxor ((h13.2 112 x12) % 64) (-1)))), some (.inl x268), some (.inl 0), some (.inl ((zxor ((h13.2 112 x12) % 64) x268) + 64)), some (.inl 1)]) (zdk ttX8_fewestCrossings 109 rfl rfl) (by decide) rfl ?_
                              refine zj_iload (zdk ttX8_fewestCrossings 110 rfl rfl) rfl ?_
                              refine zj_if_eq (t := 251) (zdk ttX8_fewestCrossings 111 rfl rfl) (by decide) (by decide) (fun c346 => ?_) (fun c346 => ?_)
                              · refine zj_iinc (L' := [some (.inr 108), some (.inr p1), some (.inl p2), some (.inl p3), some (.inl ((zshl 1 p2) - 1)), some (.inl x267), some (.inl x12), some (.inl (h13.2 112 x12)), some (.inl ((h13.2 112 x12) % 64)), some (.inl 0), some (.inl (zand ((zshl 1 p2) - 1) (zxor ((h13.2 112 x12) % 64) (-1)))), some (.inl (x268 + 1)), some (.inl 0), some (.inl ((zxor ((h13.2 112 x12) % 64) x268) + 64)), some (.inl 1)]) (zdk ttX8_fewestCrossings 138 rfl rfl) rfl (by decide) rfl ?_
                                refine zj_goto (t := 119) (zdk ttX8_fewestCrossings 139 rfl rfl) (by decide) ?_
                                refine zj_kill (k := 12) (L' := [some (.inr 108), some (.inr p1), some (.inl p2), some (.inl p3), some (.inl ((zshl 1 p2) - 1)), some (.inl x267), some (.inl x12), some (.inl (h13.2 112 x12)), some (.inl ((h13.2 112 x12) % 64)), some (.inl 0), some (.inl (zand ((zshl 1 p2) - 1) (zxor ((h13.2 112 x12) % 64) (-1)))), some (.inl (x268 + 1)), none, some (.inl ((zxor ((h13.2 112 x12) % 64) x268) + 64)), some (.inl 1)]) rfl ?_
                                refine zj_kill (k := 13) (L' := [some (.inr 108), some (.inr p1), some (.inl p2), some (.inl p3), some (.inl ((zshl 1 p2) - 1)), some (.inl x267), some (.inl x12), some (.inl (h13.2 112 x12)), some (.inl ((h13.2 112 x12) % 64)), some (.inl 0), some (.inl (zand ((zshl 1 p2) - 1) (zxor ((h13.2 112 x12) % 64) (-1)))), some (.inl (x268 + 1)), none, none, some (.inl 1)]) rfl ?_
                                refine zj_kill (k := 14) (L' := [some (.inr 108), some (.inr p1), some (.inl p2), some (.inl p3), some (.inl ((zshl 1 p2) - 1)), some (.inl x267), some (.inl x12), some (.inl (h13.2 112 x12)), some (.inl ((h13.2 112 x12) % 64)), some (.inl 0), some (.inl (zand ((zshl 1 p2) - 1) (zxor ((h13.2 112 x12) % 64) (-1)))), some (.inl (x268 + 1)), none, none, none]) rfl ?_
                                have f347 : (zand ((zshl 1 p2) - 1) (zxor ((h13.2 112 x12) % 64) (-1))) = fyF ((zshl 1 p2) - 1) (h13.2 112 x12) := by first | exact fyF_0 (by omega) (by omega) | exact fyF_1 (by omega) (by omega)
                                have n348 : fyN (h13.2 112 x12) x268 = ((zxor ((h13.2 112 x12) % 64) x268) + 64) := fyN_e (o := ((h13.2 112 x12) % 64)) (by omega) (by first | exact Or.inl ⟨by omega, by omega⟩ | exact Or.inr ⟨by omega, by omega⟩)
                                exact ih330  x267 (x268 + 1) h269 (by omega) (by omega) s270 f271 u324 (fyP_s u325 (fun e9 => by obtain ⟨ea, eb, ec, ed⟩ := e9; rw [n348]; rw [← f347] at eb ed; intro z9; first | omega | exact absurd ed (by rcases u314 with k9 | k9; exact absurd k9.1 (by omega); exact k9.2) | exact fyQ_f u324 (by omega) (by omega) z9)) u326 (by omega) u328 (by omega)
                              · exact absurd c346 (by omega)
                        · exact absurd c336 (by omega)
                      · refine zj_iload (zdk ttX8_fewestCrossings 77 rfl rfl) rfl ?_
                        refine zj_callS (av := [.inl x268]) (st := []) (zdk ttX8_fewestCrossings 78 rfl rfl) mb_J6_bitCount_0f7a4 ms_RX8_46 rfl rfl (Nat.le_of_ble_eq_true rfl) (s2_J6_bitCount_0f7a4 shC l h269 x268) (rm_ok (by decide) (by decide)) (zq_i fun v349 h350 q351 => ?_)
                        obtain ⟨rfl, b352⟩ := q351
                        rw [zbc_6 (by omega)] at b352
                        have b352b := fyp_b x268
                        have b352c : 0 ≤ v349 ∧ v349 ≤ 6 := by omega
                        refine zj_iload_n (zdk ttX8_fewestCrossings 79 rfl rfl) rfl ?_
                        refine zj_icmp_gt (t := 149) (zdk ttX8_fewestCrossings 80 rfl rfl) (by decide) (by omega) (by omega) (fun c353 => ?_) (fun c353 => ?_)
                        · refine zj_iconst (zdk ttX8_fewestCrossings 83 rfl rfl) ?_
                          refine zj_istore (L' := [some (.inr 108), some (.inr p1), some (.inl p2), some (.inl p3), some (.inl ((zshl 1 p2) - 1)), some (.inl x267), some (.inl x12), some (.inl (h13.2 112 x12)), some (.inl ((h13.2 112 x12) % 64)), some (.inl 0), some (.inl (zand ((zshl 1 p2) - 1) (zxor ((h13.2 112 x12) % 64) (-1)))), some (.inl x268), some (.inl 0), none, none]) (zdk ttX8_fewestCrossings 84 rfl rfl) (by decide) rfl ?_
                          refine zj_iload (zdk ttX8_fewestCrossings 85 rfl rfl) rfl ?_
                          refine zj_iload (zdk ttX8_fewestCrossings 86 rfl rfl) rfl ?_
                          refine zj_ixor (zdk ttX8_fewestCrossings 87 rfl rfl) ?_
                          have b354 := zxor_k (a := ((h13.2 112 x12) % 64)) (b := x268) (K := 64) 6 (by decide) (by decide) (by omega) (by omega)
                          refine zj_iload (zdk ttX8_fewestCrossings 88 rfl rfl) rfl ?_
                          refine zj_if_eq (t := 166) (zdk ttX8_fewestCrossings 89 rfl rfl) (by decide) (by decide) (fun c355 => ?_) (fun c355 => ?_)
                          · refine zj_bipush (zdk ttX8_fewestCrossings 92 rfl rfl) (by decide) ?_
                            refine zj_iadd (zdk ttX8_fewestCrossings 93 rfl rfl) ?_
                            refine zj_istore (L' := [some (.inr 108), some (.inr p1), some (.inl p2), some (.inl p3), some (.inl ((zshl 1 p2) - 1)), some (.inl x267), some (.inl x12), some (.inl (h13.2 112 x12)), some (.inl ((h13.2 112 x12) % 64)), some (.inl 0), some (.inl (zand ((zshl 1 p2) - 1) (zxor ((h13.2 112 x12) % 64) (-1)))), some (.inl x268), some (.inl 0), some (.inl ((zxor ((h13.2 112 x12) % 64) x268) + 64)), none]) (zdk ttX8_fewestCrossings 94 rfl rfl) (by decide) rfl ?_
                            refine zj_aload_n (zdk ttX8_fewestCrossings 95 rfl rfl) rfl (by decide) ?_
                            refine zj_getr (r := 111) (zdk ttX8_fewestCrossings 96 rfl rfl) zf_RX8_18 rfl (k_L108 s270) (rf_L108_2 s270) ?_
                            refine zj_iload (zdk ttX8_fewestCrossings 97 rfl rfl) rfl ?_
                            have b356 : -2147483648 ≤ (h269.2 111 ((zxor ((h13.2 112 x12) % 64) x268) + 64)) ∧ (h269.2 111 ((zxor ((h13.2 112 x12) % 64) x268) + 64)) ≤ 2147483647 := ab_L108_2 s270 ((zxor ((h13.2 112 x12) % 64) x268) + 64)
                            refine zj_iald (v := (h269.2 111 ((zxor ((h13.2 112 x12) % 64) x268) + 64))) (zdk ttX8_fewestCrossings 98 rfl rfl) (ka_L108_2 s270) (by decide) (by omega) rfl ?_
                            refine zj_iconst (zdk ttX8_fewestCrossings 99 rfl rfl) ?_
                            refine zj_icmp_ne (t := 196) (zdk ttX8_fewestCrossings 100 rfl rfl) (by decide) (by omega) (by decide) (fun c357 => ?_) (fun c357 => ?_)
                            · refine zj_iconst (zdk ttX8_fewestCrossings 108 rfl rfl) ?_
                              refine zj_istore (L' := [some (.inr 108), some (.inr p1), some (.inl p2), some (.inl p3), some (.inl ((zshl 1 p2) - 1)), some (.inl x267), some (.inl x12), some (.inl (h13.2 112 x12)), some (.inl ((h13.2 112 x12) % 64)), some (.inl 0), some (.inl (zand ((zshl 1 p2) - 1) (zxor ((h13.2 112 x12) % 64) (-1)))), some (.inl x268), some (.inl 0), some (.inl ((zxor ((h13.2 112 x12) % 64) x268) + 64)), some (.inl 0)]) (zdk ttX8_fewestCrossings 109 rfl rfl) (by decide) rfl ?_
                              refine zj_iload (zdk ttX8_fewestCrossings 110 rfl rfl) rfl ?_
                              refine zj_if_eq (t := 251) (zdk ttX8_fewestCrossings 111 rfl rfl) (by decide) (by decide) (fun c358 => ?_) (fun c358 => ?_)
                              · refine zj_iinc (L' := [some (.inr 108), some (.inr p1), some (.inl p2), some (.inl p3), some (.inl ((zshl 1 p2) - 1)), some (.inl x267), some (.inl x12), some (.inl (h13.2 112 x12)), some (.inl ((h13.2 112 x12) % 64)), some (.inl 0), some (.inl (zand ((zshl 1 p2) - 1) (zxor ((h13.2 112 x12) % 64) (-1)))), some (.inl (x268 + 1)), some (.inl 0), some (.inl ((zxor ((h13.2 112 x12) % 64) x268) + 64)), some (.inl 0)]) (zdk ttX8_fewestCrossings 138 rfl rfl) rfl (by decide) rfl ?_
                                refine zj_goto (t := 119) (zdk ttX8_fewestCrossings 139 rfl rfl) (by decide) ?_
                                refine zj_kill (k := 12) (L' := [some (.inr 108), some (.inr p1), some (.inl p2), some (.inl p3), some (.inl ((zshl 1 p2) - 1)), some (.inl x267), some (.inl x12), some (.inl (h13.2 112 x12)), some (.inl ((h13.2 112 x12) % 64)), some (.inl 0), some (.inl (zand ((zshl 1 p2) - 1) (zxor ((h13.2 112 x12) % 64) (-1)))), some (.inl (x268 + 1)), none, some (.inl ((zxor ((h13.2 112 x12) % 64) x268) + 64)), some (.inl 0)]) rfl ?_
                                refine zj_kill (k := 13) (L' := [some (.inr 108), some (.inr p1), some (.inl p2), some (.inl p3), some (.inl ((zshl 1 p2) - 1)), some (.inl x267), some (.inl x12), some (.inl (h13.2 112 x12)), some (.inl ((h13.2 112 x12) % 64)), some (.inl 0), some (.inl (zand ((zshl 1 p2) - 1) (zxor ((h13.2 112 x12) % 64) (-1)))), some (.inl (x268 + 1)), none, none, some (.inl 0)]) rfl ?_
                                refine zj_kill (k := 14) (L' := [some (.inr 108), some (.inr p1), some (.inl p2), some (.inl p3), some (.inl ((zshl 1 p2) - 1)), some (.inl x267), some (.inl x12), some (.inl (h13.2 112 x12)), some (.inl ((h13.2 112 x12) % 64)), some (.inl 0), some (.inl (zand ((zshl 1 p2) - 1) (zxor ((h13.2 112 x12) % 64) (-1)))), some (.inl (x268 + 1)), none, none, none]) rfl ?_
                                have f359 : (zand ((zshl 1 p2) - 1) (zxor ((h13.2 112 x12) % 64) (-1))) = fyF ((zshl 1 p2) - 1) (h13.2 112 x12) := by first | exact fyF_0 (by omega) (by omega) | exact fyF_1 (by omega) (by omega)
                                have n360 : fyN (h13.2 112 x12) x268 = ((zxor ((h13.2 112 x12) % 64) x268) + 64) := fyN_e (o := ((h13.2 112 x12) % 64)) (by omega) (by first | exact Or.inl ⟨by omega, by omega⟩ | exact Or.inr ⟨by omega, by omega⟩)
                                exact ih330  x267 (x268 + 1) h269 (by omega) (by omega) s270 f271 u324 (fyP_s u325 (fun e9 => by obtain ⟨ea, eb, ec, ed⟩ := e9; rw [n360]; rw [← f359] at eb ed; intro z9; first | omega | exact absurd ed (by rcases u314 with k9 | k9; exact absurd k9.1 (by omega); exact k9.2) | exact fyQ_f u324 (by omega) (by omega) z9)) u326 (by omega) u328 (by omega)
                              · exact absurd c358 (by omega)
                            · refine zj_iload (zdk ttX8_fewestCrossings 101 rfl rfl) rfl ?_
                              refine zj_aload_n (zdk ttX8_fewestCrossings 102 rfl rfl) rfl (by decide) ?_
                              refine zj_getr (r := 112) (zdk ttX8_fewestCrossings 103 rfl rfl) zf_RX8_21 rfl (k_L108 s270) (rf_L108_3 s270) ?_
                              refine zj_alen (zdk ttX8_fewestCrossings 104 rfl rfl) (ka_L108_3 s270) ?_
                              refine zj_icmp_ge (t := 196) (zdk ttX8_fewestCrossings 105 rfl rfl) (by decide) (by omega) (by decide) (fun c361 => ?_) (fun c361 => ?_)
                              · refine zj_iconst (zdk ttX8_fewestCrossings 108 rfl rfl) ?_
                                refine zj_istore (L' := [some (.inr 108), some (.inr p1), some (.inl p2), some (.inl p3), some (.inl ((zshl 1 p2) - 1)), some (.inl x267), some (.inl x12), some (.inl (h13.2 112 x12)), some (.inl ((h13.2 112 x12) % 64)), some (.inl 0), some (.inl (zand ((zshl 1 p2) - 1) (zxor ((h13.2 112 x12) % 64) (-1)))), some (.inl x268), some (.inl 0), some (.inl ((zxor ((h13.2 112 x12) % 64) x268) + 64)), some (.inl 0)]) (zdk ttX8_fewestCrossings 109 rfl rfl) (by decide) rfl ?_
                                refine zj_iload (zdk ttX8_fewestCrossings 110 rfl rfl) rfl ?_
                                refine zj_if_eq (t := 251) (zdk ttX8_fewestCrossings 111 rfl rfl) (by decide) (by decide) (fun c362 => ?_) (fun c362 => ?_)
                                · refine zj_iinc (L' := [some (.inr 108), some (.inr p1), some (.inl p2), some (.inl p3), some (.inl ((zshl 1 p2) - 1)), some (.inl x267), some (.inl x12), some (.inl (h13.2 112 x12)), some (.inl ((h13.2 112 x12) % 64)), some (.inl 0), some (.inl (zand ((zshl 1 p2) - 1) (zxor ((h13.2 112 x12) % 64) (-1)))), some (.inl (x268 + 1)), some (.inl 0), some (.inl ((zxor ((h13.2 112 x12) % 64) x268) + 64)), some (.inl 0)]) (zdk ttX8_fewestCrossings 138 rfl rfl) rfl (by decide) rfl ?_
                                  refine zj_goto (t := 119) (zdk ttX8_fewestCrossings 139 rfl rfl) (by decide) ?_
                                  refine zj_kill (k := 12) (L' := [some (.inr 108), some (.inr p1), some (.inl p2), some (.inl p3), some (.inl ((zshl 1 p2) - 1)), some (.inl x267), some (.inl x12), some (.inl (h13.2 112 x12)), some (.inl ((h13.2 112 x12) % 64)), some (.inl 0), some (.inl (zand ((zshl 1 p2) - 1) (zxor ((h13.2 112 x12) % 64) (-1)))), some (.inl (x268 + 1)), none, some (.inl ((zxor ((h13.2 112 x12) % 64) x268) + 64)), some (.inl 0)]) rfl ?_
                                  refine zj_kill (k := 13) (L' := [some (.inr 108), some (.inr p1), some (.inl p2), some (.inl p3), some (.inl ((zshl 1 p2) - 1)), some (.inl x267), some (.inl x12), some (.inl (h13.2 112 x12)), some (.inl ((h13.2 112 x12) % 64)), some (.inl 0), some (.inl (zand ((zshl 1 p2) - 1) (zxor ((h13.2 112 x12) % 64) (-1)))), some (.inl (x268 + 1)), none, none, some (.inl 0)]) rfl ?_
                                  refine zj_kill (k := 14) (L' := [some (.inr 108), some (.inr p1), some (.inl p2), some (.inl p3), some (.inl ((zshl 1 p2) - 1)), some (.inl x267), some (.inl x12), some (.inl (h13.2 112 x12)), some (.inl ((h13.2 112 x12) % 64)), some (.inl 0), some (.inl (zand ((zshl 1 p2) - 1) (zxor ((h13.2 112 x12) % 64) (-1)))), some (.inl (x268 + 1)), none, none, none]) rfl ?_
                                  have f363 : (zand ((zshl 1 p2) - 1) (zxor ((h13.2 112 x12) % 64) (-1))) = fyF ((zshl 1 p2) - 1) (h13.2 112 x12) := by first | exact fyF_0 (by omega) (by omega) | exact fyF_1 (by omega) (by omega)
                                  have n364 : fyN (h13.2 112 x12) x268 = ((zxor ((h13.2 112 x12) % 64) x268) + 64) := fyN_e (o := ((h13.2 112 x12) % 64)) (by omega) (by first | exact Or.inl ⟨by omega, by omega⟩ | exact Or.inr ⟨by omega, by omega⟩)
                                  exact ih330  x267 (x268 + 1) h269 (by omega) (by omega) s270 f271 u324 (fyP_s u325 (fun e9 => by obtain ⟨ea, eb, ec, ed⟩ := e9; rw [n364]; rw [← f363] at eb ed; intro z9; first | omega | exact absurd ed (by rcases u314 with k9 | k9; exact absurd k9.1 (by omega); exact k9.2) | exact fyQ_f u324 (by omega) (by omega) z9)) u326 (by omega) u328 (by omega)
                                · exact absurd c362 (by omega)
                              · refine zj_iconst (zdk ttX8_fewestCrossings 106 rfl rfl) ?_
                                refine zj_goto (t := 197) (zdk ttX8_fewestCrossings 107 rfl rfl) (by decide) ?_
                                refine zj_istore (L' := [some (.inr 108), some (.inr p1), some (.inl p2), some (.inl p3), some (.inl ((zshl 1 p2) - 1)), some (.inl x267), some (.inl x12), some (.inl (h13.2 112 x12)), some (.inl ((h13.2 112 x12) % 64)), some (.inl 0), some (.inl (zand ((zshl 1 p2) - 1) (zxor ((h13.2 112 x12) % 64) (-1)))), some (.inl x268), some (.inl 0), some (.inl ((zxor ((h13.2 112 x12) % 64) x268) + 64)), some (.inl 1)]) (zdk ttX8_fewestCrossings 109 rfl rfl) (by decide) rfl ?_
                                refine zj_iload (zdk ttX8_fewestCrossings 110 rfl rfl) rfl ?_
                                refine zj_if_eq (t := 251) (zdk ttX8_fewestCrossings 111 rfl rfl) (by decide) (by decide) (fun c365 => ?_) (fun c365 => ?_)
                                · refine zj_iinc (L' := [some (.inr 108), some (.inr p1), some (.inl p2), some (.inl p3), some (.inl ((zshl 1 p2) - 1)), some (.inl x267), some (.inl x12), some (.inl (h13.2 112 x12)), some (.inl ((h13.2 112 x12) % 64)), some (.inl 0), some (.inl (zand ((zshl 1 p2) - 1) (zxor ((h13.2 112 x12) % 64) (-1)))), some (.inl (x268 + 1)), some (.inl 0), some (.inl ((zxor ((h13.2 112 x12) % 64) x268) + 64)), some (.inl 1)]) (zdk ttX8_fewestCrossings 138 rfl rfl) rfl (by decide) rfl ?_
                                  refine zj_goto (t := 119) (zdk ttX8_fewestCrossings 139 rfl rfl) (by decide) ?_
                                  refine zj_kill (k := 12) (L' := [some (.inr 108), some (.inr p1), some (.inl p2), some (.inl p3), some (.inl ((zshl 1 p2) - 1)), some (.inl x267), some (.inl x12), some (.inl (h13.2 112 x12)), some (.inl ((h13.2 112 x12) % 64)), some (.inl 0), some (.inl (zand ((zshl 1 p2) - 1) (zxor ((h13.2 112 x12) % 64) (-1)))), some (.inl (x268 + 1)), none, some (.inl ((zxor ((h13.2 112 x12) % 64) x268) + 64)), some (.inl 1)]) rfl ?_
                                  refine zj_kill (k := 13) (L' := [some (.inr 108), some (.inr p1), some (.inl p2), some (.inl p3), some (.inl ((zshl 1 p2) - 1)), some (.inl x267), some (.inl x12), some (.inl (h13.2 112 x12)), some (.inl ((h13.2 112 x12) % 64)), some (.inl 0), some (.inl (zand ((zshl 1 p2) - 1) (zxor ((h13.2 112 x12) % 64) (-1)))), some (.inl (x268 + 1)), none, none, some (.inl 1)]) rfl ?_
                                  refine zj_kill (k := 14) (L' := [some (.inr 108), some (.inr p1), some (.inl p2), some (.inl p3), some (.inl ((zshl 1 p2) - 1)), some (.inl x267), some (.inl x12), some (.inl (h13.2 112 x12)), some (.inl ((h13.2 112 x12) % 64)), some (.inl 0), some (.inl (zand ((zshl 1 p2) - 1) (zxor ((h13.2 112 x12) % 64) (-1)))), some (.inl (x268 + 1)), none, none, none]) rfl ?_
                                  have f366 : (zand ((zshl 1 p2) - 1) (zxor ((h13.2 112 x12) % 64) (-1))) = fyF ((zshl 1 p2) - 1) (h13.2 112 x12) := by first | exact fyF_0 (by omega) (by omega) | exact fyF_1 (by omega) (by omega)
                                  have n367 : fyN (h13.2 112 x12) x268 = ((zxor ((h13.2 112 x12) % 64) x268) + 64) := fyN_e (o := ((h13.2 112 x12) % 64)) (by omega) (by first | exact Or.inl ⟨by omega, by omega⟩ | exact Or.inr ⟨by omega, by omega⟩)
                                  exact ih330  x267 (x268 + 1) h269 (by omega) (by omega) s270 f271 u324 (fyP_s u325 (fun e9 => by obtain ⟨ea, eb, ec, ed⟩ := e9; rw [n367]; rw [← f366] at eb ed; intro z9; first | omega | exact absurd ed (by rcases u314 with k9 | k9; exact absurd k9.1 (by omega); exact k9.2) | exact fyQ_f u324 (by omega) (by omega) z9)) u326 (by omega) u328 (by omega)
                                · exact absurd c365 (by omega)
                          · exact absurd c355 (by omega)
                        · refine zj_iconst (zdk ttX8_fewestCrossings 81 rfl rfl) ?_
                          refine zj_goto (t := 150) (zdk ttX8_fewestCrossings 82 rfl rfl) (by decide) ?_
                          refine zj_istore (L' := [some (.inr 108), some (.inr p1), some (.inl p2), some (.inl p3), some (.inl ((zshl 1 p2) - 1)), some (.inl x267), some (.inl x12), some (.inl (h13.2 112 x12)), some (.inl ((h13.2 112 x12) % 64)), some (.inl 0), some (.inl (zand ((zshl 1 p2) - 1) (zxor ((h13.2 112 x12) % 64) (-1)))), some (.inl x268), some (.inl 1), none, none]) (zdk ttX8_fewestCrossings 84 rfl rfl) (by decide) rfl ?_
                          refine zj_iload (zdk ttX8_fewestCrossings 85 rfl rfl) rfl ?_
                          refine zj_iload (zdk ttX8_fewestCrossings 86 rfl rfl) rfl ?_
                          refine zj_ixor (zdk ttX8_fewestCrossings 87 rfl rfl) ?_
                          have b368 := zxor_k (a := ((h13.2 112 x12) % 64)) (b := x268) (K := 64) 6 (by decide) (by decide) (by omega) (by omega)
                          refine zj_iload (zdk ttX8_fewestCrossings 88 rfl rfl) rfl ?_
                          refine zj_if_eq (t := 166) (zdk ttX8_fewestCrossings 89 rfl rfl) (by decide) (by decide) (fun c369 => ?_) (fun c369 => ?_)
                          · refine zj_bipush (zdk ttX8_fewestCrossings 92 rfl rfl) (by decide) ?_
                            refine zj_iadd (zdk ttX8_fewestCrossings 93 rfl rfl) ?_
                            refine zj_istore (L' := [some (.inr 108), some (.inr p1), some (.inl p2), some (.inl p3), some (.inl ((zshl 1 p2) - 1)), some (.inl x267), some (.inl x12), some (.inl (h13.2 112 x12)), some (.inl ((h13.2 112 x12) % 64)), some (.inl 0), some (.inl (zand ((zshl 1 p2) - 1) (zxor ((h13.2 112 x12) % 64) (-1)))), some (.inl x268), some (.inl 1), some (.inl ((zxor ((h13.2 112 x12) % 64) x268) + 64)), none]) (zdk ttX8_fewestCrossings 94 rfl rfl) (by decide) rfl ?_
                            refine zj_aload_n (zdk ttX8_fewestCrossings 95 rfl rfl) rfl (by decide) ?_
                            refine zj_getr (r := 111) (zdk ttX8_fewestCrossings 96 rfl rfl) zf_RX8_18 rfl (k_L108 s270) (rf_L108_2 s270) ?_
                            refine zj_iload (zdk ttX8_fewestCrossings 97 rfl rfl) rfl ?_
                            have b370 : -2147483648 ≤ (h269.2 111 ((zxor ((h13.2 112 x12) % 64) x268) + 64)) ∧ (h269.2 111 ((zxor ((h13.2 112 x12) % 64) x268) + 64)) ≤ 2147483647 := ab_L108_2 s270 ((zxor ((h13.2 112 x12) % 64) x268) + 64)
                            refine zj_iald (v := (h269.2 111 ((zxor ((h13.2 112 x12) % 64) x268) + 64))) (zdk ttX8_fewestCrossings 98 rfl rfl) (ka_L108_2 s270) (by decide) (by omega) rfl ?_
                            refine zj_iconst (zdk ttX8_fewestCrossings 99 rfl rfl) ?_
                            refine zj_icmp_ne (t := 196) (zdk ttX8_fewestCrossings 100 rfl rfl) (by decide) (by omega) (by decide) (fun c371 => ?_) (fun c371 => ?_)
                            · refine zj_iconst (zdk ttX8_fewestCrossings 108 rfl rfl) ?_
                              refine zj_istore (L' := [some (.inr 108), some (.inr p1), some (.inl p2), some (.inl p3), some (.inl ((zshl 1 p2) - 1)), some (.inl x267), some (.inl x12), some (.inl (h13.2 112 x12)), some (.inl ((h13.2 112 x12) % 64)), some (.inl 0), some (.inl (zand ((zshl 1 p2) - 1) (zxor ((h13.2 112 x12) % 64) (-1)))), some (.inl x268), some (.inl 1), some (.inl ((zxor ((h13.2 112 x12) % 64) x268) + 64)), some (.inl 0)]) (zdk ttX8_fewestCrossings 109 rfl rfl) (by decide) rfl ?_
                              refine zj_iload (zdk ttX8_fewestCrossings 110 rfl rfl) rfl ?_
                              refine zj_if_eq (t := 251) (zdk ttX8_fewestCrossings 111 rfl rfl) (by decide) (by decide) (fun c372 => ?_) (fun c372 => ?_)
                              · exact absurd c372 (by omega)
                              · refine zj_iload (zdk ttX8_fewestCrossings 112 rfl rfl) rfl ?_
                                refine zj_if_eq (t := 251) (zdk ttX8_fewestCrossings 113 rfl rfl) (by decide) (by decide) (fun c373 => ?_) (fun c373 => ?_)
                                · refine zj_iinc (L' := [some (.inr 108), some (.inr p1), some (.inl p2), some (.inl p3), some (.inl ((zshl 1 p2) - 1)), some (.inl x267), some (.inl x12), some (.inl (h13.2 112 x12)), some (.inl ((h13.2 112 x12) % 64)), some (.inl 0), some (.inl (zand ((zshl 1 p2) - 1) (zxor ((h13.2 112 x12) % 64) (-1)))), some (.inl (x268 + 1)), some (.inl 1), some (.inl ((zxor ((h13.2 112 x12) % 64) x268) + 64)), some (.inl 0)]) (zdk ttX8_fewestCrossings 138 rfl rfl) rfl (by decide) rfl ?_
                                  refine zj_goto (t := 119) (zdk ttX8_fewestCrossings 139 rfl rfl) (by decide) ?_
                                  refine zj_kill (k := 12) (L' := [some (.inr 108), some (.inr p1), some (.inl p2), some (.inl p3), some (.inl ((zshl 1 p2) - 1)), some (.inl x267), some (.inl x12), some (.inl (h13.2 112 x12)), some (.inl ((h13.2 112 x12) % 64)), some (.inl 0), some (.inl (zand ((zshl 1 p2) - 1) (zxor ((h13.2 112 x12) % 64) (-1)))), some (.inl (x268 + 1)), none, some (.inl ((zxor ((h13.2 112 x12) % 64) x268) + 64)), some (.inl 0)]) rfl ?_
                                  refine zj_kill (k := 13) (L' := [some (.inr 108), some (.inr p1), some (.inl p2), some (.inl p3), some (.inl ((zshl 1 p2) - 1)), some (.inl x267), some (.inl x12), some (.inl (h13.2 112 x12)), some (.inl ((h13.2 112 x12) % 64)), some (.inl 0), some (.inl (zand ((zshl 1 p2) - 1) (zxor ((h13.2 112 x12) % 64) (-1)))), some (.inl (x268 + 1)), none, none, some (.inl 0)]) rfl ?_
                                  refine zj_kill (k := 14) (L' := [some (.inr 108), some (.inr p1), some (.inl p2), some (.inl p3), some (.inl ((zshl 1 p2) - 1)), some (.inl x267), some (.inl x12), some (.inl (h13.2 112 x12)), some (.inl ((h13.2 112 x12) % 64)), some (.inl 0), some (.inl (zand ((zshl 1 p2) - 1) (zxor ((h13.2 112 x12) % 64) (-1)))), some (.inl (x268 + 1)), none, none, none]) rfl ?_
                                  have f374 : (zand ((zshl 1 p2) - 1) (zxor ((h13.2 112 x12) % 64) (-1))) = fyF ((zshl 1 p2) - 1) (h13.2 112 x12) := by first | exact fyF_0 (by omega) (by omega) | exact fyF_1 (by omega) (by omega)
                                  have n375 : fyN (h13.2 112 x12) x268 = ((zxor ((h13.2 112 x12) % 64) x268) + 64) := fyN_e (o := ((h13.2 112 x12) % 64)) (by omega) (by first | exact Or.inl ⟨by omega, by omega⟩ | exact Or.inr ⟨by omega, by omega⟩)
                                  exact ih330  x267 (x268 + 1) h269 (by omega) (by omega) s270 f271 u324 (fyP_s u325 (fun e9 => by obtain ⟨ea, eb, ec, ed⟩ := e9; rw [n375]; rw [← f374] at eb ed; intro z9; first | omega | exact absurd ed (by rcases u314 with k9 | k9; exact absurd k9.1 (by omega); exact k9.2) | exact fyQ_f u324 (by omega) (by omega) z9)) u326 (by omega) u328 (by omega)
                                · exact absurd c373 (by omega)
                            · refine zj_iload (zdk ttX8_fewestCrossings 101 rfl rfl) rfl ?_
                              refine zj_aload_n (zdk ttX8_fewestCrossings 102 rfl rfl) rfl (by decide) ?_
                              refine zj_getr (r := 112) (zdk ttX8_fewestCrossings 103 rfl rfl) zf_RX8_21 rfl (k_L108 s270) (rf_L108_3 s270) ?_
                              refine zj_alen (zdk ttX8_fewestCrossings 104 rfl rfl) (ka_L108_3 s270) ?_
                              refine zj_icmp_ge (t := 196) (zdk ttX8_fewestCrossings 105 rfl rfl) (by decide) (by omega) (by decide) (fun c376 => ?_) (fun c376 => ?_)
                              · refine zj_iconst (zdk ttX8_fewestCrossings 108 rfl rfl) ?_
                                refine zj_istore (L' := [some (.inr 108), some (.inr p1), some (.inl p2), some (.inl p3), some (.inl ((zshl 1 p2) - 1)), some (.inl x267), some (.inl x12), some (.inl (h13.2 112 x12)), some (.inl ((h13.2 112 x12) % 64)), some (.inl 0), some (.inl (zand ((zshl 1 p2) - 1) (zxor ((h13.2 112 x12) % 64) (-1)))), some (.inl x268), some (.inl 1), some (.inl ((zxor ((h13.2 112 x12) % 64) x268) + 64)), some (.inl 0)]) (zdk ttX8_fewestCrossings 109 rfl rfl) (by decide) rfl ?_
                                refine zj_iload (zdk ttX8_fewestCrossings 110 rfl rfl) rfl ?_
                                refine zj_if_eq (t := 251) (zdk ttX8_fewestCrossings 111 rfl rfl) (by decide) (by decide) (fun c377 => ?_) (fun c377 => ?_)
                                · exact absurd c377 (by omega)
                                · refine zj_iload (zdk ttX8_fewestCrossings 112 rfl rfl) rfl ?_
                                  refine zj_if_eq (t := 251) (zdk ttX8_fewestCrossings 113 rfl rfl) (by decide) (by decide) (fun c378 => ?_) (fun c378 => ?_)
                                  · refine zj_iinc (L' := [some (.inr 108), some (.inr p1), some (.inl p2), some (.inl p3), some (.inl ((zshl 1 p2) - 1)), some (.inl x267), some (.inl x12), some (.inl (h13.2 112 x12)), some (.inl ((h13.2 112 x12) % 64)), some (.inl 0), some (.inl (zand ((zshl 1 p2) - 1) (zxor ((h13.2 112 x12) % 64) (-1)))), some (.inl (x268 + 1)), some (.inl 1), some (.inl ((zxor ((h13.2 112 x12) % 64) x268) + 64)), some (.inl 0)]) (zdk ttX8_fewestCrossings 138 rfl rfl) rfl (by decide) rfl ?_
                                    refine zj_goto (t := 119) (zdk ttX8_fewestCrossings 139 rfl rfl) (by decide) ?_
                                    refine zj_kill (k := 12) (L' := [some (.inr 108), some (.inr p1), some (.inl p2), some (.inl p3), some (.inl ((zshl 1 p2) - 1)), some (.inl x267), some (.inl x12), some (.inl (h13.2 112 x12)), some (.inl ((h13.2 112 x12) % 64)), some (.inl 0), some (.inl (zand ((zshl 1 p2) - 1) (zxor ((h13.2 112 x12) % 64) (-1)))), some (.inl (x268 + 1)), none, some (.inl ((zxor ((h13.2 112 x12) % 64) x268) + 64)), some (.inl 0)]) rfl ?_
                                    refine zj_kill (k := 13) (L' := [some (.inr 108), some (.inr p1), some (.inl p2), some (.inl p3), some (.inl ((zshl 1 p2) - 1)), some (.inl x267), some (.inl x12), some (.inl (h13.2 112 x12)), some (.inl ((h13.2 112 x12) % 64)), some (.inl 0), some (.inl (zand ((zshl 1 p2) - 1) (zxor ((h13.2 112 x12) % 64) (-1)))), some (.inl (x268 + 1)), none, none, some (.inl 0)]) rfl ?_
                                    refine zj_kill (k := 14) (L' := [some (.inr 108), some (.inr p1), some (.inl p2), some (.inl p3), some (.inl ((zshl 1 p2) - 1)), some (.inl x267), some (.inl x12), some (.inl (h13.2 112 x12)), some (.inl ((h13.2 112 x12) % 64)), some (.inl 0), some (.inl (zand ((zshl 1 p2) - 1) (zxor ((h13.2 112 x12) % 64) (-1)))), some (.inl (x268 + 1)), none, none, none]) rfl ?_
                                    have f379 : (zand ((zshl 1 p2) - 1) (zxor ((h13.2 112 x12) % 64) (-1))) = fyF ((zshl 1 p2) - 1) (h13.2 112 x12) := by first | exact fyF_0 (by omega) (by omega) | exact fyF_1 (by omega) (by omega)
                                    have n380 : fyN (h13.2 112 x12) x268 = ((zxor ((h13.2 112 x12) % 64) x268) + 64) := fyN_e (o := ((h13.2 112 x12) % 64)) (by omega) (by first | exact Or.inl ⟨by omega, by omega⟩ | exact Or.inr ⟨by omega, by omega⟩)
                                    exact ih330  x267 (x268 + 1) h269 (by omega) (by omega) s270 f271 u324 (fyP_s u325 (fun e9 => by obtain ⟨ea, eb, ec, ed⟩ := e9; rw [n380]; rw [← f379] at eb ed; intro z9; first | omega | exact absurd ed (by rcases u314 with k9 | k9; exact absurd k9.1 (by omega); exact k9.2) | exact fyQ_f u324 (by omega) (by omega) z9)) u326 (by omega) u328 (by omega)
                                  · exact absurd c378 (by omega)
                              · refine zj_iconst (zdk ttX8_fewestCrossings 106 rfl rfl) ?_
                                refine zj_goto (t := 197) (zdk ttX8_fewestCrossings 107 rfl rfl) (by decide) ?_
                                refine zj_istore (L' := [some (.inr 108), some (.inr p1), some (.inl p2), some (.inl p3), some (.inl ((zshl 1 p2) - 1)), some (.inl x267), some (.inl x12), some (.inl (h13.2 112 x12)), some (.inl ((h13.2 112 x12) % 64)), some (.inl 0), some (.inl (zand ((zshl 1 p2) - 1) (zxor ((h13.2 112 x12) % 64) (-1)))), some (.inl x268), some (.inl 1), some (.inl ((zxor ((h13.2 112 x12) % 64) x268) + 64)), some (.inl 1)]) (zdk ttX8_fewestCrossings 109 rfl rfl) (by decide) rfl ?_
                                refine zj_iload (zdk ttX8_fewestCrossings 110 rfl rfl) rfl ?_
                                refine zj_if_eq (t := 251) (zdk ttX8_fewestCrossings 111 rfl rfl) (by decide) (by decide) (fun c381 => ?_) (fun c381 => ?_)
                                · exact absurd c381 (by omega)
                                · refine zj_iload (zdk ttX8_fewestCrossings 112 rfl rfl) rfl ?_
                                  refine zj_if_eq (t := 251) (zdk ttX8_fewestCrossings 113 rfl rfl) (by decide) (by decide) (fun c382 => ?_) (fun c382 => ?_)
                                  · exact absurd c382 (by omega)
                                  · refine zj_aload_n (zdk ttX8_fewestCrossings 114 rfl rfl) rfl (by omega) ?_
                                    refine zj_iload (zdk ttX8_fewestCrossings 115 rfl rfl) rfl ?_
                                    refine zj_iload (zdk ttX8_fewestCrossings 116 rfl rfl) rfl ?_
                                    refine zj_iconst (zdk ttX8_fewestCrossings 117 rfl rfl) ?_
                                    refine zj_ixor (zdk ttX8_fewestCrossings 118 rfl rfl) ?_
                                    have b383 := zxor_in x268 (-1)
                                    refine zj_iand (zdk ttX8_fewestCrossings 119 rfl rfl) ?_
                                    have b384 := zand_l (a := (zand ((zshl 1 p2) - 1) (zxor ((h13.2 112 x12) % 64) (-1)))) (by omega) (zxor x268 (-1))
                                    refine zj_callV (av := [.inl (zand (zand ((zshl 1 p2) - 1) (zxor ((h13.2 112 x12) % 64) (-1))) (zxor x268 (-1)))]) (st := []) (zdk ttX8_fewestCrossings 120 rfl rfl) mb_X5_isSafe mv_RX8_51 (ci := 5) rfl rfl (k_5_0 s270 r_p1) rfl rfl (Nat.le_of_ble_eq_true rfl) (s2_X5_isSafe l h269 p1 (zand (zand ((zshl 1 p2) - 1) (zxor ((h13.2 112 x12) % 64) (-1))) (zxor x268 (-1))) s270 r_p1 (by omega)) (rm_ok (by decide) (by decide)) (zq_i fun v386 h387 q385 => ?_)
                                    obtain ⟨rfl, b388, u389⟩ := q385
                                    have u390 : (v386 = 1 ∧ fyC (h.2 (p1 + 3)) (h.2 p1 4) (zand (zand ((zshl 1 p2) - 1) (zxor ((h13.2 112 x12) % 64) (-1))) (zxor x268 (-1)))) ∨ (v386 = 0 ∧ ¬ fyC (h.2 (p1 + 3)) (h.2 p1 4) (zand (zand ((zshl 1 p2) - 1) (zxor ((h13.2 112 x12) % 64) (-1))) (zxor x268 (-1)))) := by have z8 := u389; rw [show h269.2 (p1 + 3) = h.2 (p1 + 3) from funext fun i9 => (zfC_a f271 (fun z9 => by unfold w_X8_fewestCrossings at z9; omega)), show h269.2 p1 4 = h.2 p1 4 from (zfC_a f271 (fun z9 => by unfold w_X8_fewestCrossings at z9; omega))] at z8; exact z8
                                    refine zj_if_eq (t := 251) (zdk ttX8_fewestCrossings 121 rfl rfl) (by decide) (by omega) (fun c391 => ?_) (fun c391 => ?_)
                                    · refine zj_iinc (L' := [some (.inr 108), some (.inr p1), some (.inl p2), some (.inl p3), some (.inl ((zshl 1 p2) - 1)), some (.inl x267), some (.inl x12), some (.inl (h13.2 112 x12)), some (.inl ((h13.2 112 x12) % 64)), some (.inl 0), some (.inl (zand ((zshl 1 p2) - 1) (zxor ((h13.2 112 x12) % 64) (-1)))), some (.inl (x268 + 1)), some (.inl 1), some (.inl ((zxor ((h13.2 112 x12) % 64) x268) + 64)), some (.inl 1)]) (zdk ttX8_fewestCrossings 138 rfl rfl) rfl (by decide) rfl ?_
                                      refine zj_goto (t := 119) (zdk ttX8_fewestCrossings 139 rfl rfl) (by decide) ?_
                                      refine zj_kill (k := 12) (L' := [some (.inr 108), some (.inr p1), some (.inl p2), some (.inl p3), some (.inl ((zshl 1 p2) - 1)), some (.inl x267), some (.inl x12), some (.inl (h13.2 112 x12)), some (.inl ((h13.2 112 x12) % 64)), some (.inl 0), some (.inl (zand ((zshl 1 p2) - 1) (zxor ((h13.2 112 x12) % 64) (-1)))), some (.inl (x268 + 1)), none, some (.inl ((zxor ((h13.2 112 x12) % 64) x268) + 64)), some (.inl 1)]) rfl ?_
                                      refine zj_kill (k := 13) (L' := [some (.inr 108), some (.inr p1), some (.inl p2), some (.inl p3), some (.inl ((zshl 1 p2) - 1)), some (.inl x267), some (.inl x12), some (.inl (h13.2 112 x12)), some (.inl ((h13.2 112 x12) % 64)), some (.inl 0), some (.inl (zand ((zshl 1 p2) - 1) (zxor ((h13.2 112 x12) % 64) (-1)))), some (.inl (x268 + 1)), none, none, some (.inl 1)]) rfl ?_
                                      refine zj_kill (k := 14) (L' := [some (.inr 108), some (.inr p1), some (.inl p2), some (.inl p3), some (.inl ((zshl 1 p2) - 1)), some (.inl x267), some (.inl x12), some (.inl (h13.2 112 x12)), some (.inl ((h13.2 112 x12) % 64)), some (.inl 0), some (.inl (zand ((zshl 1 p2) - 1) (zxor ((h13.2 112 x12) % 64) (-1)))), some (.inl (x268 + 1)), none, none, none]) rfl ?_
                                      have f392 : (zand ((zshl 1 p2) - 1) (zxor ((h13.2 112 x12) % 64) (-1))) = fyF ((zshl 1 p2) - 1) (h13.2 112 x12) := by first | exact fyF_0 (by omega) (by omega) | exact fyF_1 (by omega) (by omega)
                                      have n393 : fyN (h13.2 112 x12) x268 = ((zxor ((h13.2 112 x12) % 64) x268) + 64) := fyN_e (o := ((h13.2 112 x12) % 64)) (by omega) (by first | exact Or.inl ⟨by omega, by omega⟩ | exact Or.inr ⟨by omega, by omega⟩)
                                      exact ih330  x267 (x268 + 1) h269 (by omega) (by omega) s270 f271 u324 (fyP_s u325 (fun e9 => by obtain ⟨ea, eb, ec, ed⟩ := e9; rw [n393]; rw [← f392] at eb ed; intro z9; first | omega | exact absurd ed (by rcases u390 with k9 | k9; exact absurd k9.1 (by omega); exact k9.2) | exact fyQ_f u324 (by omega) (by omega) z9)) u326 (by omega) u328 (by omega)
                                    · have b394 : 0 ≤ (h269.2 111 (h13.2 112 x12)) ∧ (h269.2 111 (h13.2 112 x12)) ≤ 127 := by have z9 := (u324.1 x12 (by omega) (by omega)).2.1; rw [u326] at z9; omega
                                      refine zj_aload_n (zdk ttX8_fewestCrossings 122 rfl rfl) rfl (by decide) ?_
                                      refine zj_getr (r := 111) (zdk ttX8_fewestCrossings 123 rfl rfl) zf_RX8_18 rfl (k_L108 s270) (rf_L108_2 s270) ?_
                                      refine zj_iload (zdk ttX8_fewestCrossings 124 rfl rfl) rfl ?_
                                      refine zj_aload_n (zdk ttX8_fewestCrossings 125 rfl rfl) rfl (by decide) ?_
                                      refine zj_getr (r := 111) (zdk ttX8_fewestCrossings 126 rfl rfl) zf_RX8_18 rfl (k_L108 s270) (rf_L108_2 s270) ?_
                                      refine zj_iload (zdk ttX8_fewestCrossings 127 rfl rfl) rfl ?_
                                      refine zj_iald (v := (h269.2 111 (h13.2 112 x12))) (zdk ttX8_fewestCrossings 128 rfl rfl) (ka_L108_2 s270) (by decide) (by omega) rfl ?_
                                      refine zj_iconst (zdk ttX8_fewestCrossings 129 rfl rfl) ?_
                                      refine zj_iadd (zdk ttX8_fewestCrossings 130 rfl rfl) ?_
                                      refine zj_iast (zdk ttX8_fewestCrossings 131 rfl rfl) (ka_L108_2 s270) (by decide) (by omega) (fun h395 e396 => ?_)
                                      refine zj_aload_n (zdk ttX8_fewestCrossings 132 rfl rfl) rfl (by decide) ?_
                                      have s397 : okC h395 := aw_L108_2 s270 e396 (by omega)
                                      refine zj_getr (r := 112) (zdk ttX8_fewestCrossings 133 rfl rfl) zf_RX8_21 rfl (k_L108 s397) (rf_L108_3 s397) ?_
                                      refine zj_iload (zdk ttX8_fewestCrossings 134 rfl rfl) rfl ?_
                                      refine zj_iinc (L' := [some (.inr 108), some (.inr p1), some (.inl p2), some (.inl p3), some (.inl ((zshl 1 p2) - 1)), some (.inl (x267 + 1)), some (.inl x12), some (.inl (h13.2 112 x12)), some (.inl ((h13.2 112 x12) % 64)), some (.inl 0), some (.inl (zand ((zshl 1 p2) - 1) (zxor ((h13.2 112 x12) % 64) (-1)))), some (.inl x268), some (.inl 1), some (.inl ((zxor ((h13.2 112 x12) % 64) x268) + 64)), some (.inl 1)]) (zdk ttX8_fewestCrossings 135 rfl rfl) rfl (by decide) rfl ?_
                                      refine zj_iload (zdk ttX8_fewestCrossings 136 rfl rfl) rfl ?_
                                      refine zj_iast (zdk ttX8_fewestCrossings 137 rfl rfl) (ka_L108_3 s397) (by decide) (by omega) (fun h398 e399 => ?_)
                                      refine zj_iinc (L' := [some (.inr 108), some (.inr p1), some (.inl p2), some (.inl p3), some (.inl ((zshl 1 p2) - 1)), some (.inl (x267 + 1)), some (.inl x12), some (.inl (h13.2 112 x12)), some (.inl ((h13.2 112 x12) % 64)), some (.inl 0), some (.inl (zand ((zshl 1 p2) - 1) (zxor ((h13.2 112 x12) % 64) (-1)))), some (.inl (x268 + 1)), some (.inl 1), some (.inl ((zxor ((h13.2 112 x12) % 64) x268) + 64)), some (.inl 1)]) (zdk ttX8_fewestCrossings 138 rfl rfl) rfl (by decide) rfl ?_
                                      refine zj_goto (t := 119) (zdk ttX8_fewestCrossings 139 rfl rfl) (by decide) ?_
                                      refine zj_kill (k := 12) (L' := [some (.inr 108), some (.inr p1), some (.inl p2), some (.inl p3), some (.inl ((zshl 1 p2) - 1)), some (.inl (x267 + 1)), some (.inl x12), some (.inl (h13.2 112 x12)), some (.inl ((h13.2 112 x12) % 64)), some (.inl 0), some (.inl (zand ((zshl 1 p2) - 1) (zxor ((h13.2 112 x12) % 64) (-1)))), some (.inl (x268 + 1)), none, some (.inl ((zxor ((h13.2 112 x12) % 64) x268) + 64)), some (.inl 1)]) rfl ?_
                                      refine zj_kill (k := 13) (L' := [some (.inr 108), some (.inr p1), some (.inl p2), some (.inl p3), some (.inl ((zshl 1 p2) - 1)), some (.inl (x267 + 1)), some (.inl x12), some (.inl (h13.2 112 x12)), some (.inl ((h13.2 112 x12) % 64)), some (.inl 0), some (.inl (zand ((zshl 1 p2) - 1) (zxor ((h13.2 112 x12) % 64) (-1)))), some (.inl (x268 + 1)), none, none, some (.inl 1)]) rfl ?_
                                      refine zj_kill (k := 14) (L' := [some (.inr 108), some (.inr p1), some (.inl p2), some (.inl p3), some (.inl ((zshl 1 p2) - 1)), some (.inl (x267 + 1)), some (.inl x12), some (.inl (h13.2 112 x12)), some (.inl ((h13.2 112 x12) % 64)), some (.inl 0), some (.inl (zand ((zshl 1 p2) - 1) (zxor ((h13.2 112 x12) % 64) (-1)))), some (.inl (x268 + 1)), none, none, none]) rfl ?_
                                      have s400 : okC h398 := aw_L108_3 s397 e399 (by omega)
                                      have f402 : zfC w_X8_fewestCrossings h h395 := zfC_w f271 e396 (by omega)
                                      have f401 : zfC w_X8_fewestCrossings h h398 := zfC_w f402 e399 (by omega)
                                      have f403 : (zand ((zshl 1 p2) - 1) (zxor ((h13.2 112 x12) % 64) (-1))) = fyF ((zshl 1 p2) - 1) (h13.2 112 x12) := by first | exact fyF_0 (by omega) (by omega) | exact fyF_1 (by omega) (by omega)
                                      have n404 : fyN (h13.2 112 x12) x268 = ((zxor ((h13.2 112 x12) % 64) x268) + 64) := fyN_e (o := ((h13.2 112 x12) % 64)) (by omega) (by first | exact Or.inl ⟨by omega, by omega⟩ | exact Or.inr ⟨by omega, by omega⟩)
                                      have g405 : ∀ s, ¬ s = ((zxor ((h13.2 112 x12) % 64) x268) + 64) → h398.2 111 s = h269.2 111 s := fun s n => (zwr_r e399 (by omega)).trans (zwr_r e396 (by omega))
                                      have g406 : h398.2 111 ((zxor ((h13.2 112 x12) % 64) x268) + 64) = h269.2 111 (h13.2 112 x12) + 1 := (zwr_r e399 (by omega)).trans (zwr_v e396)
                                      have g407 : (fyE (fyC (h.2 (p1 + 3)) (h.2 p1 4)) ((zshl 1 p2) - 1) p3) (h269.2 112 x12) ((zxor ((h13.2 112 x12) % 64) x268) + 64) := by rw [u326]; exact ⟨r9, x268, ⟨by omega, by rw [← f403]; omega, by omega, by rw [← f403]; rcases u390 with k9 | k9; exact k9.2; exact absurd k9.1 (by omega)⟩, n404.symm⟩
                                      exact ih330  (x267 + 1) (x268 + 1) h398 (by omega) (by omega) s400 f401 (fyQ_s hE9 u324 (by omega) (by omega) g407 (by omega) (by rw [u326]; exact g406) g405 (zwr_v e399) (fun i n => (zwr_r e399 (by omega)).trans (zwr_r e396 (by omega)))) (fyP_s (fyP_w u325 g405 (by rw [g406]; omega)) (fun _ => by rw [n404, g406]; omega)) ((zwr_r e399 (by omega)).trans ((zwr_r e396 (by omega)).trans u326)) (by omega) (fun i a b => by rw [zwr_r e399 (by omega), zwr_r e396 (by omega)]; exact u328 i a b) (by omega)
                          · exact absurd c369 (by omega)
                exact lp321 _ x11 0 h13 (by omega) (by omega) s14 f15 u254 fyP_0 rfl (by omega) u255 (Nat.lt_succ_self _)
              · exact absurd c264 (by omega)
            · refine zj_iconst (zdk ttX8_fewestCrossings 52 rfl rfl) ?_
              refine zj_goto (t := 95) (zdk ttX8_fewestCrossings 53 rfl rfl) (by decide) ?_
              refine zj_istore (L' := [some (.inr 108), some (.inr p1), some (.inl p2), some (.inl p3), some (.inl ((zshl 1 p2) - 1)), some (.inl x11), some (.inl x12), some (.inl (h13.2 112 x12)), some (.inl ((h13.2 112 x12) % 64)), some (.inl 1), none, none, none, none, none]) (zdk ttX8_fewestCrossings 55 rfl rfl) (by decide) rfl ?_
              refine zj_iload (zdk ttX8_fewestCrossings 56 rfl rfl) rfl ?_
              refine zj_if_eq (t := 107) (zdk ttX8_fewestCrossings 57 rfl rfl) (by decide) (by decide) (fun c408 => ?_) (fun c408 => ?_)
              · exact absurd c408 (by omega)
              · refine zj_iload (zdk ttX8_fewestCrossings 58 rfl rfl) rfl ?_
                refine zj_goto (t := 114) (zdk ttX8_fewestCrossings 59 rfl rfl) (by decide) ?_
                refine zj_istore (L' := [some (.inr 108), some (.inr p1), some (.inl p2), some (.inl p3), some (.inl ((zshl 1 p2) - 1)), some (.inl x11), some (.inl x12), some (.inl (h13.2 112 x12)), some (.inl ((h13.2 112 x12) % 64)), some (.inl 1), some (.inl ((h13.2 112 x12) % 64)), none, none, none, none]) (zdk ttX8_fewestCrossings 65 rfl rfl) (by decide) rfl ?_
                refine zj_iconst (zdk ttX8_fewestCrossings 66 rfl rfl) ?_
                refine zj_istore (L' := [some (.inr 108), some (.inr p1), some (.inl p2), some (.inl p3), some (.inl ((zshl 1 p2) - 1)), some (.inl x11), some (.inl x12), some (.inl (h13.2 112 x12)), some (.inl ((h13.2 112 x12) % 64)), some (.inl 1), some (.inl ((h13.2 112 x12) % 64)), some (.inl 0), none, none, none]) (zdk ttX8_fewestCrossings 67 rfl rfl) (by decide) rfl ?_
                have lp463 : ∀ (n : Nat) (x409 x410 : Int) (h411 : zM), (1 ≤ x409 ∧ x409 ≤ 128) → (0 ≤ x410 ∧ x410 ≤ 64) → okC h411 → zfC w_X8_fewestCrossings h h411 → (fyQ (fyE (fyC (h.2 (p1 + 3)) (h.2 p1 4)) ((zshl 1 p2) - 1) p3) (h411.2 112) (h411.2 111) x12 x409) → (fyP (fyC (h.2 (p1 + 3)) (h.2 p1 4)) ((zshl 1 p2) - 1) p3 (h411.2 111) (h13.2 112 x12) x410) → (h411.2 112 x12 = (h13.2 112 x12)) → (x12 < x409) → (∀ i, 0 ≤ i → i < x12 → ¬ h411.2 112 i % 64 = ((zshl 1 p2) - 1)) → (65 - x410).toNat < n → zJ shC l yX8_fewestCrossings cX8_fewestCrossings 15 (some .int) (rmL 2) 0 0 (q2_X8_fewestCrossings h p1 p2 p3) 0 0 119 [some (.inr 108), some (.inr p1), some (.inl p2), some (.inl p3), some (.inl ((zshl 1 p2) - 1)), some (.inl x409), some (.inl x12), some (.inl (h13.2 112 x12)), some (.inl ((h13.2 112 x12) % 64)), some (.inl 1), some (.inl ((h13.2 112 x12) % 64)), some (.inl x410), none, none, none] [] h411 := by
                  intro n
                  induction n with
                  | zero => intro x409 x410 h411 b464 b465 s412 f413 u466 u467 u468 u469 u470 m471; exact absurd m471 (Nat.not_lt_zero _)
                  | succ n ih472 =>
                    intro x409 x410 h411 b464 b465 s412 f413 u466 u467 u468 u469 u470 m471
                    refine zj_iload (zdk ttX8_fewestCrossings 68 rfl rfl) rfl ?_
                    refine zj_iload (zdk ttX8_fewestCrossings 69 rfl rfl) rfl ?_
                    refine zj_icmp_gt (t := 257) (zdk ttX8_fewestCrossings 70 rfl rfl) (by decide) (by omega) (by omega) (fun c473 => ?_) (fun c473 => ?_)
                    · refine zj_iinc (L' := [some (.inr 108), some (.inr p1), some (.inl p2), some (.inl p3), some (.inl ((zshl 1 p2) - 1)), some (.inl x409), some (.inl (x12 + 1)), some (.inl (h13.2 112 x12)), some (.inl ((h13.2 112 x12) % 64)), some (.inl 1), some (.inl ((h13.2 112 x12) % 64)), some (.inl x410), none, none, none]) (zdk ttX8_fewestCrossings 140 rfl rfl) rfl (by decide) rfl ?_
                      refine zj_goto (t := 35) (zdk ttX8_fewestCrossings 141 rfl rfl) (by decide) ?_
                      refine zj_kill (k := 7) (L' := [some (.inr 108), some (.inr p1), some (.inl p2), some (.inl p3), some (.inl ((zshl 1 p2) - 1)), some (.inl x409), some (.inl (x12 + 1)), none, some (.inl ((h13.2 112 x12) % 64)), some (.inl 1), some (.inl ((h13.2 112 x12) % 64)), some (.inl x410), none, none, none]) rfl ?_
                      refine zj_kill (k := 8) (L' := [some (.inr 108), some (.inr p1), some (.inl p2), some (.inl p3), some (.inl ((zshl 1 p2) - 1)), some (.inl x409), some (.inl (x12 + 1)), none, none, some (.inl 1), some (.inl ((h13.2 112 x12) % 64)), some (.inl x410), none, none, none]) rfl ?_
                      refine zj_kill (k := 9) (L' := [some (.inr 108), some (.inr p1), some (.inl p2), some (.inl p3), some (.inl ((zshl 1 p2) - 1)), some (.inl x409), some (.inl (x12 + 1)), none, none, none, some (.inl ((h13.2 112 x12) % 64)), some (.inl x410), none, none, none]) rfl ?_
                      refine zj_kill (k := 10) (L' := [some (.inr 108), some (.inr p1), some (.inl p2), some (.inl p3), some (.inl ((zshl 1 p2) - 1)), some (.inl x409), some (.inl (x12 + 1)), none, none, none, none, some (.inl x410), none, none, none]) rfl ?_
                      refine zj_kill (k := 11) (L' := [some (.inr 108), some (.inr p1), some (.inl p2), some (.inl p3), some (.inl ((zshl 1 p2) - 1)), some (.inl x409), some (.inl (x12 + 1)), none, none, none, none, none, none, none, none]) rfl ?_
                      exact ih258  x409 (x12 + 1) h411 (by omega) (by omega) s412 f413 (fyQ_n u466 (by omega) (by omega) (fun t e => fyP_e u467 (by omega) t (by rw [u468] at e; exact e))) (fun i a b => (Classical.em (i = x12)).elim (fun q => by rw [q, u468]; omega) (fun q => u470 i a (by omega))) (by omega) (by omega)
                    · refine zj_iload (zdk ttX8_fewestCrossings 71 rfl rfl) rfl ?_
                      refine zj_iload (zdk ttX8_fewestCrossings 72 rfl rfl) rfl ?_
                      refine zj_iconst (zdk ttX8_fewestCrossings 73 rfl rfl) ?_
                      refine zj_ixor (zdk ttX8_fewestCrossings 74 rfl rfl) ?_
                      have b474 := zxor_in ((h13.2 112 x12) % 64) (-1)
                      refine zj_iand (zdk ttX8_fewestCrossings 75 rfl rfl) ?_
                      have b475 := zand_l (a := x410) (by omega) (zxor ((h13.2 112 x12) % 64) (-1))
                      refine zj_if_ne (t := 149) (zdk ttX8_fewestCrossings 76 rfl rfl) (by decide) (by omega) (fun c476 => ?_) (fun c476 => ?_)
                      · refine zj_iconst (zdk ttX8_fewestCrossings 83 rfl rfl) ?_
                        refine zj_istore (L' := [some (.inr 108), some (.inr p1), some (.inl p2), some (.inl p3), some (.inl ((zshl 1 p2) - 1)), some (.inl x409), some (.inl x12), some (.inl (h13.2 112 x12)), some (.inl ((h13.2 112 x12) % 64)), some (.inl 1), some (.inl ((h13.2 112 x12) % 64)), some (.inl x410), some (.inl 0), none, none]) (zdk ttX8_fewestCrossings 84 rfl rfl) (by decide) rfl ?_
                        refine zj_iload (zdk ttX8_fewestCrossings 85 rfl rfl) rfl ?_
                        refine zj_iload (zdk ttX8_fewestCrossings 86 rfl rfl) rfl ?_
                        refine zj_ixor (zdk ttX8_fewestCrossings 87 rfl rfl) ?_
                        have b477 := zxor_k (a := ((h13.2 112 x12) % 64)) (b := x410) (K := 64) 6 (by decide) (by decide) (by omega) (by omega)
                        refine zj_iload (zdk ttX8_fewestCrossings 88 rfl rfl) rfl ?_
                        refine zj_if_eq (t := 166) (zdk ttX8_fewestCrossings 89 rfl rfl) (by decide) (by decide) (fun c478 => ?_) (fun c478 => ?_)
                        · exact absurd c478 (by omega)
                        · refine zj_iconst (zdk ttX8_fewestCrossings 90 rfl rfl) ?_
                          refine zj_goto (t := 168) (zdk ttX8_fewestCrossings 91 rfl rfl) (by decide) ?_
                          refine zj_iadd (zdk ttX8_fewestCrossings 93 rfl rfl) ?_
                          refine zj_istore (L' := [some (.inr 108), some (.inr p1), some (.inl p2), some (.inl p3), some (.inl ((zshl 1 p2) - 1)), some (.inl x409), some (.inl x12), some (.inl (h13.2 112 x12)), some (.inl ((h13.2 112 x12) % 64)), some (.inl 1), some (.inl ((h13.2 112 x12) % 64)), some (.inl x410), some (.inl 0), some (.inl ((zxor ((h13.2 112 x12) % 64) x410) + 0)), none]) (zdk ttX8_fewestCrossings 94 rfl rfl) (by decide) rfl ?_
                          refine zj_aload_n (zdk ttX8_fewestCrossings 95 rfl rfl) rfl (by decide) ?_
                          refine zj_getr (r := 111) (zdk ttX8_fewestCrossings 96 rfl rfl) zf_RX8_18 rfl (k_L108 s412) (rf_L108_2 s412) ?_
                          refine zj_iload (zdk ttX8_fewestCrossings 97 rfl rfl) rfl ?_
                          have b479 : -2147483648 ≤ (h411.2 111 ((zxor ((h13.2 112 x12) % 64) x410) + 0)) ∧ (h411.2 111 ((zxor ((h13.2 112 x12) % 64) x410) + 0)) ≤ 2147483647 := ab_L108_2 s412 ((zxor ((h13.2 112 x12) % 64) x410) + 0)
                          refine zj_iald (v := (h411.2 111 ((zxor ((h13.2 112 x12) % 64) x410) + 0))) (zdk ttX8_fewestCrossings 98 rfl rfl) (ka_L108_2 s412) (by decide) (by omega) rfl ?_
                          refine zj_iconst (zdk ttX8_fewestCrossings 99 rfl rfl) ?_
                          refine zj_icmp_ne (t := 196) (zdk ttX8_fewestCrossings 100 rfl rfl) (by decide) (by omega) (by decide) (fun c480 => ?_) (fun c480 => ?_)
                          · refine zj_iconst (zdk ttX8_fewestCrossings 108 rfl rfl) ?_
                            refine zj_istore (L' := [some (.inr 108), some (.inr p1), some (.inl p2), some (.inl p3), some (.inl ((zshl 1 p2) - 1)), some (.inl x409), some (.inl x12), some (.inl (h13.2 112 x12)), some (.inl ((h13.2 112 x12) % 64)), some (.inl 1), some (.inl ((h13.2 112 x12) % 64)), some (.inl x410), some (.inl 0), some (.inl ((zxor ((h13.2 112 x12) % 64) x410) + 0)), some (.inl 0)]) (zdk ttX8_fewestCrossings 109 rfl rfl) (by decide) rfl ?_
                            refine zj_iload (zdk ttX8_fewestCrossings 110 rfl rfl) rfl ?_
                            refine zj_if_eq (t := 251) (zdk ttX8_fewestCrossings 111 rfl rfl) (by decide) (by decide) (fun c481 => ?_) (fun c481 => ?_)
                            · refine zj_iinc (L' := [some (.inr 108), some (.inr p1), some (.inl p2), some (.inl p3), some (.inl ((zshl 1 p2) - 1)), some (.inl x409), some (.inl x12), some (.inl (h13.2 112 x12)), some (.inl ((h13.2 112 x12) % 64)), some (.inl 1), some (.inl ((h13.2 112 x12) % 64)), some (.inl (x410 + 1)), some (.inl 0), some (.inl ((zxor ((h13.2 112 x12) % 64) x410) + 0)), some (.inl 0)]) (zdk ttX8_fewestCrossings 138 rfl rfl) rfl (by decide) rfl ?_
                              refine zj_goto (t := 119) (zdk ttX8_fewestCrossings 139 rfl rfl) (by decide) ?_
                              refine zj_kill (k := 12) (L' := [some (.inr 108), some (.inr p1), some (.inl p2), some (.inl p3), some (.inl ((zshl 1 p2) - 1)), some (.inl x409), some (.inl x12), some (.inl (h13.2 112 x12)), some (.inl ((h13.2 112 x12) % 64)), some (.inl 1), some (.inl ((h13.2 112 x12) % 64)), some (.inl (x410 + 1)), none, some (.inl ((zxor ((h13.2 112 x12) % 64) x410) + 0)), some (.inl 0)]) rfl ?_
                              refine zj_kill (k := 13) (L' := [some (.inr 108), some (.inr p1), some (.inl p2), some (.inl p3), some (.inl ((zshl 1 p2) - 1)), some (.inl x409), some (.inl x12), some (.inl (h13.2 112 x12)), some (.inl ((h13.2 112 x12) % 64)), some (.inl 1), some (.inl ((h13.2 112 x12) % 64)), some (.inl (x410 + 1)), none, none, some (.inl 0)]) rfl ?_
                              refine zj_kill (k := 14) (L' := [some (.inr 108), some (.inr p1), some (.inl p2), some (.inl p3), some (.inl ((zshl 1 p2) - 1)), some (.inl x409), some (.inl x12), some (.inl (h13.2 112 x12)), some (.inl ((h13.2 112 x12) % 64)), some (.inl 1), some (.inl ((h13.2 112 x12) % 64)), some (.inl (x410 + 1)), none, none, none]) rfl ?_
                              have f482 : ((h13.2 112 x12) % 64) = fyF ((zshl 1 p2) - 1) (h13.2 112 x12) := by first | exact fyF_0 (by omega) (by omega) | exact fyF_1 (by omega) (by omega)
                              have n483 : fyN (h13.2 112 x12) x410 = ((zxor ((h13.2 112 x12) % 64) x410) + 0) := fyN_e (o := ((h13.2 112 x12) % 64)) (by omega) (by first | exact Or.inl ⟨by omega, by omega⟩ | exact Or.inr ⟨by omega, by omega⟩)
                              exact ih472  x409 (x410 + 1) h411 (by omega) (by omega) s412 f413 u466 (fyP_s u467 (fun e9 => by obtain ⟨ea, eb, ec, ed⟩ := e9; rw [n483]; rw [← f482] at eb ed; intro z9; first | omega | exact absurd ed (by rcases u456 with k9 | k9; exact absurd k9.1 (by omega); exact k9.2) | exact fyQ_f u466 (by omega) (by omega) z9)) u468 (by omega) u470 (by omega)
                            · exact absurd c481 (by omega)
                          · refine zj_iload (zdk ttX8_fewestCrossings 101 rfl rfl) rfl ?_
                            refine zj_aload_n (zdk ttX8_fewestCrossings 102 rfl rfl) rfl (by decide) ?_
                            refine zj_getr (r := 112) (zdk ttX8_fewestCrossings 103 rfl rfl) zf_RX8_21 rfl (k_L108 s412) (rf_L108_3 s412) ?_
                            refine zj_alen (zdk ttX8_fewestCrossings 104 rfl rfl) (ka_L108_3 s412) ?_
                            refine zj_icmp_ge (t := 196) (zdk ttX8_fewestCrossings 105 rfl rfl) (by decide) (by omega) (by decide) (fun c484 => ?_) (fun c484 => ?_)
                            · refine zj_iconst (zdk ttX8_fewestCrossings 108 rfl rfl) ?_
                              refine zj_istore (L' := [some (.inr 108), some (.inr p1), some (.inl p2), some (.inl p3), some (.inl ((zshl 1 p2) - 1)), some (.inl x409), some (.inl x12), some (.inl (h13.2 112 x12)), some (.inl ((h13.2 112 x12) % 64)), some (.inl 1), some (.inl ((h13.2 112 x12) % 64)), some (.inl x410), some (.inl 0), some (.inl ((zxor ((h13.2 112 x12) % 64) x410) + 0)), some (.inl 0)]) (zdk ttX8_fewestCrossings 109 rfl rfl) (by decide) rfl ?_
                              refine zj_iload (zdk ttX8_fewestCrossings 110 rfl rfl) rfl ?_
                              refine zj_if_eq (t := 251) (zdk ttX8_fewestCrossings 111 rfl rfl) (by decide) (by decide) (fun c485 => ?_) (fun c485 => ?_)
                              · refine zj_iinc (L' := [some (.inr 108), some (.inr p1), some (.inl p2), some (.inl p3), some (.inl ((zshl 1 p2) - 1)), some (.inl x409), some (.inl x12), some (.inl (h13.2 112 x12)), some (.inl ((h13.2 112 x12) % 64)), some (.inl 1), some (.inl ((h13.2 112 x12) % 64)), some (.inl (x410 + 1)), some (.inl 0), some (.inl ((zxor ((h13.2 112 x12) % 64) x410) + 0)), some (.inl 0)]) (zdk ttX8_fewestCrossings 138 rfl rfl) rfl (by decide) rfl ?_
                                refine zj_goto (t := 119) (zdk ttX8_fewestCrossings 139 rfl rfl) (by decide) ?_
                                refine zj_kill (k := 12) (L' := [some (.inr 108), some (.inr p1), some (.inl p2), some (.inl p3), some (.inl ((zshl 1 p2) - 1)), some (.inl x409), some (.inl x12), some (.inl (h13.2 112 x12)), some (.inl ((h13.2 112 x12) % 64)), some (.inl 1), some (.inl ((h13.2 112 x12) % 64)), some (.inl (x410 + 1)), none, some (.inl ((zxor ((h13.2 112 x12) % 64) x410) + 0)), some (.inl 0)]) rfl ?_
                                refine zj_kill (k := 13) (L' := [some (.inr 108), some (.inr p1), some (.inl p2), some (.inl p3), some (.inl ((zshl 1 p2) - 1)), some (.inl x409), some (.inl x12), some (.inl (h13.2 112 x12)), some (.inl ((h13.2 112 x12) % 64)), some (.inl 1), some (.inl ((h13.2 112 x12) % 64)), some (.inl (x410 + 1)), none, none, some (.inl 0)]) rfl ?_
                                refine zj_kill (k := 14) (L' := [some (.inr 108), some (.inr p1), some (.inl p2), some (.inl p3), some (.inl ((zshl 1 p2) - 1)), some (.inl x409), some (.inl x12), some (.inl (h13.2 112 x12)), some (.inl ((h13.2 112 x12) % 64)), some (.inl 1), some (.inl ((h13.2 112 x12) % 64)), some (.inl (x410 + 1)), none, none, none]) rfl ?_
                                have f486 : ((h13.2 112 x12) % 64) = fyF ((zshl 1 p2) - 1) (h13.2 112 x12) := by first | exact fyF_0 (by omega) (by omega) | exact fyF_1 (by omega) (by omega)
                                have n487 : fyN (h13.2 112 x12) x410 = ((zxor ((h13.2 112 x12) % 64) x410) + 0) := fyN_e (o := ((h13.2 112 x12) % 64)) (by omega) (by first | exact Or.inl ⟨by omega, by omega⟩ | exact Or.inr ⟨by omega, by omega⟩)
                                exact ih472  x409 (x410 + 1) h411 (by omega) (by omega) s412 f413 u466 (fyP_s u467 (fun e9 => by obtain ⟨ea, eb, ec, ed⟩ := e9; rw [n487]; rw [← f486] at eb ed; intro z9; first | omega | exact absurd ed (by rcases u456 with k9 | k9; exact absurd k9.1 (by omega); exact k9.2) | exact fyQ_f u466 (by omega) (by omega) z9)) u468 (by omega) u470 (by omega)
                              · exact absurd c485 (by omega)
                            · refine zj_iconst (zdk ttX8_fewestCrossings 106 rfl rfl) ?_
                              refine zj_goto (t := 197) (zdk ttX8_fewestCrossings 107 rfl rfl) (by decide) ?_
                              refine zj_istore (L' := [some (.inr 108), some (.inr p1), some (.inl p2), some (.inl p3), some (.inl ((zshl 1 p2) - 1)), some (.inl x409), some (.inl x12), some (.inl (h13.2 112 x12)), some (.inl ((h13.2 112 x12) % 64)), some (.inl 1), some (.inl ((h13.2 112 x12) % 64)), some (.inl x410), some (.inl 0), some (.inl ((zxor ((h13.2 112 x12) % 64) x410) + 0)), some (.inl 1)]) (zdk ttX8_fewestCrossings 109 rfl rfl) (by decide) rfl ?_
                              refine zj_iload (zdk ttX8_fewestCrossings 110 rfl rfl) rfl ?_
                              refine zj_if_eq (t := 251) (zdk ttX8_fewestCrossings 111 rfl rfl) (by decide) (by decide) (fun c488 => ?_) (fun c488 => ?_)
                              · refine zj_iinc (L' := [some (.inr 108), some (.inr p1), some (.inl p2), some (.inl p3), some (.inl ((zshl 1 p2) - 1)), some (.inl x409), some (.inl x12), some (.inl (h13.2 112 x12)), some (.inl ((h13.2 112 x12) % 64)), some (.inl 1), some (.inl ((h13.2 112 x12) % 64)), some (.inl (x410 + 1)), some (.inl 0), some (.inl ((zxor ((h13.2 112 x12) % 64) x410) + 0)), some (.inl 1)]) (zdk ttX8_fewestCrossings 138 rfl rfl) rfl (by decide) rfl ?_
                                refine zj_goto (t := 119) (zdk ttX8_fewestCrossings 139 rfl rfl) (by decide) ?_
                                refine zj_kill (k := 12) (L' := [some (.inr 108), some (.inr p1), some (.inl p2), some (.inl p3), some (.inl ((zshl 1 p2) - 1)), some (.inl x409), some (.inl x12), some (.inl (h13.2 112 x12)), some (.inl ((h13.2 112 x12) % 64)), some (.inl 1), some (.inl ((h13.2 112 x12) % 64)), some (.inl (x410 + 1)), none, some (.inl ((zxor ((h13.2 112 x12) % 64) x410) + 0)), some (.inl 1)]) rfl ?_
                                refine zj_kill (k := 13) (L' := [some (.inr 108), some (.inr p1), some (.inl p2), some (.inl p3), some (.inl ((zshl 1 p2) - 1)), some (.inl x409), some (.inl x12), some (.inl (h13.2 112 x12)), some (.inl ((h13.2 112 x12) % 64)), some (.inl 1), some (.inl ((h13.2 112 x12) % 64)), some (.inl (x410 + 1)), none, none, some (.inl 1)]) rfl ?_
                                refine zj_kill (k := 14) (L' := [some (.inr 108), some (.inr p1), some (.inl p2), some (.inl p3), some (.inl ((zshl 1 p2) - 1)), some (.inl x409), some (.inl x12), some (.inl (h13.2 112 x12)), some (.inl ((h13.2 112 x12) % 64)), some (.inl 1), some (.inl ((h13.2 112 x12) % 64)), some (.inl (x410 + 1)), none, none, none]) rfl ?_
                                have f489 : ((h13.2 112 x12) % 64) = fyF ((zshl 1 p2) - 1) (h13.2 112 x12) := by first | exact fyF_0 (by omega) (by omega) | exact fyF_1 (by omega) (by omega)
                                have n490 : fyN (h13.2 112 x12) x410 = ((zxor ((h13.2 112 x12) % 64) x410) + 0) := fyN_e (o := ((h13.2 112 x12) % 64)) (by omega) (by first | exact Or.inl ⟨by omega, by omega⟩ | exact Or.inr ⟨by omega, by omega⟩)
                                exact ih472  x409 (x410 + 1) h411 (by omega) (by omega) s412 f413 u466 (fyP_s u467 (fun e9 => by obtain ⟨ea, eb, ec, ed⟩ := e9; rw [n490]; rw [← f489] at eb ed; intro z9; first | omega | exact absurd ed (by rcases u456 with k9 | k9; exact absurd k9.1 (by omega); exact k9.2) | exact fyQ_f u466 (by omega) (by omega) z9)) u468 (by omega) u470 (by omega)
                              · exact absurd c488 (by omega)
                      · refine zj_iload (zdk ttX8_fewestCrossings 77 rfl rfl) rfl ?_
                        refine zj_callS (av := [.inl x410]) (st := []) (zdk ttX8_fewestCrossings 78 rfl rfl) mb_J6_bitCount_0f7a4 ms_RX8_46 rfl rfl (Nat.le_of_ble_eq_true rfl) (s2_J6_bitCount_0f7a4 shC l h411 x410) (rm_ok (by decide) (by decide)) (zq_i fun v491 h492 q493 => ?_)
                        obtain ⟨rfl, b494⟩ := q493
                        rw [zbc_6 (by omega)] at b494
                        have b494b := fyp_b x410
                        have b494c : 0 ≤ v491 ∧ v491 ≤ 6 := by omega
                        refine zj_iload_n (zdk ttX8_fewestCrossings 79 rfl rfl) rfl ?_
                        refine zj_icmp_gt (t := 149) (zdk ttX8_fewestCrossings 80 rfl rfl) (by decide) (by omega) (by omega) (fun c495 => ?_) (fun c495 => ?_)
                        · refine zj_iconst (zdk ttX8_fewestCrossings 83 rfl rfl) ?_
                          refine zj_istore (L' := [some (.inr 108), some (.inr p1), some (.inl p2), some (.inl p3), some (.inl ((zshl 1 p2) - 1)), some (.inl x409), some (.inl x12), some (.inl (h13.2 112 x12)), some (.inl ((h13.2 112 x12) % 64)), some (.inl 1), some (.inl ((h13.2 112 x12) % 64)), some (.inl x410), some (.inl 0), none, none]) (zdk ttX8_fewestCrossings 84 rfl rfl) (by decide) rfl ?_
                          refine zj_iload (zdk ttX8_fewestCrossings 85 rfl rfl) rfl ?_
                          refine zj_iload (zdk ttX8_fewestCrossings 86 rfl rfl) rfl ?_
                          refine zj_ixor (zdk ttX8_fewestCrossings 87 rfl rfl) ?_
                          have b496 := zxor_k (a := ((h13.2 112 x12) % 64)) (b := x410) (K := 64) 6 (by decide) (by decide) (by omega) (by omega)
                          refine zj_iload (zdk ttX8_fewestCrossings 88 rfl rfl) rfl ?_
                          refine zj_if_eq (t := 166) (zdk ttX8_fewestCrossings 89 rfl rfl) (by decide) (by decide) (fun c497 => ?_) (fun c497 => ?_)
                          · exact absurd c497 (by omega)
                          · refine zj_iconst (zdk ttX8_fewestCrossings 90 rfl rfl) ?_
                            refine zj_goto (t := 168) (zdk ttX8_fewestCrossings 91 rfl rfl) (by decide) ?_
                            refine zj_iadd (zdk ttX8_fewestCrossings 93 rfl rfl) ?_
                            refine zj_istore (L' := [some (.inr 108), some (.inr p1), some (.inl p2), some (.inl p3), some (.inl ((zshl 1 p2) - 1)), some (.inl x409), some (.inl x12), some (.inl (h13.2 112 x12)), some (.inl ((h13.2 112 x12) % 64)), some (.inl 1), some (.inl ((h13.2 112 x12) % 64)), some (.inl x410), some (.inl 0), some (.inl ((zxor ((h13.2 112 x12) % 64) x410) + 0)), none]) (zdk ttX8_fewestCrossings 94 rfl rfl) (by decide) rfl ?_
                            refine zj_aload_n (zdk ttX8_fewestCrossings 95 rfl rfl) rfl (by decide) ?_
                            refine zj_getr (r := 111) (zdk ttX8_fewestCrossings 96 rfl rfl) zf_RX8_18 rfl (k_L108 s412) (rf_L108_2 s412) ?_
                            refine zj_iload (zdk ttX8_fewestCrossings 97 rfl rfl) rfl ?_
                            have b498 : -2147483648 ≤ (h411.2 111 ((zxor ((h13.2 112 x12) % 64) x410) + 0)) ∧ (h411.2 111 ((zxor ((h13.2 112 x12) % 64) x410) + 0)) ≤ 2147483647 := ab_L108_2 s412 ((zxor ((h13.2 112 x12) % 64) x410) + 0)
                            refine zj_iald (v := (h411.2 111 ((zxor ((h13.2 112 x12) % 64) x410) + 0))) (zdk ttX8_fewestCrossings 98 rfl rfl) (ka_L108_2 s412) (by decide) (by omega) rfl ?_
                            refine zj_iconst (zdk ttX8_fewestCrossings 99 rfl rfl) ?_
                            refine zj_icmp_ne (t := 196) (zdk ttX8_fewestCrossings 100 rfl rfl) (by decide) (by omega) (by decide) (fun c499 => ?_) (fun c499 => ?_)
                            · refine zj_iconst (zdk ttX8_fewestCrossings 108 rfl rfl) ?_
                              refine zj_istore (L' := [some (.inr 108), some (.inr p1), some (.inl p2), some (.inl p3), some (.inl ((zshl 1 p2) - 1)), some (.inl x409), some (.inl x12), some (.inl (h13.2 112 x12)), some (.inl ((h13.2 112 x12) % 64)), some (.inl 1), some (.inl ((h13.2 112 x12) % 64)), some (.inl x410), some (.inl 0), some (.inl ((zxor ((h13.2 112 x12) % 64) x410) + 0)), some (.inl 0)]) (zdk ttX8_fewestCrossings 109 rfl rfl) (by decide) rfl ?_
                              refine zj_iload (zdk ttX8_fewestCrossings 110 rfl rfl) rfl ?_
                              refine zj_if_eq (t := 251) (zdk ttX8_fewestCrossings 111 rfl rfl) (by decide) (by decide) (fun c500 => ?_) (fun c500 => ?_)
                              · refine zj_iinc (L' := [some (.inr 108), some (.inr p1), some (.inl p2), some (.inl p3), some (.inl ((zshl 1 p2) - 1)), some (.inl x409), some (.inl x12), some (.inl (h13.2 112 x12)), some (.inl ((h13.2 112 x12) % 64)), some (.inl 1), some (.inl ((h13.2 112 x12) % 64)), some (.inl (x410 + 1)), some (.inl 0), some (.inl ((zxor ((h13.2 112 x12) % 64) x410) + 0)), some (.inl 0)]) (zdk ttX8_fewestCrossings 138 rfl rfl) rfl (by decide) rfl ?_
                                refine zj_goto (t := 119) (zdk ttX8_fewestCrossings 139 rfl rfl) (by decide) ?_
                                refine zj_kill (k := 12) (L' := [some (.inr 108), some (.inr p1), some (.inl p2), some (.inl p3), some (.inl ((zshl 1 p2) - 1)), some (.inl x409), some (.inl x12), some (.inl (h13.2 112 x12)), some (.inl ((h13.2 112 x12) % 64)), some (.inl 1), some (.inl ((h13.2 112 x12) % 64)), some (.inl (x410 + 1)), none, some (.inl ((zxor ((h13.2 112 x12) % 64) x410) + 0)), some (.inl 0)]) rfl ?_
                                refine zj_kill (k := 13) (L' := [some (.inr 108), some (.inr p1), some (.inl p2), some (.inl p3), some (.inl ((zshl 1 p2) - 1)), some (.inl x409), some (.inl x12), some (.inl (h13.2 112 x12)), some (.inl ((h13.2 112 x12) % 64)), some (.inl 1), some (.inl ((h13.2 112 x12) % 64)), some (.inl (x410 + 1)), none, none, some (.inl 0)]) rfl ?_
                                refine zj_kill (k := 14) (L' := [some (.inr 108), some (.inr p1), some (.inl p2), some (.inl p3), some (.inl ((zshl 1 p2) - 1)), some (.inl x409), some (.inl x12), some (.inl (h13.2 112 x12)), some (.inl ((h13.2 112 x12) % 64)), some (.inl 1), some (.inl ((h13.2 112 x12) % 64)), some (.inl (x410 + 1)), none, none, none]) rfl ?_
                                have f501 : ((h13.2 112 x12) % 64) = fyF ((zshl 1 p2) - 1) (h13.2 112 x12) := by first | exact fyF_0 (by omega) (by omega) | exact fyF_1 (by omega) (by omega)
                                have n502 : fyN (h13.2 112 x12) x410 = ((zxor ((h13.2 112 x12) % 64) x410) + 0) := fyN_e (o := ((h13.2 112 x12) % 64)) (by omega) (by first | exact Or.inl ⟨by omega, by omega⟩ | exact Or.inr ⟨by omega, by omega⟩)
                                exact ih472  x409 (x410 + 1) h411 (by omega) (by omega) s412 f413 u466 (fyP_s u467 (fun e9 => by obtain ⟨ea, eb, ec, ed⟩ := e9; rw [n502]; rw [← f501] at eb ed; intro z9; first | omega | exact absurd ed (by rcases u456 with k9 | k9; exact absurd k9.1 (by omega); exact k9.2) | exact fyQ_f u466 (by omega) (by omega) z9)) u468 (by omega) u470 (by omega)
                              · exact absurd c500 (by omega)
                            · refine zj_iload (zdk ttX8_fewestCrossings 101 rfl rfl) rfl ?_
                              refine zj_aload_n (zdk ttX8_fewestCrossings 102 rfl rfl) rfl (by decide) ?_
                              refine zj_getr (r := 112) (zdk ttX8_fewestCrossings 103 rfl rfl) zf_RX8_21 rfl (k_L108 s412) (rf_L108_3 s412) ?_
                              refine zj_alen (zdk ttX8_fewestCrossings 104 rfl rfl) (ka_L108_3 s412) ?_
                              refine zj_icmp_ge (t := 196) (zdk ttX8_fewestCrossings 105 rfl rfl) (by decide) (by omega) (by decide) (fun c503 => ?_) (fun c503 => ?_)
                              · refine zj_iconst (zdk ttX8_fewestCrossings 108 rfl rfl) ?_
                                refine zj_istore (L' := [some (.inr 108), some (.inr p1), some (.inl p2), some (.inl p3), some (.inl ((zshl 1 p2) - 1)), some (.inl x409), some (.inl x12), some (.inl (h13.2 112 x12)), some (.inl ((h13.2 112 x12) % 64)), some (.inl 1), some (.inl ((h13.2 112 x12) % 64)), some (.inl x410), some (.inl 0), some (.inl ((zxor ((h13.2 112 x12) % 64) x410) + 0)), some (.inl 0)]) (zdk ttX8_fewestCrossings 109 rfl rfl) (by decide) rfl ?_
                                refine zj_iload (zdk ttX8_fewestCrossings 110 rfl rfl) rfl ?_
                                refine zj_if_eq (t := 251) (zdk ttX8_fewestCrossings 111 rfl rfl) (by decide) (by decide) (fun c504 => ?_) (fun c504 => ?_)
                                · refine zj_iinc (L' := [some (.inr 108), some (.inr p1), some (.inl p2), some (.inl p3), some (.inl ((zshl 1 p2) - 1)), some (.inl x409), some (.inl x12), some (.inl (h13.2 112 x12)), some (.inl ((h13.2 112 x12) % 64)), some (.inl 1), some (.inl ((h13.2 112 x12) % 64)), some (.inl (x410 + 1)), some (.inl 0), some (.inl ((zxor ((h13.2 112 x12) % 64) x410) + 0)), some (.inl 0)]) (zdk ttX8_fewestCrossings 138 rfl rfl) rfl (by decide) rfl ?_
                                  refine zj_goto (t := 119) (zdk ttX8_fewestCrossings 139 rfl rfl) (by decide) ?_
                                  refine zj_kill (k := 12) (L' := [some (.inr 108), some (.inr p1), some (.inl p2), some (.inl p3), some (.inl ((zshl 1 p2) - 1)), some (.inl x409), some (.inl x12), some (.inl (h13.2 112 x12)), some (.inl ((h13.2 112 x12) % 64)), some (.inl 1), some (.inl ((h13.2 112 x12) % 64)), some (.inl (x410 + 1)), none, some (.inl ((zxor ((h13.2 112 x12) % 64) x410) + 0)), some (.inl 0)]) rfl ?_
                                  refine zj_kill (k := 13) (L' := [some (.inr 108), some (.inr p1), some (.inl p2), some (.inl p3), some (.inl ((zshl 1 p2) - 1)), some (.inl x409), some (.inl x12), some (.inl (h13.2 112 x12)), some (.inl ((h13.2 112 x12) % 64)), some (.inl 1), some (.inl ((h13.2 112 x12) % 64)), some (.inl (x410 + 1)), none, none, some (.inl 0)]) rfl ?_
                                  refine zj_kill (k := 14) (L' := [some (.inr 108), some (.inr p1), some (.inl p2), some (.inl p3), some (.inl ((zshl 1 p2) - 1)), some (.inl x409), some (.inl x12), some (.inl (h13.2 112 x12)), some (.inl ((h13.2 112 x12) % 64)), some (.inl 1), some (.inl ((h13.2 112 x12) % 64)), some (.inl (x410 + 1)), none, none, none]) rfl ?_
                                  have f505 : ((h13.2 112 x12) % 64) = fyF ((zshl 1 p2) - 1) (h13.2 112 x12) := by first | exact fyF_0 (by omega) (by omega) | exact fyF_1 (by omega) (by omega)
                                  have n506 : fyN (h13.2 112 x12) x410 = ((zxor ((h13.2 112 x12) % 64) x410) + 0) := fyN_e (o := ((h13.2 112 x12) % 64)) (by omega) (by first | exact Or.inl ⟨by omega, by omega⟩ | exact Or.inr ⟨by omega, by omega⟩)
                                  exact ih472  x409 (x410 + 1) h411 (by omega) (by omega) s412 f413 u466 (fyP_s u467 (fun e9 => by obtain ⟨ea, eb, ec, ed⟩ := e9; rw [n506]; rw [← f505] at eb ed; intro z9; first | omega | exact absurd ed (by rcases u456 with k9 | k9; exact absurd k9.1 (by omega); exact k9.2) | exact fyQ_f u466 (by omega) (by omega) z9)) u468 (by omega) u470 (by omega)
                                · exact absurd c504 (by omega)
                              · refine zj_iconst (zdk ttX8_fewestCrossings 106 rfl rfl) ?_
                                refine zj_goto (t := 197) (zdk ttX8_fewestCrossings 107 rfl rfl) (by decide) ?_
                                refine zj_istore (L' := [some (.inr 108), some (.inr p1), some (.inl p2), some (.inl p3), some (.inl ((zshl 1 p2) - 1)), some (.inl x409), some (.inl x12), some (.inl (h13.2 112 x12)), some (.inl ((h13.2 112 x12) % 64)), some (.inl 1), some (.inl ((h13.2 112 x12) % 64)), some (.inl x410), some (.inl 0), some (.inl ((zxor ((h13.2 112 x12) % 64) x410) + 0)), some (.inl 1)]) (zdk ttX8_fewestCrossings 109 rfl rfl) (by decide) rfl ?_
                                refine zj_iload (zdk ttX8_fewestCrossings 110 rfl rfl) rfl ?_
                                refine zj_if_eq (t := 251) (zdk ttX8_fewestCrossings 111 rfl rfl) (by decide) (by decide) (fun c507 => ?_) (fun c507 => ?_)
                                · refine zj_iinc (L' := [some (.inr 108), some (.inr p1), some (.inl p2), some (.inl p3), some (.inl ((zshl 1 p2) - 1)), some (.inl x409), some (.inl x12), some (.inl (h13.2 112 x12)), some (.inl ((h13.2 112 x12) % 64)), some (.inl 1), some (.inl ((h13.2 112 x12) % 64)), some (.inl (x410 + 1)), some (.inl 0), some (.inl ((zxor ((h13.2 112 x12) % 64) x410) + 0)), some (.inl 1)]) (zdk ttX8_fewestCrossings 138 rfl rfl) rfl (by decide) rfl ?_
                                  refine zj_goto (t := 119) (zdk ttX8_fewestCrossings 139 rfl rfl) (by decide) ?_
                                  refine zj_kill (k := 12) (L' := [some (.inr 108), some (.inr p1), some (.inl p2), some (.inl p3), some (.inl ((zshl 1 p2) - 1)), some (.inl x409), some (.inl x12), some (.inl (h13.2 112 x12)), some (.inl ((h13.2 112 x12) % 64)), some (.inl 1), some (.inl ((h13.2 112 x12) % 64)), some (.inl (x410 + 1)), none, some (.inl ((zxor ((h13.2 112 x12) % 64) x410) + 0)), some (.inl 1)]) rfl ?_
                                  refine zj_kill (k := 13) (L' := [some (.inr 108), some (.inr p1), some (.inl p2), some (.inl p3), some (.inl ((zshl 1 p2) - 1)), some (.inl x409), some (.inl x12), some (.inl (h13.2 112 x12)), some (.inl ((h13.2 112 x12) % 64)), some (.inl 1), some (.inl ((h13.2 112 x12) % 64)), some (.inl (x410 + 1)), none, none, some (.inl 1)]) rfl ?_
                                  refine zj_kill (k := 14) (L' := [some (.inr 108), some (.inr p1), some (.inl p2), some (.inl p3), some (.inl ((zshl 1 p2) - 1)), some (.inl x409), some (.inl x12), some (.inl (h13.2 112 x12)), some (.inl ((h13.2 112 x12) % 64)), some (.inl 1), some (.inl ((h13.2 112 x12) % 64)), some (.inl (x410 + 1)), none, none, none]) rfl ?_
                                  have f508 : ((h13.2 112 x12) % 64) = fyF ((zshl 1 p2) - 1) (h13.2 112 x12) := by first | exact fyF_0 (by omega) (by omega) | exact fyF_1 (by omega) (by omega)
                                  have n509 : fyN (h13.2 112 x12) x410 = ((zxor ((h13.2 112 x12) % 64) x410) + 0) := fyN_e (o := ((h13.2 112 x12) % 64)) (by omega) (by first | exact Or.inl ⟨by omega, by omega⟩ | exact Or.inr ⟨by omega, by omega⟩)
                                  exact ih472  x409 (x410 + 1) h411 (by omega) (by omega) s412 f413 u466 (fyP_s u467 (fun e9 => by obtain ⟨ea, eb, ec, ed⟩ := e9; rw [n509]; rw [← f508] at eb ed; intro z9; first | omega | exact absurd ed (by rcases u456 with k9 | k9; exact absurd k9.1 (by omega); exact k9.2) | exact fyQ_f u466 (by omega) (by omega) z9)) u468 (by omega) u470 (by omega)
                                · exact absurd c507 (by omega)
                        · refine zj_iconst (zdk ttX8_fewestCrossings 81 rfl rfl) ?_
                          refine zj_goto (t := 150) (zdk ttX8_fewestCrossings 82 rfl rfl) (by decide) ?_
                          refine zj_istore (L' := [some (.inr 108), some (.inr p1), some (.inl p2), some (.inl p3), some (.inl ((zshl 1 p2) - 1)), some (.inl x409), some (.inl x12), some (.inl (h13.2 112 x12)), some (.inl ((h13.2 112 x12) % 64)), some (.inl 1), some (.inl ((h13.2 112 x12) % 64)), some (.inl x410), some (.inl 1), none, none]) (zdk ttX8_fewestCrossings 84 rfl rfl) (by decide) rfl ?_
                          refine zj_iload (zdk ttX8_fewestCrossings 85 rfl rfl) rfl ?_
                          refine zj_iload (zdk ttX8_fewestCrossings 86 rfl rfl) rfl ?_
                          refine zj_ixor (zdk ttX8_fewestCrossings 87 rfl rfl) ?_
                          have b510 := zxor_k (a := ((h13.2 112 x12) % 64)) (b := x410) (K := 64) 6 (by decide) (by decide) (by omega) (by omega)
                          refine zj_iload (zdk ttX8_fewestCrossings 88 rfl rfl) rfl ?_
                          refine zj_if_eq (t := 166) (zdk ttX8_fewestCrossings 89 rfl rfl) (by decide) (by decide) (fun c511 => ?_) (fun c511 => ?_)
                          · exact absurd c511 (by omega)
                          · refine zj_iconst (zdk ttX8_fewestCrossings 90 rfl rfl) ?_
                            refine zj_goto (t := 168) (zdk ttX8_fewestCrossings 91 rfl rfl) (by decide) ?_
                            refine zj_iadd (zdk ttX8_fewestCrossings 93 rfl rfl) ?_
                            refine zj_istore (L' := [some (.inr 108), some (.inr p1), some (.inl p2), some (.inl p3), some (.inl ((zshl 1 p2) - 1)), some (.inl x409), some (.inl x12), some (.inl (h13.2 112 x12)), some (.inl ((h13.2 112 x12) % 64)), some (.inl 1), some (.inl ((h13.2 112 x12) % 64)), some (.inl x410), some (.inl 1), some (.inl ((zxor ((h13.2 112 x12) % 64) x410) + 0)), none]) (zdk ttX8_fewestCrossings 94 rfl rfl) (by decide) rfl ?_
                            refine zj_aload_n (zdk ttX8_fewestCrossings 95 rfl rfl) rfl (by decide) ?_
                            refine zj_getr (r := 111) (zdk ttX8_fewestCrossings 96 rfl rfl) zf_RX8_18 rfl (k_L108 s412) (rf_L108_2 s412) ?_
                            refine zj_iload (zdk ttX8_fewestCrossings 97 rfl rfl) rfl ?_
                            have b512 : -2147483648 ≤ (h411.2 111 ((zxor ((h13.2 112 x12) % 64) x410) + 0)) ∧ (h411.2 111 ((zxor ((h13.2 112 x12) % 64) x410) + 0)) ≤ 2147483647 := ab_L108_2 s412 ((zxor ((h13.2 112 x12) % 64) x410) + 0)
                            refine zj_iald (v := (h411.2 111 ((zxor ((h13.2 112 x12) % 64) x410) + 0))) (zdk ttX8_fewestCrossings 98 rfl rfl) (ka_L108_2 s412) (by decide) (by omega) rfl ?_
                            refine zj_iconst (zdk ttX8_fewestCrossings 99 rfl rfl) ?_
                            refine zj_icmp_ne (t := 196) (zdk ttX8_fewestCrossings 100 rfl rfl) (by decide) (by omega) (by decide) (fun c513 => ?_) (fun c513 => ?_)
                            · refine zj_iconst (zdk ttX8_fewestCrossings 108 rfl rfl) ?_
                              refine zj_istore (L' := [some (.inr 108), some (.inr p1), some (.inl p2), some (.inl p3), some (.inl ((zshl 1 p2) - 1)), some (.inl x409), some (.inl x12), some (.inl (h13.2 112 x12)), some (.inl ((h13.2 112 x12) % 64)), some (.inl 1), some (.inl ((h13.2 112 x12) % 64)), some (.inl x410), some (.inl 1), some (.inl ((zxor ((h13.2 112 x12) % 64) x410) + 0)), some (.inl 0)]) (zdk ttX8_fewestCrossings 109 rfl rfl) (by decide) rfl ?_
                              refine zj_iload (zdk ttX8_fewestCrossings 110 rfl rfl) rfl ?_
                              refine zj_if_eq (t := 251) (zdk ttX8_fewestCrossings 111 rfl rfl) (by decide) (by decide) (fun c514 => ?_) (fun c514 => ?_)
                              · exact absurd c514 (by omega)
                              · refine zj_iload (zdk ttX8_fewestCrossings 112 rfl rfl) rfl ?_
                                refine zj_if_eq (t := 251) (zdk ttX8_fewestCrossings 113 rfl rfl) (by decide) (by decide) (fun c515 => ?_) (fun c515 => ?_)
                                · refine zj_iinc (L' := [some (.inr 108), some (.inr p1), some (.inl p2), some (.inl p3), some (.inl ((zshl 1 p2) - 1)), some (.inl x409), some (.inl x12), some (.inl (h13.2 112 x12)), some (.inl ((h13.2 112 x12) % 64)), some (.inl 1), some (.inl ((h13.2 112 x12) % 64)), some (.inl (x410 + 1)), some (.inl 1), some (.inl ((zxor ((h13.2 112 x12) % 64) x410) + 0)), some (.inl 0)]) (zdk ttX8_fewestCrossings 138 rfl rfl) rfl (by decide) rfl ?_
                                  refine zj_goto (t := 119) (zdk ttX8_fewestCrossings 139 rfl rfl) (by decide) ?_
                                  refine zj_kill (k := 12) (L' := [some (.inr 108), some (.inr p1), some (.inl p2), some (.inl p3), some (.inl ((zshl 1 p2) - 1)), some (.inl x409), some (.inl x12), some (.inl (h13.2 112 x12)), some (.inl ((h13.2 112 x12) % 64)), some (.inl 1), some (.inl ((h13.2 112 x12) % 64)), some (.inl (x410 + 1)), none, some (.inl ((zxor ((h13.2 112 x12) % 64) x410) + 0)), some (.inl 0)]) rfl ?_
                                  refine zj_kill (k := 13) (L' := [some (.inr 108), some (.inr p1), some (.inl p2), some (.inl p3), some (.inl ((zshl 1 p2) - 1)), some (.inl x409), some (.inl x12), some (.inl (h13.2 112 x12)), some (.inl ((h13.2 112 x12) % 64)), some (.inl 1), some (.inl ((h13.2 112 x12) % 64)), some (.inl (x410 + 1)), none, none, some (.inl 0)]) rfl ?_
                                  refine zj_kill (k := 14) (L' := [some (.inr 108), some (.inr p1), some (.inl p2), some (.inl p3), some (.inl ((zshl 1 p2) - 1)), some (.inl x409), some (.inl x12), some (.inl (h13.2 112 x12)), some (.inl ((h13.2 112 x12) % 64)), some (.inl 1), some (.inl ((h13.2 112 x12) % 64)), some (.inl (x410 + 1)), none, none, none]) rfl ?_
                                  have f516 : ((h13.2 112 x12) % 64) = fyF ((zshl 1 p2) - 1) (h13.2 112 x12) := by first | exact fyF_0 (by omega) (by omega) | exact fyF_1 (by omega) (by omega)
                                  have n517 : fyN (h13.2 112 x12) x410 = ((zxor ((h13.2 112 x12) % 64) x410) + 0) := fyN_e (o := ((h13.2 112 x12) % 64)) (by omega) (by first | exact Or.inl ⟨by omega, by omega⟩ | exact Or.inr ⟨by omega, by omega⟩)
                                  exact ih472  x409 (x410 + 1) h411 (by omega) (by omega) s412 f413 u466 (fyP_s u467 (fun e9 => by obtain ⟨ea, eb, ec, ed⟩ := e9; rw [n517]; rw [← f516] at eb ed; intro z9; first | omega | exact absurd ed (by rcases u456 with k9 | k9; exact absurd k9.1 (by omega); exact k9.2) | exact fyQ_f u466 (by omega) (by omega) z9)) u468 (by omega) u470 (by omega)
                                · exact absurd c515 (by omega)
                            · refine zj_iload (zdk ttX8_fewestCrossings 101 rfl rfl) rfl ?_
                              refine zj_aload_n (zdk ttX8_fewestCrossings 102 rfl rfl) rfl (by decide) ?_
                              refine zj_getr (r := 112) (zdk ttX8_fewestCrossings 103 rfl rfl) zf_RX8_21 rfl (k_L108 s412) (rf_L108_3 s412) ?_
                              refine zj_alen (zdk ttX8_fewestCrossings 104 rfl rfl) (ka_L108_3 s412) ?_
                              refine zj_icmp_ge (t := 196) (zdk ttX8_fewestCrossings 105 rfl rfl) (by decide) (by omega) (by decide) (fun c518 => ?_) (fun c518 => ?_)
                              · refine zj_iconst (zdk ttX8_fewestCrossings 108 rfl rfl) ?_
                                refine zj_istore (L' := [some (.inr 108), some (.inr p1), some (.inl p2), some (.inl p3), some (.inl ((zshl 1 p2) - 1)), some (.inl x409), some (.inl x12), some (.inl (h13.2 112 x12)), some (.inl ((h13.2 112 x12) % 64)), some (.inl 1), some (.inl ((h13.2 112 x12) % 64)), some (.inl x410), some (.inl 1), some (.inl ((zxor ((h13.2 112 x12) % 64) x410) + 0)), some (.inl 0)]) (zdk ttX8_fewestCrossings 109 rfl rfl) (by decide) rfl ?_
                                refine zj_iload (zdk ttX8_fewestCrossings 110 rfl rfl) rfl ?_
                                refine zj_if_eq (t := 251) (zdk ttX8_fewestCrossings 111 rfl rfl) (by decide) (by decide) (fun c519 => ?_) (fun c519 => ?_)
                                · exact absurd c519 (by omega)
                                · refine zj_iload (zdk ttX8_fewestCrossings 112 rfl rfl) rfl ?_
                                  refine zj_if_eq (t := 251) (zdk ttX8_fewestCrossings 113 rfl rfl) (by decide) (by decide) (fun c520 => ?_) (fun c520 => ?_)
                                  · refine zj_iinc (L' := [some (.inr 108), some (.inr p1), some (.inl p2), some (.inl p3), some (.inl ((zshl 1 p2) - 1)), some (.inl x409), some (.inl x12), some (.inl (h13.2 112 x12)), some (.inl ((h13.2 112 x12) % 64)), some (.inl 1), some (.inl ((h13.2 112 x12) % 64)), some (.inl (x410 + 1)), some (.inl 1), some (.inl ((zxor ((h13.2 112 x12) % 64) x410) + 0)), some (.inl 0)]) (zdk ttX8_fewestCrossings 138 rfl rfl) rfl (by decide) rfl ?_
                                    refine zj_goto (t := 119) (zdk ttX8_fewestCrossings 139 rfl rfl) (by decide) ?_
                                    refine zj_kill (k := 12) (L' := [some (.inr 108), some (.inr p1), some (.inl p2), some (.inl p3), some (.inl ((zshl 1 p2) - 1)), some (.inl x409), some (.inl x12), some (.inl (h13.2 112 x12)), some (.inl ((h13.2 112 x12) % 64)), some (.inl 1), some (.inl ((h13.2 112 x12) % 64)), some (.inl (x410 + 1)), none, some (.inl ((zxor ((h13.2 112 x12) % 64) x410) + 0)), some (.inl 0)]) rfl ?_
                                    refine zj_kill (k := 13) (L' := [some (.inr 108), some (.inr p1), some (.inl p2), some (.inl p3), some (.inl ((zshl 1 p2) - 1)), some (.inl x409), some (.inl x12), some (.inl (h13.2 112 x12)), some (.inl ((h13.2 112 x12) % 64)), some (.inl 1), some (.inl ((h13.2 112 x12) % 64)), some (.inl (x410 + 1)), none, none, some (.inl 0)]) rfl ?_
                                    refine zj_kill (k := 14) (L' := [some (.inr 108), some (.inr p1), some (.inl p2), some (.inl p3), some (.inl ((zshl 1 p2) - 1)), some (.inl x409), some (.inl x12), some (.inl (h13.2 112 x12)), some (.inl ((h13.2 112 x12) % 64)), some (.inl 1), some (.inl ((h13.2 112 x12) % 64)), some (.inl (x410 + 1)), none, none, none]) rfl ?_
                                    have f521 : ((h13.2 112 x12) % 64) = fyF ((zshl 1 p2) - 1) (h13.2 112 x12) := by first | exact fyF_0 (by omega) (by omega) | exact fyF_1 (by omega) (by omega)
                                    have n522 : fyN (h13.2 112 x12) x410 = ((zxor ((h13.2 112 x12) % 64) x410) + 0) := fyN_e (o := ((h13.2 112 x12) % 64)) (by omega) (by first | exact Or.inl ⟨by omega, by omega⟩ | exact Or.inr ⟨by omega, by omega⟩)
                                    exact ih472  x409 (x410 + 1) h411 (by omega) (by omega) s412 f413 u466 (fyP_s u467 (fun e9 => by obtain ⟨ea, eb, ec, ed⟩ := e9; rw [n522]; rw [← f521] at eb ed; intro z9; first | omega | exact absurd ed (by rcases u456 with k9 | k9; exact absurd k9.1 (by omega); exact k9.2) | exact fyQ_f u466 (by omega) (by omega) z9)) u468 (by omega) u470 (by omega)
                                  · exact absurd c520 (by omega)
                              · refine zj_iconst (zdk ttX8_fewestCrossings 106 rfl rfl) ?_
                                refine zj_goto (t := 197) (zdk ttX8_fewestCrossings 107 rfl rfl) (by decide) ?_
                                refine zj_istore (L' := [some (.inr 108), some (.inr p1), some (.inl p2), some (.inl p3), some (.inl ((zshl 1 p2) - 1)), some (.inl x409), some (.inl x12), some (.inl (h13.2 112 x12)), some (.inl ((h13.2 112 x12) % 64)), some (.inl 1), some (.inl ((h13.2 112 x12) % 64)), some (.inl x410), some (.inl 1), some (.inl ((zxor ((h13.2 112 x12) % 64) x410) + 0)), some (.inl 1)]) (zdk ttX8_fewestCrossings 109 rfl rfl) (by decide) rfl ?_
                                refine zj_iload (zdk ttX8_fewestCrossings 110 rfl rfl) rfl ?_
                                refine zj_if_eq (t := 251) (zdk ttX8_fewestCrossings 111 rfl rfl) (by decide) (by decide) (fun c523 => ?_) (fun c523 => ?_)
                                · exact absurd c523 (by omega)
                                · refine zj_iload (zdk ttX8_fewestCrossings 112 rfl rfl) rfl ?_
                                  refine zj_if_eq (t := 251) (zdk ttX8_fewestCrossings 113 rfl rfl) (by decide) (by decide) (fun c524 => ?_) (fun c524 => ?_)
                                  · exact absurd c524 (by omega)
                                  · refine zj_aload_n (zdk ttX8_fewestCrossings 114 rfl rfl) rfl (by omega) ?_
                                    refine zj_iload (zdk ttX8_fewestCrossings 115 rfl rfl) rfl ?_
                                    refine zj_iload (zdk ttX8_fewestCrossings 116 rfl rfl) rfl ?_
                                    refine zj_iconst (zdk ttX8_fewestCrossings 117 rfl rfl) ?_
                                    refine zj_ixor (zdk ttX8_fewestCrossings 118 rfl rfl) ?_
                                    have b525 := zxor_in x410 (-1)
                                    refine zj_iand (zdk ttX8_fewestCrossings 119 rfl rfl) ?_
                                    have b526 := zand_l (a := ((h13.2 112 x12) % 64)) (by omega) (zxor x410 (-1))
                                    refine zj_callV (av := [.inl (zand ((h13.2 112 x12) % 64) (zxor x410 (-1)))]) (st := []) (zdk ttX8_fewestCrossings 120 rfl rfl) mb_X5_isSafe mv_RX8_51 (ci := 5) rfl rfl (k_5_0 s412 r_p1) rfl rfl (Nat.le_of_ble_eq_true rfl) (s2_X5_isSafe l h411 p1 (zand ((h13.2 112 x12) % 64) (zxor x410 (-1))) s412 r_p1 (by omega)) (rm_ok (by decide) (by decide)) (zq_i fun v528 h529 q527 => ?_)
                                    obtain ⟨rfl, b530, u531⟩ := q527
                                    have u532 : (v528 = 1 ∧ fyC (h.2 (p1 + 3)) (h.2 p1 4) (zand ((h13.2 112 x12) % 64) (zxor x410 (-1)))) ∨ (v528 = 0 ∧ ¬ fyC (h.2 (p1 + 3)) (h.2 p1 4) (zand ((h13.2 112 x12) % 64) (zxor x410 (-1)))) := by have z8 := u531; rw [show h411.2 (p1 + 3) = h.2 (p1 + 3) from funext fun i9 => (zfC_a f413 (fun z9 => by unfold w_X8_fewestCrossings at z9; omega)), show h411.2 p1 4 = h.2 p1 4 from (zfC_a f413 (fun z9 => by unfold w_X8_fewestCrossings at z9; omega))] at z8; exact z8
                                    refine zj_if_eq (t := 251) (zdk ttX8_fewestCrossings 121 rfl rfl) (by decide) (by omega) (fun c533 => ?_) (fun c533 => ?_)
                                    · refine zj_iinc (L' := [some (.inr 108), some (.inr p1), some (.inl p2), some (.inl p3), some (.inl ((zshl 1 p2) - 1)), some (.inl x409), some (.inl x12), some (.inl (h13.2 112 x12)), some (.inl ((h13.2 112 x12) % 64)), some (.inl 1), some (.inl ((h13.2 112 x12) % 64)), some (.inl (x410 + 1)), some (.inl 1), some (.inl ((zxor ((h13.2 112 x12) % 64) x410) + 0)), some (.inl 1)]) (zdk ttX8_fewestCrossings 138 rfl rfl) rfl (by decide) rfl ?_
                                      refine zj_goto (t := 119) (zdk ttX8_fewestCrossings 139 rfl rfl) (by decide) ?_
                                      refine zj_kill (k := 12) (L' := [some (.inr 108), some (.inr p1), some (.inl p2), some (.inl p3), some (.inl ((zshl 1 p2) - 1)), some (.inl x409), some (.inl x12), some (.inl (h13.2 112 x12)), some (.inl ((h13.2 112 x12) % 64)), some (.inl 1), some (.inl ((h13.2 112 x12) % 64)), some (.inl (x410 + 1)), none, some (.inl ((zxor ((h13.2 112 x12) % 64) x410) + 0)), some (.inl 1)]) rfl ?_
                                      refine zj_kill (k := 13) (L' := [some (.inr 108), some (.inr p1), some (.inl p2), some (.inl p3), some (.inl ((zshl 1 p2) - 1)), some (.inl x409), some (.inl x12), some (.inl (h13.2 112 x12)), some (.inl ((h13.2 112 x12) % 64)), some (.inl 1), some (.inl ((h13.2 112 x12) % 64)), some (.inl (x410 + 1)), none, none, some (.inl 1)]) rfl ?_
                                      refine zj_kill (k := 14) (L' := [some (.inr 108), some (.inr p1), some (.inl p2), some (.inl p3), some (.inl ((zshl 1 p2) - 1)), some (.inl x409), some (.inl x12), some (.inl (h13.2 112 x12)), some (.inl ((h13.2 112 x12) % 64)), some (.inl 1), some (.inl ((h13.2 112 x12) % 64)), some (.inl (x410 + 1)), none, none, none]) rfl ?_
                                      have f534 : ((h13.2 112 x12) % 64) = fyF ((zshl 1 p2) - 1) (h13.2 112 x12) := by first | exact fyF_0 (by omega) (by omega) | exact fyF_1 (by omega) (by omega)
                                      have n535 : fyN (h13.2 112 x12) x410 = ((zxor ((h13.2 112 x12) % 64) x410) + 0) := fyN_e (o := ((h13.2 112 x12) % 64)) (by omega) (by first | exact Or.inl ⟨by omega, by omega⟩ | exact Or.inr ⟨by omega, by omega⟩)
                                      exact ih472  x409 (x410 + 1) h411 (by omega) (by omega) s412 f413 u466 (fyP_s u467 (fun e9 => by obtain ⟨ea, eb, ec, ed⟩ := e9; rw [n535]; rw [← f534] at eb ed; intro z9; first | omega | exact absurd ed (by rcases u532 with k9 | k9; exact absurd k9.1 (by omega); exact k9.2) | exact fyQ_f u466 (by omega) (by omega) z9)) u468 (by omega) u470 (by omega)
                                    · have b536 : 0 ≤ (h411.2 111 (h13.2 112 x12)) ∧ (h411.2 111 (h13.2 112 x12)) ≤ 127 := by have z9 := (u466.1 x12 (by omega) (by omega)).2.1; rw [u468] at z9; omega
                                      refine zj_aload_n (zdk ttX8_fewestCrossings 122 rfl rfl) rfl (by decide) ?_
                                      refine zj_getr (r := 111) (zdk ttX8_fewestCrossings 123 rfl rfl) zf_RX8_18 rfl (k_L108 s412) (rf_L108_2 s412) ?_
                                      refine zj_iload (zdk ttX8_fewestCrossings 124 rfl rfl) rfl ?_
                                      refine zj_aload_n (zdk ttX8_fewestCrossings 125 rfl rfl) rfl (by decide) ?_
                                      refine zj_getr (r := 111) (zdk ttX8_fewestCrossings 126 rfl rfl) zf_RX8_18 rfl (k_L108 s412) (rf_L108_2 s412) ?_
                                      refine zj_iload (zdk ttX8_fewestCrossings 127 rfl rfl) rfl ?_
                                      refine zj_iald (v := (h411.2 111 (h13.2 112 x12))) (zdk ttX8_fewestCrossings 128 rfl rfl) (ka_L108_2 s412) (by decide) (by omega) rfl ?_
                                      refine zj_iconst (zdk ttX8_fewestCrossings 129 rfl rfl) ?_
                                      refine zj_iadd (zdk ttX8_fewestCrossings 130 rfl rfl) ?_
                                      refine zj_iast (zdk ttX8_fewestCrossings 131 rfl rfl) (ka_L108_2 s412) (by decide) (by omega) (fun h537 e538 => ?_)
                                      refine zj_aload_n (zdk ttX8_fewestCrossings 132 rfl rfl) rfl (by decide) ?_
                                      have s539 : okC h537 := aw_L108_2 s412 e538 (by omega)
                                      refine zj_getr (r := 112) (zdk ttX8_fewestCrossings 133 rfl rfl) zf_RX8_21 rfl (k_L108 s539) (rf_L108_3 s539) ?_
                                      refine zj_iload (zdk ttX8_fewestCrossings 134 rfl rfl) rfl ?_
                                      refine zj_iinc (L' := [some (.inr 108), some (.inr p1), some (.inl p2), some (.inl p3), some (.inl ((zshl 1 p2) - 1)), some (.inl (x409 + 1)), some (.inl x12), some (.inl (h13.2 112 x12)), some (.inl ((h13.2 112 x12) % 64)), some (.inl 1), some (.inl ((h13.2 112 x12) % 64)), some (.inl x410), some (.inl 1), some (.inl ((zxor ((h13.2 112 x12) % 64) x410) + 0)), some (.inl 1)]) (zdk ttX8_fewestCrossings 135 rfl rfl) rfl (by decide) rfl ?_
                                      refine zj_iload (zdk ttX8_fewestCrossings 136 rfl rfl) rfl ?_
                                      refine zj_iast (zdk ttX8_fewestCrossings 137 rfl rfl) (ka_L108_3 s539) (by decide) (by omega) (fun h540 e541 => ?_)
                                      refine zj_iinc (L' := [some (.inr 108), some (.inr p1), some (.inl p2), some (.inl p3), some (.inl ((zshl 1 p2) - 1)), some (.inl (x409 + 1)), some (.inl x12), some (.inl (h13.2 112 x12)), some (.inl ((h13.2 112 x12) % 64)), some (.inl 1), some (.inl ((h13.2 112 x12) % 64)), some (.inl (x410 + 1)), some (.inl 1), some (.inl ((zxor ((h13.2 112 x12) % 64) x410) + 0)), some (.inl 1)]) (zdk ttX8_fewestCrossings 138 rfl rfl) rfl (by decide) rfl ?_
                                      refine zj_goto (t := 119) (zdk ttX8_fewestCrossings 139 rfl rfl) (by decide) ?_
                                      refine zj_kill (k := 12) (L' := [some (.inr 108), some (.inr p1), some (.inl p2), some (.inl p3), some (.inl ((zshl 1 p2) - 1)), some (.inl (x409 + 1)), some (.inl x12), some (.inl (h13.2 112 x12)), some (.inl ((h13.2 112 x12) % 64)), some (.inl 1), some (.inl ((h13.2 112 x12) % 64)), some (.inl (x410 + 1)), none, some (.inl ((zxor ((h13.2 112 x12) % 64) x410) + 0)), some (.inl 1)]) rfl ?_
                                      refine zj_kill (k := 13) (L' := [some (.inr 108), some (.inr p1), some (.inl p2), some (.inl p3), some (.inl ((zshl 1 p2) - 1)), some (.inl (x409 + 1)), some (.inl x12), some (.inl (h13.2 112 x12)), some (.inl ((h13.2 112 x12) % 64)), some (.inl 1), some (.inl ((h13.2 112 x12) % 64)), some (.inl (x410 + 1)), none, none, some (.inl 1)]) rfl ?_
                                      refine zj_kill (k := 14) (L' := [some (.inr 108), some (.inr p1), some (.inl p2), some (.inl p3), some (.inl ((zshl 1 p2) - 1)), some (.inl (x409 + 1)), some (.inl x12), some (.inl (h13.2 112 x12)), some (.inl ((h13.2 112 x12) % 64)), some (.inl 1), some (.inl ((h13.2 112 x12) % 64)), some (.inl (x410 + 1)), none, none, none]) rfl ?_
                                      have s542 : okC h540 := aw_L108_3 s539 e541 (by omega)
                                      have f544 : zfC w_X8_fewestCrossings h h537 := zfC_w f413 e538 (by omega)
                                      have f543 : zfC w_X8_fewestCrossings h h540 := zfC_w f544 e541 (by omega)
                                      have f545 : ((h13.2 112 x12) % 64) = fyF ((zshl 1 p2) - 1) (h13.2 112 x12) := by first | exact fyF_0 (by omega) (by omega) | exact fyF_1 (by omega) (by omega)
                                      have n546 : fyN (h13.2 112 x12) x410 = ((zxor ((h13.2 112 x12) % 64) x410) + 0) := fyN_e (o := ((h13.2 112 x12) % 64)) (by omega) (by first | exact Or.inl ⟨by omega, by omega⟩ | exact Or.inr ⟨by omega, by omega⟩)
                                      have g547 : ∀ s, ¬ s = ((zxor ((h13.2 112 x12) % 64) x410) + 0) → h540.2 111 s = h411.2 111 s := fun s n => (zwr_r e541 (by omega)).trans (zwr_r e538 (by omega))
                                      have g548 : h540.2 111 ((zxor ((h13.2 112 x12) % 64) x410) + 0) = h411.2 111 (h13.2 112 x12) + 1 := (zwr_r e541 (by omega)).trans (zwr_v e538)
                                      have g549 : (fyE (fyC (h.2 (p1 + 3)) (h.2 p1 4)) ((zshl 1 p2) - 1) p3) (h411.2 112 x12) ((zxor ((h13.2 112 x12) % 64) x410) + 0) := by rw [u468]; exact ⟨r9, x410, ⟨by omega, by rw [← f545]; omega, by omega, by rw [← f545]; rcases u532 with k9 | k9; exact k9.2; exact absurd k9.1 (by omega)⟩, n546.symm⟩
                                      exact ih472  (x409 + 1) (x410 + 1) h540 (by omega) (by omega) s542 f543 (fyQ_s hE9 u466 (by omega) (by omega) g549 (by omega) (by rw [u468]; exact g548) g547 (zwr_v e541) (fun i n => (zwr_r e541 (by omega)).trans (zwr_r e538 (by omega)))) (fyP_s (fyP_w u467 g547 (by rw [g548]; omega)) (fun _ => by rw [n546, g548]; omega)) ((zwr_r e541 (by omega)).trans ((zwr_r e538 (by omega)).trans u468)) (by omega) (fun i a b => by rw [zwr_r e541 (by omega), zwr_r e538 (by omega)]; exact u470 i a b) (by omega)
                exact lp463 _ x11 0 h13 (by omega) (by omega) s14 f15 u254 fyP_0 rfl (by omega) u255 (Nat.lt_succ_self _)
          · refine zj_aload_n (zdk ttX8_fewestCrossings 44 rfl rfl) rfl (by decide) ?_
            refine zj_getr (r := 111) (zdk ttX8_fewestCrossings 45 rfl rfl) zf_RX8_18 rfl (k_L108 s14) (rf_L108_2 s14) ?_
            refine zj_iload (zdk ttX8_fewestCrossings 46 rfl rfl) rfl ?_
            have b550 : -2147483648 ≤ (h13.2 111 (h13.2 112 x12)) ∧ (h13.2 111 (h13.2 112 x12)) ≤ 2147483647 := ab_L108_2 s14 (h13.2 112 x12)
            refine zj_iald (v := (h13.2 111 (h13.2 112 x12))) (zdk ttX8_fewestCrossings 47 rfl rfl) (ka_L108_2 s14) (by decide) (by omega) rfl ?_
            exact zj_iret rfl (zdk ttX8_fewestCrossings 48 rfl rfl) (Nat.le_refl _) (Nat.le_refl _) ⟨(h13.2 111 (h13.2 112 x12)), rfl, by omega, s14, f15, by first | exact fyA_n hA9 u254 (by omega) u255 | exact fyA_y hA9 u254 (by omega) (by omega) (by omega) (show h13.2 112 x12 % 64 = ((zshl 1 p2) - 1) by omega) u255⟩
  have s551 : okC h9 := aw_L108_3 s8 e10 (by omega)
  have f554 : zfC w_X8_fewestCrossings h h3 := zfC_fill (zfC_r _ _) e4 (fun _ => (by omega))
  have f553 : zfC w_X8_fewestCrossings h h6 := zfC_w f554 e7 (by omega)
  have f552 : zfC w_X8_fewestCrossings h h9 := zfC_w f553 e10 (by omega)
  exact lp251 _ 1 0 h9 (by omega) (by omega) s551 f552 (fyQ_i (fun s a b => by rw [e4]; exact if_pos ⟨rfl, a, by omega⟩) e7 e10) (fun i a b => absurd b (by omega)) (by omega) (Nat.lt_succ_self _)

abbrev q2_X10_ferry (h : zM) (p1 : Int) (p2 : Int) : Option zV → zM → Prop := zqi fun v h' => ((-2147483648) ≤ v ∧ v ≤ 2147483647) ∧ okC h' ∧ zfC w_X10_ferry h h' ∧ (fyd (fyC (h.2 31) (h.2 28 4)) p1 p2 v)
set_option maxRecDepth 100000 in
set_option maxHeartbeats 4000000 in
theorem s2_X10_ferry (l : Launch) (h : zM) (p1 : Int) (p2 : Int) (s0 : okC h) (b_p1 : (-2147483648) ≤ p1 ∧ p1 ≤ 2147483647) (b_p2 : (-2147483648) ≤ p2 ∧ p2 ≤ 2147483647) : zT shC l yX10_ferry cX10_ferry 3 (some .int) (rmL 3) 0 0 [.inr 0, .inl p1, .inl p2] h (q2_X10_ferry h p1 p2) := by
  refine zT_of (by decide +kernel) (L0 := [some (.inr 0), some (.inl p1), some (.inl p2)]) rfl (Nat.le_of_ble_eq_true rfl) ?_
  refine zj_iload_n (zdk ttX10_ferry 0 rfl rfl) rfl ?_
  refine zj_iconst (zdk ttX10_ferry 1 rfl rfl) ?_
  refine zj_bipush (zdk ttX10_ferry 2 rfl rfl) (by decide) ?_
  refine zj_callS (av := [.inl p1, .inl 1, .inl 6]) (st := []) (zdk ttX10_ferry 3 rfl rfl) mb_X10_within ms_RX10_77 rfl rfl (Nat.le_of_ble_eq_true rfl) (s_X10_within l h p1 1 6 s0 (by omega) (by omega) (by omega)) (rm_ok (by decide) (by decide)) (zq_i fun v2 h3 q1 => ?_)
  obtain ⟨rfl, ⟨rfl, b4⟩ | ⟨rfl, b4⟩⟩ := q1
  · refine zj_if_eq (t := 19) (zdk ttX10_ferry 4 rfl rfl) (by decide) (by decide) (fun c5 => ?_) (fun c5 => ?_)
    · refine zj_iconst (zdk ttX10_ferry 10 rfl rfl) ?_
      exact zj_iret rfl (zdk ttX10_ferry 11 rfl rfl) (Nat.le_refl _) (Nat.le_refl _) ⟨(-1), rfl, by omega, s0, (zfC_r _ _), ⟨fun z => absurd z (by unfold fyZ; omega), fun _ => by omega⟩⟩
    · exact absurd c5 (by omega)
  · refine zj_if_eq (t := 19) (zdk ttX10_ferry 4 rfl rfl) (by decide) (by decide) (fun c6 => ?_) (fun c6 => ?_)
    · exact absurd c6 (by omega)
    · refine zj_iload_n (zdk ttX10_ferry 5 rfl rfl) rfl ?_
      refine zj_iconst (zdk ttX10_ferry 6 rfl rfl) ?_
      refine zj_iconst (zdk ttX10_ferry 7 rfl rfl) ?_
      refine zj_callS (av := [.inl p2, .inl 1, .inl 3]) (st := []) (zdk ttX10_ferry 8 rfl rfl) mb_X10_within ms_RX10_77 rfl rfl (Nat.le_of_ble_eq_true rfl) (s_X10_within l h p2 1 3 s0 (by omega) (by omega) (by omega)) (rm_ok (by decide) (by decide)) (zq_i fun v8 h9 q7 => ?_)
      obtain ⟨rfl, ⟨rfl, b10⟩ | ⟨rfl, b10⟩⟩ := q7
      · refine zj_if_ne (t := 21) (zdk ttX10_ferry 9 rfl rfl) (by decide) (by decide) (fun c11 => ?_) (fun c11 => ?_)
        · exact absurd c11 (by omega)
        · refine zj_iconst (zdk ttX10_ferry 10 rfl rfl) ?_
          exact zj_iret rfl (zdk ttX10_ferry 11 rfl rfl) (Nat.le_refl _) (Nat.le_refl _) ⟨(-1), rfl, by omega, s0, (zfC_r _ _), ⟨fun z => absurd z (by unfold fyZ; omega), fun _ => by omega⟩⟩
      · refine zj_if_ne (t := 21) (zdk ttX10_ferry 9 rfl rfl) (by decide) (by decide) (fun c12 => ?_) (fun c12 => ?_)
        · refine zj_aload_n (zdk ttX10_ferry 12 rfl rfl) rfl (by decide) ?_
          refine zj_getr (r := 108) (zdk ttX10_ferry 13 rfl rfl) zf_RX10_41 rfl (k_L0 s0) (rf_L0_5 s0) ?_
          refine zj_aload_n (zdk ttX10_ferry 14 rfl rfl) rfl (by decide) ?_
          refine zj_getr (r := 1) (zdk ttX10_ferry 15 rfl rfl) zf_RX10_10 rfl (k_L0 s0) (rf_L0_0 s0) ?_
          refine zj_getr (r := 28) (zdk ttX10_ferry 16 rfl rfl) zf_RX10_263 rfl (k_9_0 s0 zWd_1) (rf_9_0_6 s0 zWd_1) ?_
          refine zj_iload_n (zdk ttX10_ferry 17 rfl rfl) rfl ?_
          refine zj_iload_n (zdk ttX10_ferry 18 rfl rfl) rfl ?_
          refine zj_callV (av := [.inr 28, .inl p1, .inl p2]) (st := []) (zdk ttX10_ferry 19 rfl rfl) mb_X8_fewestCrossings mv_RX10_280 (ci := 8) rfl rfl (k_L108 s0) rfl rfl (Nat.le_of_ble_eq_true rfl) (s2_X8_fewestCrossings l h 28 p1 p2 s0 zPu_28 (by omega) (by omega)) (rm_ok (by decide) (by decide)) (zq_i fun v14 h15 q13 => ?_)
          obtain ⟨b16, s17, f19, u18⟩ := q13
          have f20 : zfC w_X10_ferry h h15 := zfC_t (zfC_r _ _) f19 (fun a9 b9 z9 => by
            exact z9)
          exact zj_iret rfl (zdk ttX10_ferry 20 rfl rfl) (Nat.le_refl _) (Nat.le_refl _) ⟨v14, rfl, by omega, s17, f20, ⟨fun _ => u18, fun z => absurd (by unfold fyZ; omega) z⟩⟩
        · exact absurd c12 (by omega)

def zRK (hC hM : zM) : Prop := hC.2 28 2 = hM.2 0 42 ∧ hC.2 28 4 = hM.2 0 45 ∧ hC.2 28 6 = hM.2 0 49 ∧ hC.2 28 9 = hM.2 0 53 ∧ (hM.2 0 59 = 1 → hC.2 62 2 = hM.2 35 67 ∧ hC.2 62 4 = hM.2 35 68 ∧ hC.2 62 6 = hM.2 35 69 ∧ hC.2 62 9 = hM.2 35 70 ∧ hC.2 36 3 = hM.2 35 63) ∧ hC.2 0 9 = hM.2 0 59 ∧ hC.2 103 3 = hM.2 0 11 ∧ hC.2 2 3 = hM.2 0 6
def zpC (a b : Int) : Prop := ((a = 28 ∨ a = 62) ∧ (b = 2 ∨ b = 4 ∨ b = 6 ∨ b = 9)) ∨ (a = 0 ∧ b = 9) ∨ (a = 103 ∧ b = 3) ∨ ((a = 2 ∨ a = 36) ∧ b = 3)
def zpJ (a b : Int) : Prop := (a = 0 ∧ b = 8) ∨ (114 ≤ a ∧ a ≤ 139) ∨ (a = 2 ∧ b = 3)
theorem zJP_f {h h' : zM} (s : okC h) (f : ∀ a b, zpJ a b → h'.2 a b = h.2 a b) (j : zJP h) : zJP h' := zJP_g s (f 0 8 (by unfold zpJ; omega)) (f 2 3 (by unfold zpJ; omega)) (fun a b z1 z2 => f a b (by unfold zpJ; omega)) j
def zpM (a b : Int) : Prop := (a = 0 ∧ (b = 42 ∨ b = 45 ∨ b = 49 ∨ b = 53 ∨ b = 59 ∨ b = 11 ∨ b = 6)) ∨ a = 35
def zokF (fs cs : List Int) : Bool := !cs.contains 0 && !cs.contains 35 && !fs.contains 42 && !fs.contains 45 && !fs.contains 49 && !fs.contains 53 && !fs.contains 59 && !fs.contains 11 && !fs.contains 6
theorem rkM {fs cs : List Int} {h h' : zM} (q : zfr fs cs h h') (k : zokF fs cs = true) : ∀ a b, zpM a b → h'.2 a b = h.2 a b := by
  unfold zokF at k
  simp only [Bool.and_eq_true, Bool.not_eq_true'] at k
  obtain ⟨⟨⟨⟨⟨⟨⟨⟨k0, k35⟩, k42⟩, k45⟩, k49⟩, k53⟩, k59⟩, k11⟩, k6⟩ := k
  intro a b z
  unfold zpM at z
  rcases z with ⟨rfl, rfl | rfl | rfl | rfl | rfl | rfl | rfl⟩ | rfl
  · exact zfr_f q k0 k42
  · exact zfr_f q k0 k45
  · exact zfr_f q k0 k49
  · exact zfr_f q k0 k53
  · exact zfr_f q k0 k59
  · exact zfr_f q k0 k11
  · exact zfr_f q k0 k6
  · exact zfr_a q k35 (by decide)
theorem rk_f {hC hC' hM hM' : zM} (r : zRK hC hM) (eC : ∀ a b, zpC a b → hC'.2 a b = hC.2 a b) (eM : ∀ a b, zpM a b → hM'.2 a b = hM.2 a b) : zRK hC' hM' := by
  unfold zRK at r ⊢
  rw [eC 28 2 (by unfold zpC; omega), eC 28 4 (by unfold zpC; omega), eC 28 6 (by unfold zpC; omega), eC 28 9 (by unfold zpC; omega), eC 62 2 (by unfold zpC; omega), eC 62 4 (by unfold zpC; omega), eC 62 6 (by unfold zpC; omega), eC 62 9 (by unfold zpC; omega), eC 0 9 (by unfold zpC; omega), eC 103 3 (by unfold zpC; omega), eC 2 3 (by unfold zpC; omega), eC 36 3 (by unfold zpC; omega), eM 0 6 (by unfold zpM; omega), eM 35 63 (by unfold zpM; omega), eM 0 42 (by unfold zpM; omega), eM 0 45 (by unfold zpM; omega), eM 0 49 (by unfold zpM; omega), eM 0 53 (by unfold zpM; omega), eM 0 59 (by unfold zpM; omega), eM 0 11 (by unfold zpM; omega), eM 35 67 (by unfold zpM; omega), eM 35 68 (by unfold zpM; omega), eM 35 69 (by unfold zpM; omega), eM 35 70 (by unfold zpM; omega)]
  exact r
theorem zcw_r {R V : Prop} {m n v n' N v' N' : Int} (c : zcw R V m n v n') (d : zcw R V m N v' N') (e : n = N) : v = v' ∧ n' = N' := by
  subst e
  by_cases r : R
  · have a := c.1 r; have b := d.1 r; omega
  · by_cases x : V
    · by_cases y : n < m
      · have a := c.2.1 r x y; have b := d.2.1 r x y; omega
      · have a := c.2.2.2 r (by omega); have b := d.2.2.2 r (by omega); omega
    · have a := c.2.2.1 r x; have b := d.2.2.1 r x; omega
theorem zfd_r {n v n' N v' N' : Int} (c : zfd n v n') (d : zfd N v' N') (e : n = N) : v = v' ∧ n' = N' := by
  subst e
  by_cases y : n ≤ 380
  · have a := c.1 y; have b := d.1 y; omega
  · have a := c.2 (by omega); have b := d.2 (by omega); omega
theorem zen_r {p n v n' N v' N' : Int} (c : zen p n v n') (d : zen p N v' N') (e : n = N) : v = v' ∧ n' = N' := by
  subst e
  by_cases y : p < 0
  · have a := c.2.1 y; have b := d.2.1 y; omega
  · by_cases z : n < p
    · have a := c.2.2 z; have b := d.2.2 z; omega
    · have a := c.1 (by omega) (by omega); have b := d.1 (by omega) (by omega); omega
theorem zis_r {w l n v n' N v' N' : Int} (c : zis w l n v n') (d : zis w l N v' N') (e : n = N) : v = v' ∧ n' = N' := by
  subst e
  by_cases y : zisG w l n
  · have a := c.1 y; have b := d.1 y; omega
  · have a := c.2 y; have b := d.2 y; omega
theorem zst_r {p q x n v N v' : Int} (c : zst9 p q x n v) (d : zst9 p q x N v') (e : n = N) : v = v' := by
  subst e
  by_cases y : zstG p q x n
  · rw [c.1 y, d.1 y]
  · rw [c.2 y, d.2 y]
theorem zimc_r {p q v q' Q v' Q' : Int} (c : zimc p q v q') (d : zimc p Q v' Q') (e : q = Q) : v = v' ∧ q' = Q' := by
  subst e
  by_cases z : p = 0
  · have a := c.2.1 z; have b := d.2.1 z
    by_cases y : q = 0
    · have a1 := c.2.2.1 z y; have b1 := d.2.2.1 z y; omega
    · have a1 := c.2.2.2 z y; have b1 := d.2.2.2 z y; omega
  · have a := c.1 z; have b := d.1 z; omega
theorem zimx_r {p q n k n' k' Q N K N' K' v Q' : Int} (c : zimx p q n k n' k') (d : zimx p Q N K N' K') (z : zimc p Q v Q') (e : q = Q) (hq : 0 ≤ q ∧ q ≤ 1) (en : n = N) (ek : Q = 1 → k = K) : n' = N' ∧ (Q' = 1 → k' = K') := by
  subst e; subst en
  by_cases y : p = 0
  · have z1 := z.2.1 y
    have a := c.2.1 y; have b := d.2.1 y
    by_cases w : q = 0
    · have a1 := c.2.2.1 y w; have b1 := d.2.2.1 y w
      exact ⟨by omega, fun u => by omega⟩
    · have a1 := c.2.2.2 y w; have b1 := d.2.2.2 y w
      have e9 := ek (by omega)
      exact ⟨by omega, fun u => by omega⟩
  · have a := c.1 y; have b := d.1 y
    exact ⟨by omega, fun _ => by omega⟩
def zRT (hC hM : zM) : Prop := fyS (hC.2 31) (hC.2 28 4) (hM.2 25) ∧ (hM.2 0 59 = 1 → fyS (hC.2 65) (hC.2 62 4) (fun k => hM.2 35 (141 + 3 * k)))
def zpT (a b : Int) : Prop := a = 31 ∨ a = 65 ∨ ((a = 28 ∨ a = 62) ∧ b = 4)
def zpU (a b : Int) : Prop := a = 25 ∨ a = 35 ∨ (a = 0 ∧ b = 59)
def zokT (fs cs : List Int) : Bool := !cs.contains 0 && !fs.contains 59 && !cs.contains 25 && !cs.contains 35
theorem rkT {fs cs : List Int} {h h' : zM} (q : zfr fs cs h h') (k : zokT fs cs = true) : ∀ a b, zpU a b → h'.2 a b = h.2 a b := by
  unfold zokT at k
  simp only [Bool.and_eq_true, Bool.not_eq_true'] at k
  obtain ⟨⟨⟨k0, k59⟩, k25⟩, k35⟩ := k
  intro a b z
  unfold zpU at z
  rcases z with rfl | rfl | ⟨rfl, rfl⟩
  · exact zfr_a q k25 (by decide)
  · exact zfr_a q k35 (by decide)
  · exact zfr_f q k0 k59
theorem zRT_f {hC hC' hM hM' : zM} (t : zRT hC hM) (eC : ∀ a b, zpT a b → hC'.2 a b = hC.2 a b) (eM : ∀ a b, zpU a b → hM'.2 a b = hM.2 a b) : zRT hC' hM' := by
  unfold zRT at t ⊢
  rw [show hC'.2 31 = hC.2 31 from funext fun i => eC 31 i (by unfold zpT; omega), show hC'.2 65 = hC.2 65 from funext fun i => eC 65 i (by unfold zpT; omega), eC 28 4 (by unfold zpT; omega), eC 62 4 (by unfold zpT; omega), show hM'.2 25 = hM.2 25 from funext fun i => eM 25 i (by unfold zpU; omega), show hM'.2 35 = hM.2 35 from funext fun i => eM 35 i (by unfold zpU; omega), eM 0 59 (by unfold zpU; omega)]
  exact t
theorem zSt_pt {h h0 hf : zM} (f0 : zfr [0, 58, 59, 60] [] h h0) (q : zSt h0 hf 1727) {j c k : Int} (hj : 0 ≤ j ∧ j < 1727) (hl : zloc j = (c, k)) : (¬ h0.2 0 58 = 0 → hf.2 35 j = h.2 c k ∧ hf.2 c k = h.2 c k) ∧ (h0.2 0 58 = 0 → hf.2 35 j = h.2 35 j ∧ hf.2 c k = h.2 35 j) := by
  obtain ⟨q1, q2, q3, q4, q5⟩ := q
  have l0 : h0.2 c k = h.2 c k := by
    have zj := zinv_i (i := j) hj
    rw [hl] at zj
    refine f0.2 _ _ rfl (fun w => ?_)
    have hm := List.contains_iff_mem.mp w.2
    have a := zj.1
    have w1 : c = 0 := w.1
    rw [w1] at a
    simp only [List.mem_cons, List.mem_nil_iff, or_false] at hm
    rcases hm with hm | hm | hm | hm <;> rw [hm] at a <;> simp [zinv] at a <;> omega
  have e3 := q3 j hj.1 hj.2
  unfold zlv at e3 q4
  rw [hl] at e3
  refine ⟨fun t => ?_, fun t => ?_⟩
  · have e4 := q4 t j hj.1 hj.2
    rw [hl] at e4
    have e4' : hf.2 c k = h0.2 c k := e4
    have e3' : hf.2 c k = hf.2 35 j := e3
    rw [← e3', e4', l0]; exact ⟨rfl, rfl⟩
  · have e5 := q5 t j
    have e6 : h0.2 35 j = h.2 35 j := zfr_a f0 rfl (by decide)
    have e3' : hf.2 c k = hf.2 35 j := e3
    rw [e3', e5, e6]; exact ⟨rfl, rfl⟩
theorem zpu_x {f f' : Int → Int} {v n x y : Int} (e : x = y) (q : zpu f f' v n x) : zpu f f' v n y := by rw [← e]; exact q

abbrev q2_X11_wheel (h : zM) (p1 : Int) (p2 : Int) : Option zV → zM → Prop := zqi fun v h' => ((-2147483648) ≤ v ∧ v ≤ 2147483647) ∧ okM h' ∧ zfr [0, 42] [23, 24] h h' ∧ (zcw (p1 = -1) (6 ≤ p1 ∧ p1 ≤ 99) 5 (h.2 0 42) v (h'.2 0 42))
set_option maxRecDepth 100000 in
set_option maxHeartbeats 4000000 in
theorem s2_X11_wheel (l : Launch) (h : zM) (p1 : Int) (p2 : Int) (s0 : okM h) (b_p1 : (-2147483648) ≤ p1 ∧ p1 ≤ 2147483647) (b_p2 : 0 ≤ p2 ∧ p2 ≤ 1) : zT shM l yX11_wheel cX11_wheel 3 (some .int) (rmL 2) 0 0 [.inr 0, .inl p1, .inl p2] h (q2_X11_wheel h p1 p2) := by
  refine zT_of (by decide +kernel) (L0 := [some (.inr 0), some (.inl p1), some (.inl p2)]) rfl (Nat.le_of_ble_eq_true rfl) ?_
  refine zj_aload_n (zdk ttX11_wheel 0 rfl rfl) rfl (by decide) ?_
  refine zj_iconst (zdk ttX11_wheel 1 rfl rfl) ?_
  refine zj_puti (zdk ttX11_wheel 2 rfl rfl) zf_RX11_120 rfl (k_M s0) (Or.inl zw_RX11_120) (k2 := 0) rfl (fun h1 e2 => ?_)
  refine zj_iload_n (zdk ttX11_wheel 3 rfl rfl) rfl ?_
  refine zj_iconst (zdk ttX11_wheel 4 rfl rfl) ?_
  refine zj_icmp_ne (t := 17) (zdk ttX11_wheel 5 rfl rfl) (by decide) (by omega) (by decide) (fun c3 => ?_) (fun c3 => ?_)
  · refine zj_aload_n (zdk ttX11_wheel 11 rfl rfl) rfl (by decide) ?_
    refine zj_iload_n (zdk ttX11_wheel 12 rfl rfl) rfl ?_
    refine zj_bipush (zdk ttX11_wheel 13 rfl rfl) (by decide) ?_
    refine zj_bipush (zdk ttX11_wheel 14 rfl rfl) (by decide) ?_
    have s4 : okM h1 := fwM_0 s0 e2 (by omega)
    refine zj_callV (av := [.inl p1, .inl 6, .inl 99]) (st := []) (zdk ttX11_wheel 15 rfl rfl) mb_X11_isIn mv_RX11_139 (ci := 11) rfl rfl (k_M s4) rfl rfl (Nat.le_of_ble_eq_true rfl) (s_X11_isIn l h1 p1 6 99 s4 (by omega) (by omega) (by omega)) (rm_ok (by decide) (by decide)) (zq_i fun v6 h7 q5 => ?_)
    obtain ⟨rfl, ⟨rfl, b8⟩ | ⟨rfl, b8⟩⟩ := q5
    · refine zj_if_eq (t := 37) (zdk ttX11_wheel 16 rfl rfl) (by decide) (by decide) (fun c9 => ?_) (fun c9 => ?_)
      · refine zj_iconst (zdk ttX11_wheel 21 rfl rfl) ?_
        have f10 : zfr [0, 42] [23, 24] h h1 := zfr_wf (zfr_r _ _ _) e2 rfl
        have b11 : h1.2 0 42 = (h.2 0 42) := (zwr_r e2 (by omega))
        have b12 : 0 ≤ (h.2 0 42) ∧ (h.2 0 42) ≤ 5 := fM_42 s0
        exact zj_iret rfl (zdk ttX11_wheel 22 rfl rfl) (Nat.le_refl _) (Nat.le_refl _) ⟨(-1), rfl, by omega, s4, f10, by unfold zcw; omega⟩
      · exact absurd c9 (by omega)
    · refine zj_if_eq (t := 37) (zdk ttX11_wheel 16 rfl rfl) (by decide) (by decide) (fun c13 => ?_) (fun c13 => ?_)
      · exact absurd c13 (by omega)
      · refine zj_aload_n (zdk ttX11_wheel 17 rfl rfl) rfl (by decide) ?_
        have b14 : 0 ≤ (h.2 0 42) ∧ (h.2 0 42) ≤ 5 := fM_42 s0
        refine zj_geti (v := (h.2 0 42)) (zdk ttX11_wheel 18 rfl rfl) zf_RX11_401 rfl (k_M s4) (zwr_r e2 (by omega)) ?_
        refine zj_iconst (zdk ttX11_wheel 19 rfl rfl) ?_
        refine zj_icmp_ne (t := 39) (zdk ttX11_wheel 20 rfl rfl) (by decide) (by omega) (by decide) (fun c15 => ?_) (fun c15 => ?_)
        · refine zj_aload_n (zdk ttX11_wheel 23 rfl rfl) rfl (by decide) ?_
          refine zj_getr (r := 23) (zdk ttX11_wheel 24 rfl rfl) zf_RX11_80 rfl (k_M s4) (rfM_43 s4) ?_
          refine zj_aload_n (zdk ttX11_wheel 25 rfl rfl) rfl (by decide) ?_
          refine zj_geti (v := (h.2 0 42)) (zdk ttX11_wheel 26 rfl rfl) zf_RX11_401 rfl (k_M s4) (zwr_r e2 (by omega)) ?_
          refine zj_iload_n (zdk ttX11_wheel 27 rfl rfl) rfl ?_
          refine zj_iast (zdk ttX11_wheel 28 rfl rfl) (kaM_23 s4) (by decide) (by omega) (fun h16 e17 => ?_)
          refine zj_aload_n (zdk ttX11_wheel 29 rfl rfl) rfl (by decide) ?_
          have b19 : h1.2 0 42 = (h.2 0 42) := (zwr_r e2 (by omega))
          have s18 : okM h16 := okM_teeth s4 e17 (by omega) (by omega)
          refine zj_getr (r := 24) (zdk ttX11_wheel 30 rfl rfl) zf_RX11_83 rfl (k_M s18) (rfM_44 s18) ?_
          refine zj_aload_n (zdk ttX11_wheel 31 rfl rfl) rfl (by decide) ?_
          refine zj_geti (v := (h.2 0 42)) (zdk ttX11_wheel 32 rfl rfl) zf_RX11_401 rfl (k_M s18) ((zwr_r e17 (by omega)).trans (zwr_r e2 (by omega))) ?_
          refine zj_iload_n (zdk ttX11_wheel 33 rfl rfl) rfl ?_
          refine zj_if_eq (t := 65) (zdk ttX11_wheel 34 rfl rfl) (by decide) (by omega) (fun c20 => ?_) (fun c20 => ?_)
          · refine zj_iconst (zdk ttX11_wheel 37 rfl rfl) ?_
            refine zj_iast (zdk ttX11_wheel 38 rfl rfl) (kaM_24 s18) (by decide) (by omega) (fun h21 e22 => ?_)
            refine zj_aload_n (zdk ttX11_wheel 39 rfl rfl) rfl (by decide) ?_
            refine zj_aload_n (zdk ttX11_wheel 40 rfl rfl) rfl (by decide) ?_
            have s23 : okM h21 := awM_24 s18 e22 (by omega) (by unfold nsp; omega)
            refine zj_geti (v := (h.2 0 42)) (zdk ttX11_wheel 41 rfl rfl) zf_RX11_401 rfl (k_M s23) (((zwr_r e22 (by omega)).trans (zwr_r e17 (by omega))).trans (zwr_r e2 (by omega))) ?_
            refine zj_iconst (zdk ttX11_wheel 42 rfl rfl) ?_
            refine zj_iadd (zdk ttX11_wheel 43 rfl rfl) ?_
            refine zj_puti (zdk ttX11_wheel 44 rfl rfl) zf_RX11_401 rfl (k_M s23) (Or.inl zw_RX11_401) (k2 := 42) rfl (fun h24 e25 => ?_)
            refine zj_aload_n (zdk ttX11_wheel 45 rfl rfl) rfl (by decide) ?_
            have z27 : 0 ≤ h1.2 0 42 ∧ h1.2 0 42 ≤ 5 := s4.2.1 0 42
            have z27e : h1.2 0 42 = (h.2 0 42) := by first | rfl | exact (zwr_r e2 (by omega))
            have z27c : ∀ k, 0 ≤ k → k < ((h.2 0 42) + 1) → 6 ≤ h21.2 23 k ∧ h21.2 23 k ≤ 99 := by
              intro k q1 q2
              rw [zwr_r e22 (by omega)]
              by_cases q : k = (h.2 0 42)
              · rw [q, zwr_v e17]; omega
              · rw [zwr_r e17 (by omega)]; exact s4.2.2.2.1.1 k q1 (by omega)
            have s26 : okM h24 := okM_wheel s23 e25 (by omega) z27c
            refine zj_geti (v := ((h.2 0 42) + 1)) (zdk ttX11_wheel 46 rfl rfl) zf_RX11_401 rfl (k_M s26) (zwr_v e25) ?_
            have f31 : zfr [0, 42] [23, 24] h h1 := zfr_wf (zfr_r _ _ _) e2 rfl
            have f30 : zfr [0, 42] [23, 24] h h16 := zfr_wa f31 e17 rfl
            have f29 : zfr [0, 42] [23, 24] h h21 := zfr_wa f30 e22 rfl
            have f28 : zfr [0, 42] [23, 24] h h24 := zfr_wf f29 e25 rfl
            have b32 : h24.2 0 42 = ((h.2 0 42) + 1) := (zwr_v e25)
            exact zj_iret rfl (zdk ttX11_wheel 47 rfl rfl) (Nat.le_refl _) (Nat.le_refl _) ⟨((h.2 0 42) + 1), rfl, by omega, s26, f28, by unfold zcw; omega⟩
          · refine zj_iconst (zdk ttX11_wheel 35 rfl rfl) ?_
            refine zj_goto (t := 66) (zdk ttX11_wheel 36 rfl rfl) (by decide) ?_
            refine zj_iast (zdk ttX11_wheel 38 rfl rfl) (kaM_24 s18) (by decide) (by omega) (fun h33 e34 => ?_)
            refine zj_aload_n (zdk ttX11_wheel 39 rfl rfl) rfl (by decide) ?_
            refine zj_aload_n (zdk ttX11_wheel 40 rfl rfl) rfl (by decide) ?_
            have s35 : okM h33 := awM_24 s18 e34 (by omega) (by unfold nsp; omega)
            refine zj_geti (v := (h.2 0 42)) (zdk ttX11_wheel 41 rfl rfl) zf_RX11_401 rfl (k_M s35) (((zwr_r e34 (by omega)).trans (zwr_r e17 (by omega))).trans (zwr_r e2 (by omega))) ?_
            refine zj_iconst (zdk ttX11_wheel 42 rfl rfl) ?_
            refine zj_iadd (zdk ttX11_wheel 43 rfl rfl) ?_
            refine zj_puti (zdk ttX11_wheel 44 rfl rfl) zf_RX11_401 rfl (k_M s35) (Or.inl zw_RX11_401) (k2 := 42) rfl (fun h36 e37 => ?_)
            refine zj_aload_n (zdk ttX11_wheel 45 rfl rfl) rfl (by decide) ?_
            have z39 : 0 ≤ h1.2 0 42 ∧ h1.2 0 42 ≤ 5 := s4.2.1 0 42
            have z39e : h1.2 0 42 = (h.2 0 42) := by first | rfl | exact (zwr_r e2 (by omega))
            have z39c : ∀ k, 0 ≤ k → k < ((h.2 0 42) + 1) → 6 ≤ h33.2 23 k ∧ h33.2 23 k ≤ 99 := by
              intro k q1 q2
              rw [zwr_r e34 (by omega)]
              by_cases q : k = (h.2 0 42)
              · rw [q, zwr_v e17]; omega
              · rw [zwr_r e17 (by omega)]; exact s4.2.2.2.1.1 k q1 (by omega)
            have s38 : okM h36 := okM_wheel s35 e37 (by omega) z39c
            refine zj_geti (v := ((h.2 0 42) + 1)) (zdk ttX11_wheel 46 rfl rfl) zf_RX11_401 rfl (k_M s38) (zwr_v e37) ?_
            have f43 : zfr [0, 42] [23, 24] h h1 := zfr_wf (zfr_r _ _ _) e2 rfl
            have f42 : zfr [0, 42] [23, 24] h h16 := zfr_wa f43 e17 rfl
            have f41 : zfr [0, 42] [23, 24] h h33 := zfr_wa f42 e34 rfl
            have f40 : zfr [0, 42] [23, 24] h h36 := zfr_wf f41 e37 rfl
            have b44 : h36.2 0 42 = ((h.2 0 42) + 1) := (zwr_v e37)
            exact zj_iret rfl (zdk ttX11_wheel 47 rfl rfl) (Nat.le_refl _) (Nat.le_refl _) ⟨((h.2 0 42) + 1), rfl, by omega, s38, f40, by unfold zcw; omega⟩
        · refine zj_iconst (zdk ttX11_wheel 21 rfl rfl) ?_
          have f45 : zfr [0, 42] [23, 24] h h1 := zfr_wf (zfr_r _ _ _) e2 rfl
          have b46 : h1.2 0 42 = (h.2 0 42) := (zwr_r e2 (by omega))
          exact zj_iret rfl (zdk ttX11_wheel 22 rfl rfl) (Nat.le_refl _) (Nat.le_refl _) ⟨(-1), rfl, by omega, s4, f45, by unfold zcw; omega⟩
  · refine zj_aload_n (zdk ttX11_wheel 6 rfl rfl) rfl (by decide) ?_
    refine zj_iconst (zdk ttX11_wheel 7 rfl rfl) ?_
    have s47 : okM h1 := fwM_0 s0 e2 (by omega)
    refine zj_puti (zdk ttX11_wheel 8 rfl rfl) zf_RX11_401 rfl (k_M s47) (Or.inl zw_RX11_401) (k2 := 42) rfl (fun h48 e49 => ?_)
    refine zj_iconst (zdk ttX11_wheel 9 rfl rfl) ?_
    have s50 : okM h48 := okM_wheel s47 e49 (by decide) (fun k q1 q2 => absurd q1 (by omega))
    have f52 : zfr [0, 42] [23, 24] h h1 := zfr_wf (zfr_r _ _ _) e2 rfl
    have f51 : zfr [0, 42] [23, 24] h h48 := zfr_wf f52 e49 rfl
    have b53 : h48.2 0 42 = 0 := (zwr_v e49)
    exact zj_iret rfl (zdk ttX11_wheel 10 rfl rfl) (Nat.le_refl _) (Nat.le_refl _) ⟨0, rfl, by omega, s50, f51, by unfold zcw; omega⟩

abbrev q2_X11_couple (h : zM) (p1 : Int) (p2 : Int) : Option zV → zM → Prop := zqi fun v h' => ((-2147483648) ≤ v ∧ v ≤ 2147483647) ∧ okM h' ∧ zfr [0, 45] [25] h h' ∧ (0 ≤ h.2 0 45 → h.2 0 45 ≤ 8 → zcw (p1 = -1) ((0 ≤ p1 ∧ p1 ≤ 5) ∧ (0 ≤ p2 ∧ p2 ≤ 5) ∧ ¬ p1 = p2) 8 (h.2 0 45) v (h'.2 0 45)) ∧ (0 ≤ h.2 0 45 → h.2 0 45 ≤ 8 → fyU (h.2 25) (h'.2 25) v p1 p2)
set_option maxRecDepth 100000 in
set_option maxHeartbeats 4000000 in
theorem s2_X11_couple (l : Launch) (h : zM) (p1 : Int) (p2 : Int) (s0 : okM h) (b_p1 : (-2147483648) ≤ p1 ∧ p1 ≤ 2147483647) (b_p2 : (-2147483648) ≤ p2 ∧ p2 ≤ 2147483647) : zT shM l yX11_couple cX11_couple 4 (some .int) (rmL 2) 0 0 [.inr 0, .inl p1, .inl p2] h (q2_X11_couple h p1 p2) := by
  refine zT_of (by decide +kernel) (L0 := [some (.inr 0), some (.inl p1), some (.inl p2), none]) rfl (Nat.le_of_ble_eq_true rfl) ?_
  refine zj_aload_n (zdk ttX11_couple 0 rfl rfl) rfl (by decide) ?_
  refine zj_iconst (zdk ttX11_couple 1 rfl rfl) ?_
  refine zj_puti (zdk ttX11_couple 2 rfl rfl) zf_RX11_120 rfl (k_M s0) (Or.inl zw_RX11_120) (k2 := 0) rfl (fun h1 e2 => ?_)
  refine zj_iload_n (zdk ttX11_couple 3 rfl rfl) rfl ?_
  refine zj_iconst (zdk ttX11_couple 4 rfl rfl) ?_
  refine zj_icmp_ne (t := 38) (zdk ttX11_couple 5 rfl rfl) (by decide) (by omega) (by decide) (fun c3 => ?_) (fun c3 => ?_)
  · refine zj_aload_n (zdk ttX11_couple 23 rfl rfl) rfl (by decide) ?_
    refine zj_iload_n (zdk ttX11_couple 24 rfl rfl) rfl ?_
    refine zj_iconst (zdk ttX11_couple 25 rfl rfl) ?_
    refine zj_iconst (zdk ttX11_couple 26 rfl rfl) ?_
    have s4 : okM h1 := fwM_0 s0 e2 (by omega)
    refine zj_callV (av := [.inl p1, .inl 0, .inl 5]) (st := []) (zdk ttX11_couple 27 rfl rfl) mb_X11_isIn mv_RX11_139 (ci := 11) rfl rfl (k_M s4) rfl rfl (Nat.le_of_ble_eq_true rfl) (s_X11_isIn l h1 p1 0 5 s4 (by omega) (by omega) (by omega)) (rm_ok (by decide) (by decide)) (zq_i fun v6 h7 q5 => ?_)
    obtain ⟨rfl, ⟨rfl, b8⟩ | ⟨rfl, b8⟩⟩ := q5
    · refine zj_if_eq (t := 72) (zdk ttX11_couple 28 rfl rfl) (by decide) (by decide) (fun c9 => ?_) (fun c9 => ?_)
      · refine zj_iconst (zdk ttX11_couple 42 rfl rfl) ?_
        have f10 : zfr [0, 45] [25] h h1 := zfr_wf (zfr_r _ _ _) e2 rfl
        have b11 : h1.2 0 45 = (h.2 0 45) := (zwr_r e2 (by omega))
        have b12 : -2147483648 ≤ (h.2 0 45) ∧ (h.2 0 45) ≤ 2147483647 := fM_45 s0
        exact zj_iret rfl (zdk ttX11_couple 43 rfl rfl) (Nat.le_refl _) (Nat.le_refl _) ⟨(-1), rfl, by omega, s4, f10, by intro z8 z9; have w9 : zwp ((h.2 0 45) + 1) = (h.2 0 45) + 1 := zwp_id (by omega); unfold zcw; omega, (fun z8 z9 => ⟨fun z => absurd z (by omega), fun _ k => (zwr_r e2 (by omega)), fun z => absurd z (by omega)⟩)⟩
      · exact absurd c9 (by omega)
    · refine zj_if_eq (t := 72) (zdk ttX11_couple 28 rfl rfl) (by decide) (by decide) (fun c13 => ?_) (fun c13 => ?_)
      · exact absurd c13 (by omega)
      · refine zj_aload_n (zdk ttX11_couple 29 rfl rfl) rfl (by decide) ?_
        refine zj_iload_n (zdk ttX11_couple 30 rfl rfl) rfl ?_
        refine zj_iconst (zdk ttX11_couple 31 rfl rfl) ?_
        refine zj_iconst (zdk ttX11_couple 32 rfl rfl) ?_
        refine zj_callV (av := [.inl p2, .inl 0, .inl 5]) (st := []) (zdk ttX11_couple 33 rfl rfl) mb_X11_isIn mv_RX11_139 (ci := 11) rfl rfl (k_M s4) rfl rfl (Nat.le_of_ble_eq_true rfl) (s_X11_isIn l h1 p2 0 5 s4 (by omega) (by omega) (by omega)) (rm_ok (by decide) (by decide)) (zq_i fun v15 h16 q14 => ?_)
        obtain ⟨rfl, ⟨rfl, b17⟩ | ⟨rfl, b17⟩⟩ := q14
        · refine zj_if_eq (t := 72) (zdk ttX11_couple 34 rfl rfl) (by decide) (by decide) (fun c18 => ?_) (fun c18 => ?_)
          · refine zj_iconst (zdk ttX11_couple 42 rfl rfl) ?_
            have f19 : zfr [0, 45] [25] h h1 := zfr_wf (zfr_r _ _ _) e2 rfl
            have b20 : h1.2 0 45 = (h.2 0 45) := (zwr_r e2 (by omega))
            have b21 : -2147483648 ≤ (h.2 0 45) ∧ (h.2 0 45) ≤ 2147483647 := fM_45 s0
            exact zj_iret rfl (zdk ttX11_couple 43 rfl rfl) (Nat.le_refl _) (Nat.le_refl _) ⟨(-1), rfl, by omega, s4, f19, by intro z8 z9; have w9 : zwp ((h.2 0 45) + 1) = (h.2 0 45) + 1 := zwp_id (by omega); unfold zcw; omega, (fun z8 z9 => ⟨fun z => absurd z (by omega), fun _ k => (zwr_r e2 (by omega)), fun z => absurd z (by omega)⟩)⟩
          · exact absurd c18 (by omega)
        · refine zj_if_eq (t := 72) (zdk ttX11_couple 34 rfl rfl) (by decide) (by decide) (fun c22 => ?_) (fun c22 => ?_)
          · exact absurd c22 (by omega)
          · refine zj_iload_n (zdk ttX11_couple 35 rfl rfl) rfl ?_
            refine zj_iload_n (zdk ttX11_couple 36 rfl rfl) rfl ?_
            refine zj_icmp_eq (t := 72) (zdk ttX11_couple 37 rfl rfl) (by decide) (by omega) (by omega) (fun c23 => ?_) (fun c23 => ?_)
            · refine zj_iconst (zdk ttX11_couple 42 rfl rfl) ?_
              have f24 : zfr [0, 45] [25] h h1 := zfr_wf (zfr_r _ _ _) e2 rfl
              have b25 : h1.2 0 45 = (h.2 0 45) := (zwr_r e2 (by omega))
              have b26 : -2147483648 ≤ (h.2 0 45) ∧ (h.2 0 45) ≤ 2147483647 := fM_45 s0
              exact zj_iret rfl (zdk ttX11_couple 43 rfl rfl) (Nat.le_refl _) (Nat.le_refl _) ⟨(-1), rfl, by omega, s4, f24, by intro z8 z9; have w9 : zwp ((h.2 0 45) + 1) = (h.2 0 45) + 1 := zwp_id (by omega); unfold zcw; omega, (fun z8 z9 => ⟨fun z => absurd z (by omega), fun _ k => (zwr_r e2 (by omega)), fun z => absurd z (by omega)⟩)⟩
            · refine zj_aload_n (zdk ttX11_couple 38 rfl rfl) rfl (by decide) ?_
              have b27 : -2147483648 ≤ (h.2 0 45) ∧ (h.2 0 45) ≤ 2147483647 := fM_45 s0
              refine zj_geti (v := (h.2 0 45)) (zdk ttX11_couple 39 rfl rfl) zf_RX11_408 rfl (k_M s4) (zwr_r e2 (by omega)) ?_
              refine zj_bipush (zdk ttX11_couple 40 rfl rfl) (by decide) ?_
              refine zj_icmp_ne (t := 74) (zdk ttX11_couple 41 rfl rfl) (by decide) (by omega) (by decide) (fun c28 => ?_) (fun c28 => ?_)
              · refine zj_aload_n (zdk ttX11_couple 44 rfl rfl) rfl (by decide) ?_
                refine zj_getr (r := 25) (zdk ttX11_couple 45 rfl rfl) zf_RX11_86 rfl (k_M s4) (rfM_46 s4) ?_
                refine zj_iload_n (zdk ttX11_couple 46 rfl rfl) rfl ?_
                refine zj_aload_n (zdk ttX11_couple 47 rfl rfl) rfl (by decide) ?_
                refine zj_getr (r := 25) (zdk ttX11_couple 48 rfl rfl) zf_RX11_86 rfl (k_M s4) (rfM_46 s4) ?_
                refine zj_iload_n (zdk ttX11_couple 49 rfl rfl) rfl ?_
                have b29 : -2147483648 ≤ (h.2 25 p1) ∧ (h.2 25 p1) ≤ 2147483647 := abM_25 s0 p1
                refine zj_iald (v := (h.2 25 p1)) (zdk ttX11_couple 50 rfl rfl) (kaM_25 s4) (by decide) (by omega) (zwr_r e2 (by omega)) ?_
                refine zj_iconst (zdk ttX11_couple 51 rfl rfl) ?_
                refine zj_iload_n (zdk ttX11_couple 52 rfl rfl) rfl ?_
                refine zj_ishl (zdk ttX11_couple 53 rfl rfl) ?_
                have b30 := zshl_1 (n := p2) (a := 0) (b := 5) (lo := 1) (hi := 32) (by omega) (by decide) (by decide) (by decide)
                refine zj_ior (zdk ttX11_couple 54 rfl rfl) ?_
                have b31 := zor_in (h.2 25 p1) (zshl 1 p2)
                refine zj_iast (zdk ttX11_couple 55 rfl rfl) (kaM_25 s4) (by decide) (by omega) (fun h32 e33 => ?_)
                refine zj_aload_n (zdk ttX11_couple 56 rfl rfl) rfl (by decide) ?_
                have s34 : okM h32 := awM_25 s4 e33 (by omega) (by unfold nsp; omega)
                refine zj_getr (r := 25) (zdk ttX11_couple 57 rfl rfl) zf_RX11_86 rfl (k_M s34) (rfM_46 s34) ?_
                refine zj_iload_n (zdk ttX11_couple 58 rfl rfl) rfl ?_
                refine zj_aload_n (zdk ttX11_couple 59 rfl rfl) rfl (by decide) ?_
                refine zj_getr (r := 25) (zdk ttX11_couple 60 rfl rfl) zf_RX11_86 rfl (k_M s34) (rfM_46 s34) ?_
                refine zj_iload_n (zdk ttX11_couple 61 rfl rfl) rfl ?_
                have b35 : -2147483648 ≤ (h32.2 25 p2) ∧ (h32.2 25 p2) ≤ 2147483647 := abM_25 s34 p2
                refine zj_iald (v := (h32.2 25 p2)) (zdk ttX11_couple 62 rfl rfl) (kaM_25 s34) (by decide) (by omega) rfl ?_
                refine zj_iconst (zdk ttX11_couple 63 rfl rfl) ?_
                refine zj_iload_n (zdk ttX11_couple 64 rfl rfl) rfl ?_
                refine zj_ishl (zdk ttX11_couple 65 rfl rfl) ?_
                have b36 := zshl_1 (n := p1) (a := 0) (b := 5) (lo := 1) (hi := 32) (by omega) (by decide) (by decide) (by decide)
                refine zj_ior (zdk ttX11_couple 66 rfl rfl) ?_
                have b37 := zor_in (h32.2 25 p2) (zshl 1 p1)
                refine zj_iast (zdk ttX11_couple 67 rfl rfl) (kaM_25 s34) (by decide) (by omega) (fun h38 e39 => ?_)
                refine zj_aload_n (zdk ttX11_couple 68 rfl rfl) rfl (by decide) ?_
                refine zj_aload_n (zdk ttX11_couple 69 rfl rfl) rfl (by decide) ?_
                have s40 : okM h38 := awM_25 s34 e39 (by omega) (by unfold nsp; omega)
                refine zj_geti (v := (h.2 0 45)) (zdk ttX11_couple 70 rfl rfl) zf_RX11_408 rfl (k_M s40) (((zwr_r e39 (by omega)).trans (zwr_r e33 (by omega))).trans (zwr_r e2 (by omega))) ?_
                refine zj_iconst (zdk ttX11_couple 71 rfl rfl) ?_
                refine zj_iadd (zdk ttX11_couple 72 rfl rfl) ?_
                refine zj_wrap ?_
                have b41 := zwp_in ((h.2 0 45) + 1)
                refine zj_puti (zdk ttX11_couple 73 rfl rfl) zf_RX11_408 rfl (k_M s40) (Or.inl zw_RX11_408) (k2 := 45) rfl (fun h42 e43 => ?_)
                refine zj_aload_n (zdk ttX11_couple 74 rfl rfl) rfl (by decide) ?_
                have s44 : okM h42 := fwM_45 s40 e43 (by omega)
                refine zj_geti (v := (zwp ((h.2 0 45) + 1))) (zdk ttX11_couple 75 rfl rfl) zf_RX11_408 rfl (k_M s44) (zwr_v e43) ?_
                have f48 : zfr [0, 45] [25] h h1 := zfr_wf (zfr_r _ _ _) e2 rfl
                have f47 : zfr [0, 45] [25] h h32 := zfr_wa f48 e33 rfl
                have f46 : zfr [0, 45] [25] h h38 := zfr_wa f47 e39 rfl
                have f45 : zfr [0, 45] [25] h h42 := zfr_wf f46 e43 rfl
                have b49 : h42.2 0 45 = (zwp ((h.2 0 45) + 1)) := (zwr_v e43)
                exact zj_iret rfl (zdk ttX11_couple 76 rfl rfl) (Nat.le_refl _) (Nat.le_refl _) ⟨(zwp ((h.2 0 45) + 1)), rfl, by omega, s44, f45, by intro z8 z9; have w9 : zwp ((h.2 0 45) + 1) = (h.2 0 45) + 1 := zwp_id (by omega); unfold zcw; omega, (fun z8 z9 => fyU_w (fun i => (zwr_r e2 (by omega))) rfl e33 rfl e39 (fun i => (zwr_r e43 (by omega))) (by omega) (by have w9 : zwp ((h.2 0 45) + 1) = (h.2 0 45) + 1 := zwp_id (by omega); omega))⟩
              · refine zj_iconst (zdk ttX11_couple 42 rfl rfl) ?_
                have f50 : zfr [0, 45] [25] h h1 := zfr_wf (zfr_r _ _ _) e2 rfl
                have b51 : h1.2 0 45 = (h.2 0 45) := (zwr_r e2 (by omega))
                exact zj_iret rfl (zdk ttX11_couple 43 rfl rfl) (Nat.le_refl _) (Nat.le_refl _) ⟨(-1), rfl, by omega, s4, f50, by intro z8 z9; have w9 : zwp ((h.2 0 45) + 1) = (h.2 0 45) + 1 := zwp_id (by omega); unfold zcw; omega, (fun z8 z9 => ⟨fun z => absurd z (by omega), fun _ k => (zwr_r e2 (by omega)), fun z => absurd z (by omega)⟩)⟩
  · refine zj_aload_n (zdk ttX11_couple 6 rfl rfl) rfl (by decide) ?_
    refine zj_iconst (zdk ttX11_couple 7 rfl rfl) ?_
    have s52 : okM h1 := fwM_0 s0 e2 (by omega)
    refine zj_puti (zdk ttX11_couple 8 rfl rfl) zf_RX11_408 rfl (k_M s52) (Or.inl zw_RX11_408) (k2 := 45) rfl (fun h53 e54 => ?_)
    refine zj_iconst (zdk ttX11_couple 9 rfl rfl) ?_
    refine zj_istore_n (L' := [some (.inr 0), some (.inl p1), some (.inl p2), some (.inl 0)]) (zdk ttX11_couple 10 rfl rfl) (by decide) rfl ?_
    have lp77 : ∀ (n17 : Nat) (x55 : Int) (h56 : zM), (0 ≤ x55 ∧ x55 ≤ 6) → okM h56 → zfr [0, 45] [25] h h56 → (h56.2 0 45 = 0) → (∀ j, 0 ≤ j → j < x55 → h56.2 25 j = 0) → (7 - x55).toNat < n17 → zJ shM l yX11_couple cX11_couple 4 (some .int) (rmL 2) 0 0 (q2_X11_couple h p1 p2) 0 0 17 [some (.inr 0), some (.inl p1), some (.inl p2), some (.inl x55)] [] h56 := by
      intro n17
      induction n17 with
      | zero => intro x55 h56 b78 s57 f58 u79 u80 m81; exact absurd m81 (Nat.not_lt_zero _)
      | succ n17 ih82 =>
        intro x55 h56 b78 s57 f58 u79 u80 m81
        refine zj_iload_n (zdk ttX11_couple 11 rfl rfl) rfl ?_
        refine zj_bipush (zdk ttX11_couple 12 rfl rfl) (by decide) ?_
        refine zj_icmp_ge (t := 36) (zdk ttX11_couple 13 rfl rfl) (by decide) (by omega) (by decide) (fun c83 => ?_) (fun c83 => ?_)
        · refine zj_iconst (zdk ttX11_couple 21 rfl rfl) ?_
          have b84 : -2147483648 ≤ (h56.2 0 45) ∧ (h56.2 0 45) ≤ 2147483647 := fM_45 s57
          exact zj_iret rfl (zdk ttX11_couple 22 rfl rfl) (Nat.le_refl _) (Nat.le_refl _) ⟨0, rfl, by omega, s57, f58, by intro z8 z9; have w9 : zwp ((h.2 0 45) + 1) = (h.2 0 45) + 1 := zwp_id (by omega); unfold zcw; omega, (fun z8 z9 => ⟨fun _ k a b => u80 k a (by omega), fun z => absurd z (by omega), fun z => absurd z (by omega)⟩)⟩
        · refine zj_aload_n (zdk ttX11_couple 14 rfl rfl) rfl (by decide) ?_
          refine zj_getr (r := 25) (zdk ttX11_couple 15 rfl rfl) zf_RX11_86 rfl (k_M s57) (rfM_46 s57) ?_
          refine zj_iload_n (zdk ttX11_couple 16 rfl rfl) rfl ?_
          refine zj_iconst (zdk ttX11_couple 17 rfl rfl) ?_
          refine zj_iast (zdk ttX11_couple 18 rfl rfl) (kaM_25 s57) (by decide) (by omega) (fun h85 e86 => ?_)
          refine zj_iinc (L' := [some (.inr 0), some (.inl p1), some (.inl p2), some (.inl (x55 + 1))]) (zdk ttX11_couple 19 rfl rfl) rfl (by decide) rfl ?_
          refine zj_goto (t := 17) (zdk ttX11_couple 20 rfl rfl) (by decide) ?_
          have b87 : h85.2 0 45 = (h56.2 0 45) := (zwr_r e86 (by omega))
          have b88 : -2147483648 ≤ (h56.2 0 45) ∧ (h56.2 0 45) ≤ 2147483647 := fM_45 s57
          have s89 : okM h85 := awM_25 s57 e86 (by omega) (by unfold nsp; omega)
          have f90 : zfr [0, 45] [25] h h85 := zfr_wa f58 e86 rfl
          exact ih82  (x55 + 1) h85 (by omega) s89 f90 (by omega) (fun j a b => (Classical.em (j = x55)).elim (fun q => by rw [q]; exact zwr_v e86) (fun q => (zwr_r e86 (by omega)).trans (u80 j a (by omega)))) (by omega)
    have b91 : h53.2 0 45 = 0 := (zwr_v e54)
    have s92 : okM h53 := fwM_45 s52 e54 (by omega)
    have f94 : zfr [0, 45] [25] h h1 := zfr_wf (zfr_r _ _ _) e2 rfl
    have f93 : zfr [0, 45] [25] h h53 := zfr_wf f94 e54 rfl
    exact lp77 _ 0 h53 (by omega) s92 f93 (by omega) (fun j a b => absurd b (by omega)) (Nat.lt_succ_self _)

abbrev q2_X11_seat (h : zM) (p1 : Int) : Option zV → zM → Prop := zqi fun v h' => ((-2147483648) ≤ v ∧ v ≤ 2147483647) ∧ okM h' ∧ zfr [0, 49] [28] h h' ∧ (zcw (p1 = -1) (1 ≤ p1 ∧ p1 ≤ 99) 7 (h.2 0 49) v (h'.2 0 49))
set_option maxRecDepth 100000 in
set_option maxHeartbeats 4000000 in
theorem s2_X11_seat (l : Launch) (h : zM) (p1 : Int) (s0 : okM h) (b_p1 : (-2147483648) ≤ p1 ∧ p1 ≤ 2147483647) : zT shM l yX11_seat cX11_seat 2 (some .int) (rmL 2) 0 0 [.inr 0, .inl p1] h (q2_X11_seat h p1) := by
  refine zT_of (by decide +kernel) (L0 := [some (.inr 0), some (.inl p1)]) rfl (Nat.le_of_ble_eq_true rfl) ?_
  refine zj_aload_n (zdk ttX11_seat 0 rfl rfl) rfl (by decide) ?_
  refine zj_iconst (zdk ttX11_seat 1 rfl rfl) ?_
  refine zj_puti (zdk ttX11_seat 2 rfl rfl) zf_RX11_120 rfl (k_M s0) (Or.inl zw_RX11_120) (k2 := 0) rfl (fun h1 e2 => ?_)
  refine zj_iload_n (zdk ttX11_seat 3 rfl rfl) rfl ?_
  refine zj_iconst (zdk ttX11_seat 4 rfl rfl) ?_
  refine zj_icmp_ne (t := 17) (zdk ttX11_seat 5 rfl rfl) (by decide) (by omega) (by decide) (fun c3 => ?_) (fun c3 => ?_)
  · refine zj_aload_n (zdk ttX11_seat 11 rfl rfl) rfl (by decide) ?_
    refine zj_iload_n (zdk ttX11_seat 12 rfl rfl) rfl ?_
    refine zj_iconst (zdk ttX11_seat 13 rfl rfl) ?_
    refine zj_bipush (zdk ttX11_seat 14 rfl rfl) (by decide) ?_
    have s4 : okM h1 := fwM_0 s0 e2 (by omega)
    refine zj_callV (av := [.inl p1, .inl 1, .inl 99]) (st := []) (zdk ttX11_seat 15 rfl rfl) mb_X11_isIn mv_RX11_139 (ci := 11) rfl rfl (k_M s4) rfl rfl (Nat.le_of_ble_eq_true rfl) (s_X11_isIn l h1 p1 1 99 s4 (by omega) (by omega) (by omega)) (rm_ok (by decide) (by decide)) (zq_i fun v6 h7 q5 => ?_)
    obtain ⟨rfl, ⟨rfl, b8⟩ | ⟨rfl, b8⟩⟩ := q5
    · refine zj_if_eq (t := 37) (zdk ttX11_seat 16 rfl rfl) (by decide) (by decide) (fun c9 => ?_) (fun c9 => ?_)
      · refine zj_iconst (zdk ttX11_seat 21 rfl rfl) ?_
        have f10 : zfr [0, 49] [28] h h1 := zfr_wf (zfr_r _ _ _) e2 rfl
        have b11 : h1.2 0 49 = (h.2 0 49) := (zwr_r e2 (by omega))
        have b12 : 0 ≤ (h.2 0 49) ∧ (h.2 0 49) ≤ 7 := fM_49 s0
        exact zj_iret rfl (zdk ttX11_seat 22 rfl rfl) (Nat.le_refl _) (Nat.le_refl _) ⟨(-1), rfl, by omega, s4, f10, by unfold zcw; omega⟩
      · exact absurd c9 (by omega)
    · refine zj_if_eq (t := 37) (zdk ttX11_seat 16 rfl rfl) (by decide) (by decide) (fun c13 => ?_) (fun c13 => ?_)
      · exact absurd c13 (by omega)
      · refine zj_aload_n (zdk ttX11_seat 17 rfl rfl) rfl (by decide) ?_
        have b14 : 0 ≤ (h.2 0 49) ∧ (h.2 0 49) ≤ 7 := fM_49 s0
        refine zj_geti (v := (h.2 0 49)) (zdk ttX11_seat 18 rfl rfl) zf_RX11_425 rfl (k_M s4) (zwr_r e2 (by omega)) ?_
        refine zj_bipush (zdk ttX11_seat 19 rfl rfl) (by decide) ?_
        refine zj_icmp_ne (t := 39) (zdk ttX11_seat 20 rfl rfl) (by decide) (by omega) (by decide) (fun c15 => ?_) (fun c15 => ?_)
        · refine zj_aload_n (zdk ttX11_seat 23 rfl rfl) rfl (by decide) ?_
          refine zj_getr (r := 28) (zdk ttX11_seat 24 rfl rfl) zf_RX11_96 rfl (k_M s4) (rfM_50 s4) ?_
          refine zj_aload_n (zdk ttX11_seat 25 rfl rfl) rfl (by decide) ?_
          refine zj_geti (v := (h.2 0 49)) (zdk ttX11_seat 26 rfl rfl) zf_RX11_425 rfl (k_M s4) (zwr_r e2 (by omega)) ?_
          refine zj_iload_n (zdk ttX11_seat 27 rfl rfl) rfl ?_
          refine zj_iast (zdk ttX11_seat 28 rfl rfl) (kaM_28 s4) (by decide) (by omega) (fun h16 e17 => ?_)
          refine zj_aload_n (zdk ttX11_seat 29 rfl rfl) rfl (by decide) ?_
          refine zj_aload_n (zdk ttX11_seat 30 rfl rfl) rfl (by decide) ?_
          have s18 : okM h16 := awM_28 s4 e17 (by omega) (by unfold nsp; omega)
          refine zj_geti (v := (h.2 0 49)) (zdk ttX11_seat 31 rfl rfl) zf_RX11_425 rfl (k_M s18) ((zwr_r e17 (by omega)).trans (zwr_r e2 (by omega))) ?_
          refine zj_iconst (zdk ttX11_seat 32 rfl rfl) ?_
          refine zj_iadd (zdk ttX11_seat 33 rfl rfl) ?_
          refine zj_puti (zdk ttX11_seat 34 rfl rfl) zf_RX11_425 rfl (k_M s18) (Or.inl zw_RX11_425) (k2 := 49) rfl (fun h19 e20 => ?_)
          refine zj_aload_n (zdk ttX11_seat 35 rfl rfl) rfl (by decide) ?_
          have s21 : okM h19 := fwM_49 s18 e20 (by omega)
          refine zj_geti (v := ((h.2 0 49) + 1)) (zdk ttX11_seat 36 rfl rfl) zf_RX11_425 rfl (k_M s21) (zwr_v e20) ?_
          have f24 : zfr [0, 49] [28] h h1 := zfr_wf (zfr_r _ _ _) e2 rfl
          have f23 : zfr [0, 49] [28] h h16 := zfr_wa f24 e17 rfl
          have f22 : zfr [0, 49] [28] h h19 := zfr_wf f23 e20 rfl
          have b25 : h19.2 0 49 = ((h.2 0 49) + 1) := (zwr_v e20)
          exact zj_iret rfl (zdk ttX11_seat 37 rfl rfl) (Nat.le_refl _) (Nat.le_refl _) ⟨((h.2 0 49) + 1), rfl, by omega, s21, f22, by unfold zcw; omega⟩
        · refine zj_iconst (zdk ttX11_seat 21 rfl rfl) ?_
          have f26 : zfr [0, 49] [28] h h1 := zfr_wf (zfr_r _ _ _) e2 rfl
          have b27 : h1.2 0 49 = (h.2 0 49) := (zwr_r e2 (by omega))
          exact zj_iret rfl (zdk ttX11_seat 22 rfl rfl) (Nat.le_refl _) (Nat.le_refl _) ⟨(-1), rfl, by omega, s4, f26, by unfold zcw; omega⟩
  · refine zj_aload_n (zdk ttX11_seat 6 rfl rfl) rfl (by decide) ?_
    refine zj_iconst (zdk ttX11_seat 7 rfl rfl) ?_
    have s28 : okM h1 := fwM_0 s0 e2 (by omega)
    refine zj_puti (zdk ttX11_seat 8 rfl rfl) zf_RX11_425 rfl (k_M s28) (Or.inl zw_RX11_425) (k2 := 49) rfl (fun h29 e30 => ?_)
    refine zj_iconst (zdk ttX11_seat 9 rfl rfl) ?_
    have s31 : okM h29 := fwM_49 s28 e30 (by omega)
    have f33 : zfr [0, 49] [28] h h1 := zfr_wf (zfr_r _ _ _) e2 rfl
    have f32 : zfr [0, 49] [28] h h29 := zfr_wf f33 e30 rfl
    have b34 : h29.2 0 49 = 0 := (zwr_v e30)
    exact zj_iret rfl (zdk ttX11_seat 10 rfl rfl) (Nat.le_refl _) (Nat.le_refl _) ⟨0, rfl, by omega, s31, f32, by unfold zcw; omega⟩

abbrev q2_X11_arm (h : zM) (p1 : Int) (p2 : Int) : Option zV → zM → Prop := zqi fun v h' => ((-2147483648) ≤ v ∧ v ≤ 2147483647) ∧ okM h' ∧ zfr [0, 53] [31, 32] h h' ∧ (zcw (p1 = -100) ((-9 ≤ p1 ∧ p1 ≤ 9) ∧ ¬ p1 = 0 ∧ (1 ≤ p2 ∧ p2 ≤ 20)) 6 (h.2 0 53) v (h'.2 0 53))
set_option maxRecDepth 100000 in
set_option maxHeartbeats 4000000 in
theorem s2_X11_arm (l : Launch) (h : zM) (p1 : Int) (p2 : Int) (s0 : okM h) (b_p1 : (-2147483648) ≤ p1 ∧ p1 ≤ 2147483647) (b_p2 : (-2147483648) ≤ p2 ∧ p2 ≤ 2147483647) : zT shM l yX11_arm cX11_arm 3 (some .int) (rmL 2) 0 0 [.inr 0, .inl p1, .inl p2] h (q2_X11_arm h p1 p2) := by
  refine zT_of (by decide +kernel) (L0 := [some (.inr 0), some (.inl p1), some (.inl p2)]) rfl (Nat.le_of_ble_eq_true rfl) ?_
  refine zj_aload_n (zdk ttX11_arm 0 rfl rfl) rfl (by decide) ?_
  refine zj_iconst (zdk ttX11_arm 1 rfl rfl) ?_
  refine zj_puti (zdk ttX11_arm 2 rfl rfl) zf_RX11_120 rfl (k_M s0) (Or.inl zw_RX11_120) (k2 := 0) rfl (fun h1 e2 => ?_)
  refine zj_iload_n (zdk ttX11_arm 3 rfl rfl) rfl ?_
  refine zj_bipush (zdk ttX11_arm 4 rfl rfl) (by decide) ?_
  refine zj_icmp_ne (t := 18) (zdk ttX11_arm 5 rfl rfl) (by decide) (by omega) (by decide) (fun c3 => ?_) (fun c3 => ?_)
  · refine zj_aload_n (zdk ttX11_arm 11 rfl rfl) rfl (by decide) ?_
    refine zj_iload_n (zdk ttX11_arm 12 rfl rfl) rfl ?_
    refine zj_bipush (zdk ttX11_arm 13 rfl rfl) (by decide) ?_
    refine zj_bipush (zdk ttX11_arm 14 rfl rfl) (by decide) ?_
    have s4 : okM h1 := fwM_0 s0 e2 (by omega)
    refine zj_callV (av := [.inl p1, .inl (-9), .inl 9]) (st := []) (zdk ttX11_arm 15 rfl rfl) mb_X11_isIn mv_RX11_139 (ci := 11) rfl rfl (k_M s4) rfl rfl (Nat.le_of_ble_eq_true rfl) (s_X11_isIn l h1 p1 (-9) 9 s4 (by omega) (by omega) (by omega)) (rm_ok (by decide) (by decide)) (zq_i fun v6 h7 q5 => ?_)
    obtain ⟨rfl, ⟨rfl, b8⟩ | ⟨rfl, b8⟩⟩ := q5
    · refine zj_if_eq (t := 54) (zdk ttX11_arm 16 rfl rfl) (by decide) (by decide) (fun c9 => ?_) (fun c9 => ?_)
      · refine zj_iconst (zdk ttX11_arm 29 rfl rfl) ?_
        have f10 : zfr [0, 53] [31, 32] h h1 := zfr_wf (zfr_r _ _ _) e2 rfl
        have b11 : h1.2 0 53 = (h.2 0 53) := (zwr_r e2 (by omega))
        have b12 : 0 ≤ (h.2 0 53) ∧ (h.2 0 53) ≤ 6 := fM_53 s0
        exact zj_iret rfl (zdk ttX11_arm 30 rfl rfl) (Nat.le_refl _) (Nat.le_refl _) ⟨(-1), rfl, by omega, s4, f10, by unfold zcw; omega⟩
      · exact absurd c9 (by omega)
    · refine zj_if_eq (t := 54) (zdk ttX11_arm 16 rfl rfl) (by decide) (by decide) (fun c13 => ?_) (fun c13 => ?_)
      · exact absurd c13 (by omega)
      · refine zj_iload_n (zdk ttX11_arm 17 rfl rfl) rfl ?_
        refine zj_if_eq (t := 54) (zdk ttX11_arm 18 rfl rfl) (by decide) (by omega) (fun c14 => ?_) (fun c14 => ?_)
        · refine zj_iconst (zdk ttX11_arm 29 rfl rfl) ?_
          have f15 : zfr [0, 53] [31, 32] h h1 := zfr_wf (zfr_r _ _ _) e2 rfl
          have b16 : h1.2 0 53 = (h.2 0 53) := (zwr_r e2 (by omega))
          have b17 : 0 ≤ (h.2 0 53) ∧ (h.2 0 53) ≤ 6 := fM_53 s0
          exact zj_iret rfl (zdk ttX11_arm 30 rfl rfl) (Nat.le_refl _) (Nat.le_refl _) ⟨(-1), rfl, by omega, s4, f15, by unfold zcw; omega⟩
        · refine zj_aload_n (zdk ttX11_arm 19 rfl rfl) rfl (by decide) ?_
          refine zj_iload_n (zdk ttX11_arm 20 rfl rfl) rfl ?_
          refine zj_iconst (zdk ttX11_arm 21 rfl rfl) ?_
          refine zj_bipush (zdk ttX11_arm 22 rfl rfl) (by decide) ?_
          refine zj_callV (av := [.inl p2, .inl 1, .inl 20]) (st := []) (zdk ttX11_arm 23 rfl rfl) mb_X11_isIn mv_RX11_139 (ci := 11) rfl rfl (k_M s4) rfl rfl (Nat.le_of_ble_eq_true rfl) (s_X11_isIn l h1 p2 1 20 s4 (by omega) (by omega) (by omega)) (rm_ok (by decide) (by decide)) (zq_i fun v19 h20 q18 => ?_)
          obtain ⟨rfl, ⟨rfl, b21⟩ | ⟨rfl, b21⟩⟩ := q18
          · refine zj_if_eq (t := 54) (zdk ttX11_arm 24 rfl rfl) (by decide) (by decide) (fun c22 => ?_) (fun c22 => ?_)
            · refine zj_iconst (zdk ttX11_arm 29 rfl rfl) ?_
              have f23 : zfr [0, 53] [31, 32] h h1 := zfr_wf (zfr_r _ _ _) e2 rfl
              have b24 : h1.2 0 53 = (h.2 0 53) := (zwr_r e2 (by omega))
              have b25 : 0 ≤ (h.2 0 53) ∧ (h.2 0 53) ≤ 6 := fM_53 s0
              exact zj_iret rfl (zdk ttX11_arm 30 rfl rfl) (Nat.le_refl _) (Nat.le_refl _) ⟨(-1), rfl, by omega, s4, f23, by unfold zcw; omega⟩
            · exact absurd c22 (by omega)
          · refine zj_if_eq (t := 54) (zdk ttX11_arm 24 rfl rfl) (by decide) (by decide) (fun c26 => ?_) (fun c26 => ?_)
            · exact absurd c26 (by omega)
            · refine zj_aload_n (zdk ttX11_arm 25 rfl rfl) rfl (by decide) ?_
              have b27 : 0 ≤ (h.2 0 53) ∧ (h.2 0 53) ≤ 6 := fM_53 s0
              refine zj_geti (v := (h.2 0 53)) (zdk ttX11_arm 26 rfl rfl) zf_RX11_445 rfl (k_M s4) (zwr_r e2 (by omega)) ?_
              refine zj_bipush (zdk ttX11_arm 27 rfl rfl) (by decide) ?_
              refine zj_icmp_ne (t := 56) (zdk ttX11_arm 28 rfl rfl) (by decide) (by omega) (by decide) (fun c28 => ?_) (fun c28 => ?_)
              · refine zj_aload_n (zdk ttX11_arm 31 rfl rfl) rfl (by decide) ?_
                refine zj_getr (r := 31) (zdk ttX11_arm 32 rfl rfl) zf_RX11_105 rfl (k_M s4) (rfM_54 s4) ?_
                refine zj_aload_n (zdk ttX11_arm 33 rfl rfl) rfl (by decide) ?_
                refine zj_geti (v := (h.2 0 53)) (zdk ttX11_arm 34 rfl rfl) zf_RX11_445 rfl (k_M s4) (zwr_r e2 (by omega)) ?_
                refine zj_iload_n (zdk ttX11_arm 35 rfl rfl) rfl ?_
                refine zj_iast (zdk ttX11_arm 36 rfl rfl) (kaM_31 s4) (by decide) (by omega) (fun h29 e30 => ?_)
                refine zj_aload_n (zdk ttX11_arm 37 rfl rfl) rfl (by decide) ?_
                have s31 : okM h29 := awM_31 s4 e30 (by omega) (by unfold nsp; omega)
                refine zj_getr (r := 32) (zdk ttX11_arm 38 rfl rfl) zf_RX11_108 rfl (k_M s31) (rfM_55 s31) ?_
                refine zj_aload_n (zdk ttX11_arm 39 rfl rfl) rfl (by decide) ?_
                refine zj_geti (v := (h.2 0 53)) (zdk ttX11_arm 40 rfl rfl) zf_RX11_445 rfl (k_M s31) ((zwr_r e30 (by omega)).trans (zwr_r e2 (by omega))) ?_
                refine zj_iload_n (zdk ttX11_arm 41 rfl rfl) rfl ?_
                refine zj_iast (zdk ttX11_arm 42 rfl rfl) (kaM_32 s31) (by decide) (by omega) (fun h32 e33 => ?_)
                refine zj_aload_n (zdk ttX11_arm 43 rfl rfl) rfl (by decide) ?_
                refine zj_aload_n (zdk ttX11_arm 44 rfl rfl) rfl (by decide) ?_
                have s34 : okM h32 := awM_32 s31 e33 (by omega) (by unfold nsp; omega)
                refine zj_geti (v := (h.2 0 53)) (zdk ttX11_arm 45 rfl rfl) zf_RX11_445 rfl (k_M s34) (((zwr_r e33 (by omega)).trans (zwr_r e30 (by omega))).trans (zwr_r e2 (by omega))) ?_
                refine zj_iconst (zdk ttX11_arm 46 rfl rfl) ?_
                refine zj_iadd (zdk ttX11_arm 47 rfl rfl) ?_
                refine zj_puti (zdk ttX11_arm 48 rfl rfl) zf_RX11_445 rfl (k_M s34) (Or.inl zw_RX11_445) (k2 := 53) rfl (fun h35 e36 => ?_)
                refine zj_aload_n (zdk ttX11_arm 49 rfl rfl) rfl (by decide) ?_
                have s37 : okM h35 := fwM_53 s34 e36 (by omega)
                refine zj_geti (v := ((h.2 0 53) + 1)) (zdk ttX11_arm 50 rfl rfl) zf_RX11_445 rfl (k_M s37) (zwr_v e36) ?_
                have f41 : zfr [0, 53] [31, 32] h h1 := zfr_wf (zfr_r _ _ _) e2 rfl
                have f40 : zfr [0, 53] [31, 32] h h29 := zfr_wa f41 e30 rfl
                have f39 : zfr [0, 53] [31, 32] h h32 := zfr_wa f40 e33 rfl
                have f38 : zfr [0, 53] [31, 32] h h35 := zfr_wf f39 e36 rfl
                have b42 : h35.2 0 53 = ((h.2 0 53) + 1) := (zwr_v e36)
                exact zj_iret rfl (zdk ttX11_arm 51 rfl rfl) (Nat.le_refl _) (Nat.le_refl _) ⟨((h.2 0 53) + 1), rfl, by omega, s37, f38, by unfold zcw; omega⟩
              · refine zj_iconst (zdk ttX11_arm 29 rfl rfl) ?_
                have f43 : zfr [0, 53] [31, 32] h h1 := zfr_wf (zfr_r _ _ _) e2 rfl
                have b44 : h1.2 0 53 = (h.2 0 53) := (zwr_r e2 (by omega))
                exact zj_iret rfl (zdk ttX11_arm 30 rfl rfl) (Nat.le_refl _) (Nat.le_refl _) ⟨(-1), rfl, by omega, s4, f43, by unfold zcw; omega⟩
  · refine zj_aload_n (zdk ttX11_arm 6 rfl rfl) rfl (by decide) ?_
    refine zj_iconst (zdk ttX11_arm 7 rfl rfl) ?_
    have s45 : okM h1 := fwM_0 s0 e2 (by omega)
    refine zj_puti (zdk ttX11_arm 8 rfl rfl) zf_RX11_445 rfl (k_M s45) (Or.inl zw_RX11_445) (k2 := 53) rfl (fun h46 e47 => ?_)
    refine zj_iconst (zdk ttX11_arm 9 rfl rfl) ?_
    have s48 : okM h46 := fwM_53 s45 e47 (by omega)
    have f50 : zfr [0, 53] [31, 32] h h1 := zfr_wf (zfr_r _ _ _) e2 rfl
    have f49 : zfr [0, 53] [31, 32] h h46 := zfr_wf f50 e47 rfl
    have b51 : h46.2 0 53 = 0 := (zwr_v e47)
    exact zj_iret rfl (zdk ttX11_arm 10 rfl rfl) (Nat.le_refl _) (Nat.le_refl _) ⟨0, rfl, by omega, s48, f49, by unfold zcw; omega⟩

abbrev q2_X11_feed (h : zM) (p1 : Int) (p2 : Int) (p3 : Int) (p4 : Int) (p5 : Int) : Option zV → zM → Prop := zqi fun v h' => ((-2147483648) ≤ v ∧ v ≤ 2147483647) ∧ okM h' ∧ zfr [0, 11] [7] h h' ∧ (zfd (h.2 0 11) v (h'.2 0 11))
set_option maxRecDepth 100000 in
set_option maxHeartbeats 4000000 in
theorem s2_X11_feed (l : Launch) (h : zM) (p1 : Int) (p2 : Int) (p3 : Int) (p4 : Int) (p5 : Int) (s0 : okM h) (b_p1 : (-2147483648) ≤ p1 ∧ p1 ≤ 2147483647) (b_p2 : (-2147483648) ≤ p2 ∧ p2 ≤ 2147483647) (b_p3 : (-2147483648) ≤ p3 ∧ p3 ≤ 2147483647) (b_p4 : (-2147483648) ≤ p4 ∧ p4 ≤ 2147483647) (b_p5 : (-2147483648) ≤ p5 ∧ p5 ≤ 2147483647) : zT shM l yX11_feed cX11_feed 6 (some .int) (rmL 2) 0 0 [.inr 0, .inl p1, .inl p2, .inl p3, .inl p4, .inl p5] h (q2_X11_feed h p1 p2 p3 p4 p5) := by
  refine zT_of (by decide +kernel) (L0 := [some (.inr 0), some (.inl p1), some (.inl p2), some (.inl p3), some (.inl p4), some (.inl p5)]) rfl (Nat.le_of_ble_eq_true rfl) ?_
  refine zj_aload_n (zdk ttX11_feed 0 rfl rfl) rfl (by decide) ?_
  refine zj_iconst (zdk ttX11_feed 1 rfl rfl) ?_
  refine zj_puti (zdk ttX11_feed 2 rfl rfl) zf_RX11_120 rfl (k_M s0) (Or.inl zw_RX11_120) (k2 := 0) rfl (fun h1 e2 => ?_)
  refine zj_aload_n (zdk ttX11_feed 3 rfl rfl) rfl (by decide) ?_
  have b3 : 0 ≤ (h.2 0 11) ∧ (h.2 0 11) ≤ 400 := fM_11 s0
  have s4 : okM h1 := fwM_0 s0 e2 (by omega)
  refine zj_geti (v := (h.2 0 11)) (zdk ttX11_feed 4 rfl rfl) zf_RX11_149 rfl (k_M s4) (zwr_r e2 (by omega)) ?_
  refine zj_sipush (zdk ttX11_feed 5 rfl rfl) (by decide) ?_
  refine zj_icmp_le (t := 17) (zdk ttX11_feed 6 rfl rfl) (by decide) (by omega) (by decide) (fun c5 => ?_) (fun c5 => ?_)
  · refine zj_aload_n (zdk ttX11_feed 9 rfl rfl) rfl (by decide) ?_
    refine zj_iload_n (zdk ttX11_feed 10 rfl rfl) rfl ?_
    have b6 : h1.2 0 11 = (h.2 0 11) := (zwr_r e2 (by omega))
    refine zj_callV (av := [.inl p1]) (st := []) (zdk ttX11_feed 11 rfl rfl) mb_X11_types mv_RX11_152 (ci := 11) rfl rfl (k_M s4) rfl rfl (Nat.le_of_ble_eq_true rfl) (s_X11_types l h1 p1 s4 (by omega) (by omega)) (rm_ok (by decide) (by decide)) (zq_v fun h9 q7 => ?_)
    obtain ⟨s11, f13, u12⟩ := q7
    refine zj_aload_n (zdk ttX11_feed 12 rfl rfl) rfl (by decide) ?_
    refine zj_iload_n (zdk ttX11_feed 13 rfl rfl) rfl ?_
    have b14 : 0 ≤ (h9.2 0 11) ∧ (h9.2 0 11) ≤ 400 := fM_11 s11
    refine zj_callV (av := [.inl p2]) (st := []) (zdk ttX11_feed 14 rfl rfl) mb_X11_types mv_RX11_152 (ci := 11) rfl rfl (k_M s11) rfl rfl (Nat.le_of_ble_eq_true rfl) (s_X11_types l h9 p2 s11 (by omega) (by omega)) (rm_ok (by decide) (by decide)) (zq_v fun h17 q15 => ?_)
    obtain ⟨s19, f21, u20⟩ := q15
    refine zj_aload_n (zdk ttX11_feed 15 rfl rfl) rfl (by decide) ?_
    refine zj_iload_n (zdk ttX11_feed 16 rfl rfl) rfl ?_
    have b22 : 0 ≤ (h17.2 0 11) ∧ (h17.2 0 11) ≤ 400 := fM_11 s19
    refine zj_callV (av := [.inl p3]) (st := []) (zdk ttX11_feed 17 rfl rfl) mb_X11_types mv_RX11_152 (ci := 11) rfl rfl (k_M s19) rfl rfl (Nat.le_of_ble_eq_true rfl) (s_X11_types l h17 p3 s19 (by omega) (by omega)) (rm_ok (by decide) (by decide)) (zq_v fun h25 q23 => ?_)
    obtain ⟨s27, f29, u28⟩ := q23
    refine zj_aload_n (zdk ttX11_feed 18 rfl rfl) rfl (by decide) ?_
    refine zj_iload (zdk ttX11_feed 19 rfl rfl) rfl ?_
    have b30 : 0 ≤ (h25.2 0 11) ∧ (h25.2 0 11) ≤ 400 := fM_11 s27
    refine zj_callV (av := [.inl p4]) (st := []) (zdk ttX11_feed 20 rfl rfl) mb_X11_types mv_RX11_152 (ci := 11) rfl rfl (k_M s27) rfl rfl (Nat.le_of_ble_eq_true rfl) (s_X11_types l h25 p4 s27 (by omega) (by omega)) (rm_ok (by decide) (by decide)) (zq_v fun h33 q31 => ?_)
    obtain ⟨s35, f37, u36⟩ := q31
    refine zj_aload_n (zdk ttX11_feed 21 rfl rfl) rfl (by decide) ?_
    refine zj_iload (zdk ttX11_feed 22 rfl rfl) rfl ?_
    have b38 : 0 ≤ (h33.2 0 11) ∧ (h33.2 0 11) ≤ 400 := fM_11 s35
    refine zj_callV (av := [.inl p5]) (st := []) (zdk ttX11_feed 23 rfl rfl) mb_X11_types mv_RX11_152 (ci := 11) rfl rfl (k_M s35) rfl rfl (Nat.le_of_ble_eq_true rfl) (s_X11_types l h33 p5 s35 (by omega) (by omega)) (rm_ok (by decide) (by decide)) (zq_v fun h41 q39 => ?_)
    obtain ⟨s43, f45, u44⟩ := q39
    refine zj_aload_n (zdk ttX11_feed 24 rfl rfl) rfl (by decide) ?_
    have b46 : 0 ≤ (h41.2 0 11) ∧ (h41.2 0 11) ≤ 400 := fM_11 s43
    refine zj_geti (v := (h41.2 0 11)) (zdk ttX11_feed 25 rfl rfl) zf_RX11_149 rfl (k_M s43) rfl ?_
    have f52 : zfr [0, 11] [7] h h1 := zfr_wf (zfr_r _ _ _) e2 rfl
    have f51 : zfr [0, 11] [7] h h9 := zfr_t f52 f13 rfl rfl
    have f50 : zfr [0, 11] [7] h h17 := zfr_t f51 f21 rfl rfl
    have f49 : zfr [0, 11] [7] h h25 := zfr_t f50 f29 rfl rfl
    have f48 : zfr [0, 11] [7] h h33 := zfr_t f49 f37 rfl rfl
    have f47 : zfr [0, 11] [7] h h41 := zfr_t f48 f45 rfl rfl
    exact zj_iret rfl (zdk ttX11_feed 26 rfl rfl) (Nat.le_refl _) (Nat.le_refl _) ⟨(h41.2 0 11), rfl, by omega, s43, f47, by unfold zfd; omega⟩
  · refine zj_iconst (zdk ttX11_feed 7 rfl rfl) ?_
    have f53 : zfr [0, 11] [7] h h1 := zfr_wf (zfr_r _ _ _) e2 rfl
    have b54 : h1.2 0 11 = (h.2 0 11) := (zwr_r e2 (by omega))
    exact zj_iret rfl (zdk ttX11_feed 8 rfl rfl) (Nat.le_refl _) (Nat.le_refl _) ⟨(-1), rfl, by omega, s4, f53, by unfold zfd; omega⟩

abbrev q2_X11_end (h : zM) (p1 : Int) : Option zV → zM → Prop := zqi fun v h' => (0 ≤ v ∧ v ≤ 1) ∧ okM h' ∧ zfr [0, 11] [] h h' ∧ (zen p1 (h.2 0 11) v (h'.2 0 11))
set_option maxRecDepth 100000 in
set_option maxHeartbeats 4000000 in
theorem s2_X11_end (l : Launch) (h : zM) (p1 : Int) (s0 : okM h) (b_p1 : (-2147483648) ≤ p1 ∧ p1 ≤ 2147483647) : zT shM l yX11_end cX11_end 2 (some .boolean) (rmL 2) 0 0 [.inr 0, .inl p1] h (q2_X11_end h p1) := by
  refine zT_of (by decide +kernel) (L0 := [some (.inr 0), some (.inl p1)]) rfl (Nat.le_of_ble_eq_true rfl) ?_
  refine zj_aload_n (zdk ttX11_end 0 rfl rfl) rfl (by decide) ?_
  refine zj_iconst (zdk ttX11_end 1 rfl rfl) ?_
  refine zj_puti (zdk ttX11_end 2 rfl rfl) zf_RX11_120 rfl (k_M s0) (Or.inl zw_RX11_120) (k2 := 0) rfl (fun h1 e2 => ?_)
  refine zj_aload_n (zdk ttX11_end 3 rfl rfl) rfl (by decide) ?_
  refine zj_iload_n (zdk ttX11_end 4 rfl rfl) rfl ?_
  refine zj_iconst (zdk ttX11_end 5 rfl rfl) ?_
  refine zj_aload_n (zdk ttX11_end 6 rfl rfl) rfl (by decide) ?_
  have b3 : 0 ≤ (h.2 0 11) ∧ (h.2 0 11) ≤ 400 := fM_11 s0
  have s4 : okM h1 := fwM_0 s0 e2 (by omega)
  refine zj_geti (v := (h.2 0 11)) (zdk ttX11_end 7 rfl rfl) zf_RX11_149 rfl (k_M s4) (zwr_r e2 (by omega)) ?_
  refine zj_callV (av := [.inl p1, .inl 0, .inl (h.2 0 11)]) (st := []) (zdk ttX11_end 8 rfl rfl) mb_X11_isIn mv_RX11_139 (ci := 11) rfl rfl (k_M s4) rfl rfl (Nat.le_of_ble_eq_true rfl) (s_X11_isIn l h1 p1 0 (h.2 0 11) s4 (by omega) (by omega) (by omega)) (rm_ok (by decide) (by decide)) (zq_i fun v6 h7 q5 => ?_)
  obtain ⟨rfl, ⟨rfl, b8⟩ | ⟨rfl, b8⟩⟩ := q5
  · refine zj_if_ne (t := 20) (zdk ttX11_end 9 rfl rfl) (by decide) (by decide) (fun c9 => ?_) (fun c9 => ?_)
    · exact absurd c9 (by omega)
    · refine zj_iconst (zdk ttX11_end 10 rfl rfl) ?_
      have f10 : zfr [0, 11] [] h h1 := zfr_wf (zfr_r _ _ _) e2 rfl
      have b11 : h1.2 0 11 = (h.2 0 11) := (zwr_r e2 (by omega))
      exact zj_zret rfl (zdk ttX11_end 11 rfl rfl) (Nat.le_refl _) (Nat.le_refl _) (by omega) ⟨0, rfl, by omega, s4, f10, by unfold zen; omega⟩
  · refine zj_if_ne (t := 20) (zdk ttX11_end 9 rfl rfl) (by decide) (by decide) (fun c12 => ?_) (fun c12 => ?_)
    · refine zj_aload_n (zdk ttX11_end 12 rfl rfl) rfl (by decide) ?_
      refine zj_iload_n (zdk ttX11_end 13 rfl rfl) rfl ?_
      refine zj_puti (zdk ttX11_end 14 rfl rfl) zf_RX11_149 rfl (k_M s4) (Or.inl zw_RX11_149) (k2 := 11) rfl (fun h13 e14 => ?_)
      refine zj_iconst (zdk ttX11_end 15 rfl rfl) ?_
      have s15 : okM h13 := fwM_11 s4 e14 (by omega)
      have f17 : zfr [0, 11] [] h h1 := zfr_wf (zfr_r _ _ _) e2 rfl
      have f16 : zfr [0, 11] [] h h13 := zfr_wf f17 e14 rfl
      have b18 : h13.2 0 11 = p1 := (zwr_v e14)
      exact zj_zret rfl (zdk ttX11_end 16 rfl rfl) (Nat.le_refl _) (Nat.le_refl _) (by omega) ⟨1, rfl, by omega, s15, f16, by unfold zen; omega⟩
    · exact absurd c12 (by omega)

abbrev q2_X11_text (h : zM) (p1 : Int) : Option zV → zM → Prop := zqi fun v h' => ((-2147483648) ≤ v ∧ v ≤ 2147483647) ∧ okM h' ∧ zfr [0, 3, 11, 12, 13, 14, 15, 24, 25, 26, 28, 29, 30, 31, 32, 33, 35, 37] [9, 10, 11, 12, 13, 14, 15, 16, 17, 18, 19] h h' ∧ (h'.2 0 11 = 0)
set_option maxRecDepth 100000 in
set_option maxHeartbeats 4000000 in
theorem s2_X11_text (l : Launch) (h : zM) (p1 : Int) (s0 : okM h) (b_p1 : (-2147483648) ≤ p1 ∧ p1 ≤ 2147483647) : zT shM l yX11_text cX11_text 3 (some .int) (rmL 11) 0 0 [.inr 0, .inl p1] h (q2_X11_text h p1) := by
  refine zT_of (by decide +kernel) (L0 := [some (.inr 0), some (.inl p1), none]) rfl (Nat.le_of_ble_eq_true rfl) ?_
  refine zj_aload_n (zdk ttX11_text 0 rfl rfl) rfl (by decide) ?_
  refine zj_iconst (zdk ttX11_text 1 rfl rfl) ?_
  refine zj_puti (zdk ttX11_text 2 rfl rfl) zf_RX11_120 rfl (k_M s0) (Or.inl zw_RX11_120) (k2 := 0) rfl (fun h1 e2 => ?_)
  refine zj_aload_n (zdk ttX11_text 3 rfl rfl) rfl (by decide) ?_
  refine zj_iconst (zdk ttX11_text 4 rfl rfl) ?_
  have s3 : okM h1 := fwM_0 s0 e2 (by omega)
  refine zj_puti (zdk ttX11_text 5 rfl rfl) zf_RX11_291 rfl (k_M s3) (Or.inl zw_RX11_291) (k2 := 31) rfl (fun h4 e5 => ?_)
  refine zj_aload_n (zdk ttX11_text 6 rfl rfl) rfl (by decide) ?_
  refine zj_iconst (zdk ttX11_text 7 rfl rfl) ?_
  have s6 : okM h4 := fwM_31 s3 e5 (by omega)
  refine zj_puti (zdk ttX11_text 8 rfl rfl) zf_RX11_58 rfl (k_M s6) (Or.inl zw_RX11_58) (k2 := 32) rfl (fun h7 e8 => ?_)
  refine zj_aload_n (zdk ttX11_text 9 rfl rfl) rfl (by decide) ?_
  refine zj_iconst (zdk ttX11_text 10 rfl rfl) ?_
  have s9 : okM h7 := fwM_32 s6 e8 (by omega)
  refine zj_puti (zdk ttX11_text 11 rfl rfl) zf_RX11_156 rfl (k_M s9) (Or.inl zw_RX11_156) (k2 := 12) rfl (fun h10 e11 => ?_)
  refine zj_aload_n (zdk ttX11_text 12 rfl rfl) rfl (by decide) ?_
  refine zj_iconst (zdk ttX11_text 13 rfl rfl) ?_
  have s12 : okM h10 := fwM_12 s9 e11 (by omega)
  refine zj_puti (zdk ttX11_text 14 rfl rfl) zf_RX11_191 rfl (k_M s12) (Or.inl zw_RX11_191) (k2 := 25) rfl (fun h13 e14 => ?_)
  refine zj_aload_n (zdk ttX11_text 15 rfl rfl) rfl (by decide) ?_
  refine zj_iconst (zdk ttX11_text 16 rfl rfl) ?_
  have s15 : okM h13 := fwM_25 s12 e14 (by omega)
  refine zj_puti (zdk ttX11_text 17 rfl rfl) zf_RX11_223 rfl (k_M s15) (Or.inl zw_RX11_223) (k2 := 26) rfl (fun h16 e17 => ?_)
  refine zj_iconst (zdk ttX11_text 18 rfl rfl) ?_
  refine zj_istore_n (L' := [some (.inr 0), some (.inl p1), some (.inl (-1))]) (zdk ttX11_text 19 rfl rfl) (by decide) rfl ?_
  refine zj_aload_n (zdk ttX11_text 20 rfl rfl) rfl (by decide) ?_
  refine zj_iload_n (zdk ttX11_text 21 rfl rfl) rfl ?_
  refine zj_iconst (zdk ttX11_text 22 rfl rfl) ?_
  refine zj_iconst (zdk ttX11_text 23 rfl rfl) ?_
  have s18 : okM h16 := fwM_26 s15 e17 (by omega)
  refine zj_callV (av := [.inl p1, .inl 0, .inl 3]) (st := []) (zdk ttX11_text 24 rfl rfl) mb_X11_isIn mv_RX11_139 (ci := 11) rfl rfl (k_M s18) rfl rfl (Nat.le_of_ble_eq_true rfl) (s_X11_isIn l h16 p1 0 3 s18 (by omega) (by omega) (by omega)) (rm_ok (by decide) (by decide)) (zq_i fun v20 h21 q19 => ?_)
  obtain ⟨rfl, ⟨rfl, b22⟩ | ⟨rfl, b22⟩⟩ := q19
  · refine zj_if_eq (t := 69) (zdk ttX11_text 25 rfl rfl) (by decide) (by decide) (fun c23 => ?_) (fun c23 => ?_)
    · refine zj_aload_n (zdk ttX11_text 41 rfl rfl) rfl (by decide) ?_
      refine zj_iconst (zdk ttX11_text 42 rfl rfl) ?_
      refine zj_puti (zdk ttX11_text 43 rfl rfl) zf_RX11_149 rfl (k_M s18) (Or.inl zw_RX11_149) (k2 := 11) rfl (fun h24 e25 => ?_)
      refine zj_iload_n (zdk ttX11_text 44 rfl rfl) rfl ?_
      refine zj_iconst (zdk ttX11_text 45 rfl rfl) ?_
      refine zj_icmp_ne (t := 81) (zdk ttX11_text 46 rfl rfl) (by decide) (by decide) (by decide) (fun c26 => ?_) (fun c26 => ?_)
      · exact absurd c26 (by omega)
      · refine zj_iconst (zdk ttX11_text 47 rfl rfl) ?_
        have s27 : okM h24 := fwM_11 s18 e25 (by omega)
        have f34 : zfr [0, 3, 11, 12, 13, 14, 15, 24, 25, 26, 28, 29, 30, 31, 32, 33, 35, 37] [9, 10, 11, 12, 13, 14, 15, 16, 17, 18, 19] h h1 := zfr_wf (zfr_r _ _ _) e2 rfl
        have f33 : zfr [0, 3, 11, 12, 13, 14, 15, 24, 25, 26, 28, 29, 30, 31, 32, 33, 35, 37] [9, 10, 11, 12, 13, 14, 15, 16, 17, 18, 19] h h4 := zfr_wf f34 e5 rfl
        have f32 : zfr [0, 3, 11, 12, 13, 14, 15, 24, 25, 26, 28, 29, 30, 31, 32, 33, 35, 37] [9, 10, 11, 12, 13, 14, 15, 16, 17, 18, 19] h h7 := zfr_wf f33 e8 rfl
        have f31 : zfr [0, 3, 11, 12, 13, 14, 15, 24, 25, 26, 28, 29, 30, 31, 32, 33, 35, 37] [9, 10, 11, 12, 13, 14, 15, 16, 17, 18, 19] h h10 := zfr_wf f32 e11 rfl
        have f30 : zfr [0, 3, 11, 12, 13, 14, 15, 24, 25, 26, 28, 29, 30, 31, 32, 33, 35, 37] [9, 10, 11, 12, 13, 14, 15, 16, 17, 18, 19] h h13 := zfr_wf f31 e14 rfl
        have f29 : zfr [0, 3, 11, 12, 13, 14, 15, 24, 25, 26, 28, 29, 30, 31, 32, 33, 35, 37] [9, 10, 11, 12, 13, 14, 15, 16, 17, 18, 19] h h16 := zfr_wf f30 e17 rfl
        have f28 : zfr [0, 3, 11, 12, 13, 14, 15, 24, 25, 26, 28, 29, 30, 31, 32, 33, 35, 37] [9, 10, 11, 12, 13, 14, 15, 16, 17, 18, 19] h h24 := zfr_wf f29 e25 rfl
        have b35 : h24.2 0 11 = 0 := (zwr_v e25)
        exact zj_iret rfl (zdk ttX11_text 48 rfl rfl) (Nat.le_refl _) (Nat.le_refl _) ⟨(-1), rfl, by omega, s27, f28, by omega⟩
    · exact absurd c23 (by omega)
  · refine zj_if_eq (t := 69) (zdk ttX11_text 25 rfl rfl) (by decide) (by decide) (fun c36 => ?_) (fun c36 => ?_)
    · exact absurd c36 (by omega)
    · refine zj_aload_n (zdk ttX11_text 26 rfl rfl) rfl (by decide) ?_
      refine zj_iload_n (zdk ttX11_text 27 rfl rfl) rfl ?_
      have b37 : h16.2 0 25 = 0 := ((zwr_r e17 (by omega)).trans (zwr_v e14))
      refine zj_callV (av := [.inl p1]) (st := []) (zdk ttX11_text 28 rfl rfl) mb_X11_readsText mv_RX11_294 (ci := 11) rfl rfl (k_M s18) rfl rfl (Nat.le_of_ble_eq_true rfl) (s_X11_readsText l h16 p1 s18 (by omega) (by omega)) (rm_ok (by decide) (by decide)) (zq_i fun v39 h40 q38 => ?_)
      obtain ⟨b41, s42, f45, u43, u44⟩ := q38
      refine zj_istore_n (L' := [some (.inr 0), some (.inl p1), some (.inl v39)]) (zdk ttX11_text 29 rfl rfl) (by decide) rfl ?_
      refine zj_iload_n (zdk ttX11_text 30 rfl rfl) rfl ?_
      refine zj_iconst (zdk ttX11_text 31 rfl rfl) ?_
      refine zj_icmp_ne (t := 69) (zdk ttX11_text 32 rfl rfl) (by decide) (by omega) (by decide) (fun c46 => ?_) (fun c46 => ?_)
      · refine zj_aload_n (zdk ttX11_text 41 rfl rfl) rfl (by decide) ?_
        refine zj_iconst (zdk ttX11_text 42 rfl rfl) ?_
        refine zj_puti (zdk ttX11_text 43 rfl rfl) zf_RX11_149 rfl (k_M s42) (Or.inl zw_RX11_149) (k2 := 11) rfl (fun h47 e48 => ?_)
        refine zj_iload_n (zdk ttX11_text 44 rfl rfl) rfl ?_
        refine zj_iconst (zdk ttX11_text 45 rfl rfl) ?_
        refine zj_icmp_ne (t := 81) (zdk ttX11_text 46 rfl rfl) (by decide) (by omega) (by decide) (fun c49 => ?_) (fun c49 => ?_)
        · refine zj_iload_n (zdk ttX11_text 49 rfl rfl) rfl ?_
          refine zj_if_ne (t := 93) (zdk ttX11_text 50 rfl rfl) (by decide) (by omega) (fun c50 => ?_) (fun c50 => ?_)
          · refine zj_aload_n (zdk ttX11_text 55 rfl rfl) rfl (by decide) ?_
            refine zj_iload_n (zdk ttX11_text 56 rfl rfl) rfl ?_
            refine zj_iload_n (zdk ttX11_text 57 rfl rfl) rfl ?_
            have s51 : okM h47 := fwM_11 s42 e48 (by omega)
            refine zj_callV (av := [.inl p1, .inl v39]) (st := []) (zdk ttX11_text 58 rfl rfl) mb_X11_takesOther mv_RX11_300 (ci := 11) rfl rfl (k_M s51) rfl rfl (Nat.le_of_ble_eq_true rfl) (s_X11_takesOther l h47 p1 v39 s51 (by omega) (by omega) (fun q j j1 j2 => by rw [zwr_r e48 (by omega), zwr_r e48 (by omega)]; exact u44 q j j1 j2)) (rm_ok (by decide) (by decide)) (zq_v fun h54 q52 => ?_)
            obtain ⟨s56, f57⟩ := q52
            refine zj_iload_n (zdk ttX11_text 59 rfl rfl) rfl ?_
            have f66 : zfr [0, 3, 11, 12, 13, 14, 15, 24, 25, 26, 28, 29, 30, 31, 32, 33, 35, 37] [9, 10, 11, 12, 13, 14, 15, 16, 17, 18, 19] h h1 := zfr_wf (zfr_r _ _ _) e2 rfl
            have f65 : zfr [0, 3, 11, 12, 13, 14, 15, 24, 25, 26, 28, 29, 30, 31, 32, 33, 35, 37] [9, 10, 11, 12, 13, 14, 15, 16, 17, 18, 19] h h4 := zfr_wf f66 e5 rfl
            have f64 : zfr [0, 3, 11, 12, 13, 14, 15, 24, 25, 26, 28, 29, 30, 31, 32, 33, 35, 37] [9, 10, 11, 12, 13, 14, 15, 16, 17, 18, 19] h h7 := zfr_wf f65 e8 rfl
            have f63 : zfr [0, 3, 11, 12, 13, 14, 15, 24, 25, 26, 28, 29, 30, 31, 32, 33, 35, 37] [9, 10, 11, 12, 13, 14, 15, 16, 17, 18, 19] h h10 := zfr_wf f64 e11 rfl
            have f62 : zfr [0, 3, 11, 12, 13, 14, 15, 24, 25, 26, 28, 29, 30, 31, 32, 33, 35, 37] [9, 10, 11, 12, 13, 14, 15, 16, 17, 18, 19] h h13 := zfr_wf f63 e14 rfl
            have f61 : zfr [0, 3, 11, 12, 13, 14, 15, 24, 25, 26, 28, 29, 30, 31, 32, 33, 35, 37] [9, 10, 11, 12, 13, 14, 15, 16, 17, 18, 19] h h16 := zfr_wf f62 e17 rfl
            have f60 : zfr [0, 3, 11, 12, 13, 14, 15, 24, 25, 26, 28, 29, 30, 31, 32, 33, 35, 37] [9, 10, 11, 12, 13, 14, 15, 16, 17, 18, 19] h h40 := zfr_t f61 f45 rfl rfl
            have f59 : zfr [0, 3, 11, 12, 13, 14, 15, 24, 25, 26, 28, 29, 30, 31, 32, 33, 35, 37] [9, 10, 11, 12, 13, 14, 15, 16, 17, 18, 19] h h47 := zfr_wf f60 e48 rfl
            have f58 : zfr [0, 3, 11, 12, 13, 14, 15, 24, 25, 26, 28, 29, 30, 31, 32, 33, 35, 37] [9, 10, 11, 12, 13, 14, 15, 16, 17, 18, 19] h h54 := zfr_t f59 f57 rfl rfl
            have b67 : h54.2 0 11 = 0 := ((zfr_f f57 rfl rfl).trans (zwr_v e48))
            exact zj_iret rfl (zdk ttX11_text 60 rfl rfl) (Nat.le_refl _) (Nat.le_refl _) ⟨v39, rfl, by omega, s56, f58, by omega⟩
          · refine zj_aload_n (zdk ttX11_text 51 rfl rfl) rfl (by decide) ?_
            refine zj_iload_n (zdk ttX11_text 52 rfl rfl) rfl ?_
            have s68 : okM h47 := fwM_11 s42 e48 (by omega)
            refine zj_callV (av := [.inl v39]) (st := []) (zdk ttX11_text 53 rfl rfl) mb_X11_takesLaw mv_RX11_297 (ci := 11) rfl rfl (k_M s68) rfl rfl (Nat.le_of_ble_eq_true rfl) (s_X11_takesLaw l h47 v39 s68 (by omega) (zLn_f (u43 (by omega) (by omega)) e48 (by decide))) (rm_ok (by decide) (by decide)) (zq_v fun h71 q69 => ?_)
            obtain ⟨s73, f74⟩ := q69
            refine zj_goto (t := 99) (zdk ttX11_text 54 rfl rfl) (by decide) ?_
            refine zj_iload_n (zdk ttX11_text 59 rfl rfl) rfl ?_
            have f83 : zfr [0, 3, 11, 12, 13, 14, 15, 24, 25, 26, 28, 29, 30, 31, 32, 33, 35, 37] [9, 10, 11, 12, 13, 14, 15, 16, 17, 18, 19] h h1 := zfr_wf (zfr_r _ _ _) e2 rfl
            have f82 : zfr [0, 3, 11, 12, 13, 14, 15, 24, 25, 26, 28, 29, 30, 31, 32, 33, 35, 37] [9, 10, 11, 12, 13, 14, 15, 16, 17, 18, 19] h h4 := zfr_wf f83 e5 rfl
            have f81 : zfr [0, 3, 11, 12, 13, 14, 15, 24, 25, 26, 28, 29, 30, 31, 32, 33, 35, 37] [9, 10, 11, 12, 13, 14, 15, 16, 17, 18, 19] h h7 := zfr_wf f82 e8 rfl
            have f80 : zfr [0, 3, 11, 12, 13, 14, 15, 24, 25, 26, 28, 29, 30, 31, 32, 33, 35, 37] [9, 10, 11, 12, 13, 14, 15, 16, 17, 18, 19] h h10 := zfr_wf f81 e11 rfl
            have f79 : zfr [0, 3, 11, 12, 13, 14, 15, 24, 25, 26, 28, 29, 30, 31, 32, 33, 35, 37] [9, 10, 11, 12, 13, 14, 15, 16, 17, 18, 19] h h13 := zfr_wf f80 e14 rfl
            have f78 : zfr [0, 3, 11, 12, 13, 14, 15, 24, 25, 26, 28, 29, 30, 31, 32, 33, 35, 37] [9, 10, 11, 12, 13, 14, 15, 16, 17, 18, 19] h h16 := zfr_wf f79 e17 rfl
            have f77 : zfr [0, 3, 11, 12, 13, 14, 15, 24, 25, 26, 28, 29, 30, 31, 32, 33, 35, 37] [9, 10, 11, 12, 13, 14, 15, 16, 17, 18, 19] h h40 := zfr_t f78 f45 rfl rfl
            have f76 : zfr [0, 3, 11, 12, 13, 14, 15, 24, 25, 26, 28, 29, 30, 31, 32, 33, 35, 37] [9, 10, 11, 12, 13, 14, 15, 16, 17, 18, 19] h h47 := zfr_wf f77 e48 rfl
            have f75 : zfr [0, 3, 11, 12, 13, 14, 15, 24, 25, 26, 28, 29, 30, 31, 32, 33, 35, 37] [9, 10, 11, 12, 13, 14, 15, 16, 17, 18, 19] h h71 := zfr_t f76 f74 rfl rfl
            have b84 : h71.2 0 11 = 0 := ((zfr_f f74 rfl rfl).trans (zwr_v e48))
            exact zj_iret rfl (zdk ttX11_text 60 rfl rfl) (Nat.le_refl _) (Nat.le_refl _) ⟨v39, rfl, by omega, s73, f75, by omega⟩
        · exact absurd c49 (by omega)
      · refine zj_aload_n (zdk ttX11_text 33 rfl rfl) rfl (by decide) ?_
        refine zj_aload_n (zdk ttX11_text 34 rfl rfl) rfl (by decide) ?_
        have b85 : -2147483648 ≤ (h40.2 0 29) ∧ (h40.2 0 29) ≤ 2147483647 := fM_29 s42
        refine zj_geti (v := (h40.2 0 29)) (zdk ttX11_text 35 rfl rfl) zf_RX11_185 rfl (k_M s42) rfl ?_
        refine zj_puti (zdk ttX11_text 36 rfl rfl) zf_RX11_291 rfl (k_M s42) (Or.inl zw_RX11_291) (k2 := 31) rfl (fun h86 e87 => ?_)
        refine zj_aload_n (zdk ttX11_text 37 rfl rfl) rfl (by decide) ?_
        refine zj_aload_n (zdk ttX11_text 38 rfl rfl) rfl (by decide) ?_
        have b88 : -2147483648 ≤ (h40.2 0 30) ∧ (h40.2 0 30) ≤ 2147483647 := fM_30 s42
        have s89 : okM h86 := fwM_31 s42 e87 (by omega)
        refine zj_geti (v := (h40.2 0 30)) (zdk ttX11_text 39 rfl rfl) zf_RX11_188 rfl (k_M s89) (zwr_r e87 (by omega)) ?_
        refine zj_puti (zdk ttX11_text 40 rfl rfl) zf_RX11_58 rfl (k_M s89) (Or.inl zw_RX11_58) (k2 := 32) rfl (fun h90 e91 => ?_)
        refine zj_aload_n (zdk ttX11_text 41 rfl rfl) rfl (by decide) ?_
        refine zj_iconst (zdk ttX11_text 42 rfl rfl) ?_
        have s92 : okM h90 := fwM_32 s89 e91 (by omega)
        refine zj_puti (zdk ttX11_text 43 rfl rfl) zf_RX11_149 rfl (k_M s92) (Or.inl zw_RX11_149) (k2 := 11) rfl (fun h93 e94 => ?_)
        refine zj_iload_n (zdk ttX11_text 44 rfl rfl) rfl ?_
        refine zj_iconst (zdk ttX11_text 45 rfl rfl) ?_
        refine zj_icmp_ne (t := 81) (zdk ttX11_text 46 rfl rfl) (by decide) (by omega) (by decide) (fun c95 => ?_) (fun c95 => ?_)
        · exact absurd c95 (by omega)
        · refine zj_iconst (zdk ttX11_text 47 rfl rfl) ?_
          have s96 : okM h93 := fwM_11 s92 e94 (by omega)
          have f106 : zfr [0, 3, 11, 12, 13, 14, 15, 24, 25, 26, 28, 29, 30, 31, 32, 33, 35, 37] [9, 10, 11, 12, 13, 14, 15, 16, 17, 18, 19] h h1 := zfr_wf (zfr_r _ _ _) e2 rfl
          have f105 : zfr [0, 3, 11, 12, 13, 14, 15, 24, 25, 26, 28, 29, 30, 31, 32, 33, 35, 37] [9, 10, 11, 12, 13, 14, 15, 16, 17, 18, 19] h h4 := zfr_wf f106 e5 rfl
          have f104 : zfr [0, 3, 11, 12, 13, 14, 15, 24, 25, 26, 28, 29, 30, 31, 32, 33, 35, 37] [9, 10, 11, 12, 13, 14, 15, 16, 17, 18, 19] h h7 := zfr_wf f105 e8 rfl
          have f103 : zfr [0, 3, 11, 12, 13, 14, 15, 24, 25, 26, 28, 29, 30, 31, 32, 33, 35, 37] [9, 10, 11, 12, 13, 14, 15, 16, 17, 18, 19] h h10 := zfr_wf f104 e11 rfl
          have f102 : zfr [0, 3, 11, 12, 13, 14, 15, 24, 25, 26, 28, 29, 30, 31, 32, 33, 35, 37] [9, 10, 11, 12, 13, 14, 15, 16, 17, 18, 19] h h13 := zfr_wf f103 e14 rfl
          have f101 : zfr [0, 3, 11, 12, 13, 14, 15, 24, 25, 26, 28, 29, 30, 31, 32, 33, 35, 37] [9, 10, 11, 12, 13, 14, 15, 16, 17, 18, 19] h h16 := zfr_wf f102 e17 rfl
          have f100 : zfr [0, 3, 11, 12, 13, 14, 15, 24, 25, 26, 28, 29, 30, 31, 32, 33, 35, 37] [9, 10, 11, 12, 13, 14, 15, 16, 17, 18, 19] h h40 := zfr_t f101 f45 rfl rfl
          have f99 : zfr [0, 3, 11, 12, 13, 14, 15, 24, 25, 26, 28, 29, 30, 31, 32, 33, 35, 37] [9, 10, 11, 12, 13, 14, 15, 16, 17, 18, 19] h h86 := zfr_wf f100 e87 rfl
          have f98 : zfr [0, 3, 11, 12, 13, 14, 15, 24, 25, 26, 28, 29, 30, 31, 32, 33, 35, 37] [9, 10, 11, 12, 13, 14, 15, 16, 17, 18, 19] h h90 := zfr_wf f99 e91 rfl
          have f97 : zfr [0, 3, 11, 12, 13, 14, 15, 24, 25, 26, 28, 29, 30, 31, 32, 33, 35, 37] [9, 10, 11, 12, 13, 14, 15, 16, 17, 18, 19] h h93 := zfr_wf f98 e94 rfl
          have b107 : h93.2 0 11 = 0 := (zwr_v e94)
          exact zj_iret rfl (zdk ttX11_text 48 rfl rfl) (Nat.le_refl _) (Nat.le_refl _) ⟨(-1), rfl, by omega, s96, f97, by omega⟩

abbrev q2_X11_islander (h : zM) (p1 : Int) (p2 : Int) : Option zV → zM → Prop := zqi fun v h' => ((-2147483648) ≤ v ∧ v ≤ 2147483647) ∧ okM h' ∧ zfr [0, 3, 6] [1, 4, 5] h h' ∧ (zis p1 p2 (h.2 0 6) v (h'.2 0 6))
set_option maxRecDepth 100000 in
set_option maxHeartbeats 4000000 in
theorem s2_X11_islander (l : Launch) (h : zM) (p1 : Int) (p2 : Int) (s0 : okM h) (b_p1 : (-2147483648) ≤ p1 ∧ p1 ≤ 2147483647) (b_p2 : (-2147483648) ≤ p2 ∧ p2 ≤ 2147483647) : zT shM l yX11_islander cX11_islander 3 (some .int) (rmL 2) 0 0 [.inr 0, .inl p1, .inl p2] h (q2_X11_islander h p1 p2) := by
  refine zT_of (by decide +kernel) (L0 := [some (.inr 0), some (.inl p1), some (.inl p2)]) rfl (Nat.le_of_ble_eq_true rfl) ?_
  refine zj_aload_n (zdk ttX11_islander 0 rfl rfl) rfl (by decide) ?_
  refine zj_iconst (zdk ttX11_islander 1 rfl rfl) ?_
  refine zj_puti (zdk ttX11_islander 2 rfl rfl) zf_RX11_120 rfl (k_M s0) (Or.inl zw_RX11_120) (k2 := 0) rfl (fun h1 e2 => ?_)
  refine zj_aload_n (zdk ttX11_islander 3 rfl rfl) rfl (by decide) ?_
  refine zj_iload_n (zdk ttX11_islander 4 rfl rfl) rfl ?_
  refine zj_iconst (zdk ttX11_islander 5 rfl rfl) ?_
  refine zj_sipush (zdk ttX11_islander 6 rfl rfl) (by decide) ?_
  have s3 : okM h1 := fwM_0 s0 e2 (by omega)
  refine zj_callV (av := [.inl p1, .inl 1, .inl 200]) (st := []) (zdk ttX11_islander 7 rfl rfl) mb_X11_isIn mv_RX11_139 (ci := 11) rfl rfl (k_M s3) rfl rfl (Nat.le_of_ble_eq_true rfl) (s_X11_isIn l h1 p1 1 200 s3 (by omega) (by omega) (by omega)) (rm_ok (by decide) (by decide)) (zq_i fun v5 h6 q4 => ?_)
  obtain ⟨rfl, ⟨rfl, b7⟩ | ⟨rfl, b7⟩⟩ := q4
  · refine zj_if_eq (t := 37) (zdk ttX11_islander 8 rfl rfl) (by decide) (by decide) (fun c8 => ?_) (fun c8 => ?_)
    · refine zj_iconst (zdk ttX11_islander 19 rfl rfl) ?_
      have f9 : zfr [0, 3, 6] [1, 4, 5] h h1 := zfr_wf (zfr_r _ _ _) e2 rfl
      have b10 : h1.2 0 6 = (h.2 0 6) := (zwr_r e2 (by omega))
      have b11 : 0 ≤ (h.2 0 6) ∧ (h.2 0 6) ≤ 18 := fM_6 s0
      exact zj_iret rfl (zdk ttX11_islander 20 rfl rfl) (Nat.le_refl _) (Nat.le_refl _) ⟨(-1), rfl, by omega, s3, f9, by unfold zis zisG; omega⟩
    · exact absurd c8 (by omega)
  · refine zj_if_eq (t := 37) (zdk ttX11_islander 8 rfl rfl) (by decide) (by decide) (fun c12 => ?_) (fun c12 => ?_)
    · exact absurd c12 (by omega)
    · refine zj_aload_n (zdk ttX11_islander 9 rfl rfl) rfl (by decide) ?_
      refine zj_iload_n (zdk ttX11_islander 10 rfl rfl) rfl ?_
      refine zj_iconst (zdk ttX11_islander 11 rfl rfl) ?_
      refine zj_bipush (zdk ttX11_islander 12 rfl rfl) (by decide) ?_
      refine zj_callV (av := [.inl p2, .inl 0, .inl 9]) (st := []) (zdk ttX11_islander 13 rfl rfl) mb_X11_isIn mv_RX11_139 (ci := 11) rfl rfl (k_M s3) rfl rfl (Nat.le_of_ble_eq_true rfl) (s_X11_isIn l h1 p2 0 9 s3 (by omega) (by omega) (by omega)) (rm_ok (by decide) (by decide)) (zq_i fun v14 h15 q13 => ?_)
      obtain ⟨rfl, ⟨rfl, b16⟩ | ⟨rfl, b16⟩⟩ := q13
      · refine zj_if_eq (t := 37) (zdk ttX11_islander 14 rfl rfl) (by decide) (by decide) (fun c17 => ?_) (fun c17 => ?_)
        · refine zj_iconst (zdk ttX11_islander 19 rfl rfl) ?_
          have f18 : zfr [0, 3, 6] [1, 4, 5] h h1 := zfr_wf (zfr_r _ _ _) e2 rfl
          have b19 : h1.2 0 6 = (h.2 0 6) := (zwr_r e2 (by omega))
          have b20 : 0 ≤ (h.2 0 6) ∧ (h.2 0 6) ≤ 18 := fM_6 s0
          exact zj_iret rfl (zdk ttX11_islander 20 rfl rfl) (Nat.le_refl _) (Nat.le_refl _) ⟨(-1), rfl, by omega, s3, f18, by unfold zis zisG; omega⟩
        · exact absurd c17 (by omega)
      · refine zj_if_eq (t := 37) (zdk ttX11_islander 14 rfl rfl) (by decide) (by decide) (fun c21 => ?_) (fun c21 => ?_)
        · exact absurd c21 (by omega)
        · refine zj_aload_n (zdk ttX11_islander 15 rfl rfl) rfl (by decide) ?_
          have b22 : 0 ≤ (h.2 0 6) ∧ (h.2 0 6) ≤ 18 := fM_6 s0
          refine zj_geti (v := (h.2 0 6)) (zdk ttX11_islander 16 rfl rfl) zf_RX11_132 rfl (k_M s3) (zwr_r e2 (by omega)) ?_
          refine zj_bipush (zdk ttX11_islander 17 rfl rfl) (by decide) ?_
          refine zj_icmp_ne (t := 39) (zdk ttX11_islander 18 rfl rfl) (by decide) (by omega) (by decide) (fun c23 => ?_) (fun c23 => ?_)
          · refine zj_aload_n (zdk ttX11_islander 21 rfl rfl) rfl (by decide) ?_
            refine zj_getr (r := 4) (zdk ttX11_islander 22 rfl rfl) zf_RX11_19 rfl (k_M s3) (rfM_7 s3) ?_
            refine zj_aload_n (zdk ttX11_islander 23 rfl rfl) rfl (by decide) ?_
            refine zj_geti (v := (h.2 0 6)) (zdk ttX11_islander 24 rfl rfl) zf_RX11_132 rfl (k_M s3) (zwr_r e2 (by omega)) ?_
            refine zj_iload_n (zdk ttX11_islander 25 rfl rfl) rfl ?_
            refine zj_iast (zdk ttX11_islander 26 rfl rfl) (kaM_4 s3) (by decide) (by omega) (fun h24 e25 => ?_)
            refine zj_aload_n (zdk ttX11_islander 27 rfl rfl) rfl (by decide) ?_
            have s26 : okM h24 := awM_4 s3 e25 (by omega) (by unfold nsp; omega)
            refine zj_getr (r := 5) (zdk ttX11_islander 28 rfl rfl) zf_RX11_22 rfl (k_M s26) (rfM_8 s26) ?_
            refine zj_aload_n (zdk ttX11_islander 29 rfl rfl) rfl (by decide) ?_
            refine zj_geti (v := (h.2 0 6)) (zdk ttX11_islander 30 rfl rfl) zf_RX11_132 rfl (k_M s26) ((zwr_r e25 (by omega)).trans (zwr_r e2 (by omega))) ?_
            refine zj_iload_n (zdk ttX11_islander 31 rfl rfl) rfl ?_
            refine zj_iast (zdk ttX11_islander 32 rfl rfl) (kaM_5 s26) (by decide) (by omega) (fun h27 e28 => ?_)
            refine zj_aload_n (zdk ttX11_islander 33 rfl rfl) rfl (by decide) ?_
            have s29 : okM h27 := awM_5 s26 e28 (by omega) (by unfold nsp; omega)
            refine zj_getr (r := 1) (zdk ttX11_islander 34 rfl rfl) zf_RX11_7 rfl (k_M s29) (rfM_1 s29) ?_
            refine zj_bipush (zdk ttX11_islander 35 rfl rfl) (by decide) ?_
            refine zj_aload_n (zdk ttX11_islander 36 rfl rfl) rfl (by decide) ?_
            refine zj_geti (v := (h.2 0 6)) (zdk ttX11_islander 37 rfl rfl) zf_RX11_132 rfl (k_M s29) (((zwr_r e28 (by omega)).trans (zwr_r e25 (by omega))).trans (zwr_r e2 (by omega))) ?_
            refine zj_iadd (zdk ttX11_islander 38 rfl rfl) ?_
            refine zj_iconst (zdk ttX11_islander 39 rfl rfl) ?_
            refine zj_iast (zdk ttX11_islander 40 rfl rfl) (kaM_1 s29) (by decide) (by omega) (fun h30 e31 => ?_)
            refine zj_aload_n (zdk ttX11_islander 41 rfl rfl) rfl (by decide) ?_
            have s32 : okM h30 := okM_wr s29 e31 (by decide) (by omega) (by omega)
            refine zj_getr (r := 1) (zdk ttX11_islander 42 rfl rfl) zf_RX11_7 rfl (k_M s32) (rfM_1 s32) ?_
            refine zj_bipush (zdk ttX11_islander 43 rfl rfl) (by decide) ?_
            refine zj_aload_n (zdk ttX11_islander 44 rfl rfl) rfl (by decide) ?_
            refine zj_geti (v := (h.2 0 6)) (zdk ttX11_islander 45 rfl rfl) zf_RX11_132 rfl (k_M s32) ((((zwr_r e31 (by omega)).trans (zwr_r e28 (by omega))).trans (zwr_r e25 (by omega))).trans (zwr_r e2 (by omega))) ?_
            refine zj_iadd (zdk ttX11_islander 46 rfl rfl) ?_
            refine zj_iconst (zdk ttX11_islander 47 rfl rfl) ?_
            refine zj_iast (zdk ttX11_islander 48 rfl rfl) (kaM_1 s32) (by decide) (by omega) (fun h33 e34 => ?_)
            refine zj_aload_n (zdk ttX11_islander 49 rfl rfl) rfl (by decide) ?_
            have s35 : okM h33 := okM_wr s32 e34 (by decide) (by omega) (by omega)
            refine zj_getr (r := 1) (zdk ttX11_islander 50 rfl rfl) zf_RX11_7 rfl (k_M s35) (rfM_1 s35) ?_
            refine zj_bipush (zdk ttX11_islander 51 rfl rfl) (by decide) ?_
            refine zj_aload_n (zdk ttX11_islander 52 rfl rfl) rfl (by decide) ?_
            refine zj_geti (v := (h.2 0 6)) (zdk ttX11_islander 53 rfl rfl) zf_RX11_132 rfl (k_M s35) (((((zwr_r e34 (by omega)).trans (zwr_r e31 (by omega))).trans (zwr_r e28 (by omega))).trans (zwr_r e25 (by omega))).trans (zwr_r e2 (by omega))) ?_
            refine zj_iadd (zdk ttX11_islander 54 rfl rfl) ?_
            refine zj_iconst (zdk ttX11_islander 55 rfl rfl) ?_
            refine zj_iast (zdk ttX11_islander 56 rfl rfl) (kaM_1 s35) (by decide) (by omega) (fun h36 e37 => ?_)
            refine zj_aload_n (zdk ttX11_islander 57 rfl rfl) rfl (by decide) ?_
            refine zj_aload_n (zdk ttX11_islander 58 rfl rfl) rfl (by decide) ?_
            have s38 : okM h36 := okM_wr s35 e37 (by decide) (by omega) (by omega)
            refine zj_geti (v := (h.2 0 6)) (zdk ttX11_islander 59 rfl rfl) zf_RX11_132 rfl (k_M s38) ((((((zwr_r e37 (by omega)).trans (zwr_r e34 (by omega))).trans (zwr_r e31 (by omega))).trans (zwr_r e28 (by omega))).trans (zwr_r e25 (by omega))).trans (zwr_r e2 (by omega))) ?_
            refine zj_iconst (zdk ttX11_islander 60 rfl rfl) ?_
            refine zj_iadd (zdk ttX11_islander 61 rfl rfl) ?_
            refine zj_puti (zdk ttX11_islander 62 rfl rfl) zf_RX11_132 rfl (k_M s38) (Or.inl zw_RX11_132) (k2 := 6) rfl (fun h39 e40 => ?_)
            refine zj_aload_n (zdk ttX11_islander 63 rfl rfl) rfl (by decide) ?_
            refine zj_iconst (zdk ttX11_islander 64 rfl rfl) ?_
            have s41 : okM h39 := fwM_6 s38 e40 (by omega)
            refine zj_puti (zdk ttX11_islander 65 rfl rfl) zf_RX11_123 rfl (k_M s41) (Or.inl zw_RX11_123) (k2 := 3) rfl (fun h42 e43 => ?_)
            refine zj_aload_n (zdk ttX11_islander 66 rfl rfl) rfl (by decide) ?_
            have s44 : okM h42 := fwM_3 s41 e43 (by omega)
            refine zj_geti (v := ((h.2 0 6) + 1)) (zdk ttX11_islander 67 rfl rfl) zf_RX11_132 rfl (k_M s44) ((zwr_r e43 (by omega)).trans (zwr_v e40)) ?_
            refine zj_iconst (zdk ttX11_islander 68 rfl rfl) ?_
            refine zj_isub (zdk ttX11_islander 69 rfl rfl) ?_
            have f52 : zfr [0, 3, 6] [1, 4, 5] h h1 := zfr_wf (zfr_r _ _ _) e2 rfl
            have f51 : zfr [0, 3, 6] [1, 4, 5] h h24 := zfr_wa f52 e25 rfl
            have f50 : zfr [0, 3, 6] [1, 4, 5] h h27 := zfr_wa f51 e28 rfl
            have f49 : zfr [0, 3, 6] [1, 4, 5] h h30 := zfr_wa f50 e31 rfl
            have f48 : zfr [0, 3, 6] [1, 4, 5] h h33 := zfr_wa f49 e34 rfl
            have f47 : zfr [0, 3, 6] [1, 4, 5] h h36 := zfr_wa f48 e37 rfl
            have f46 : zfr [0, 3, 6] [1, 4, 5] h h39 := zfr_wf f47 e40 rfl
            have f45 : zfr [0, 3, 6] [1, 4, 5] h h42 := zfr_wf f46 e43 rfl
            have b53 : h42.2 0 6 = ((h.2 0 6) + 1) := ((zwr_r e43 (by omega)).trans (zwr_v e40))
            exact zj_iret rfl (zdk ttX11_islander 70 rfl rfl) (Nat.le_refl _) (Nat.le_refl _) ⟨(((h.2 0 6) + 1) - 1), rfl, by omega, s44, f45, by unfold zis zisG; omega⟩
          · refine zj_iconst (zdk ttX11_islander 19 rfl rfl) ?_
            have f54 : zfr [0, 3, 6] [1, 4, 5] h h1 := zfr_wf (zfr_r _ _ _) e2 rfl
            have b55 : h1.2 0 6 = (h.2 0 6) := (zwr_r e2 (by omega))
            exact zj_iret rfl (zdk ttX11_islander 20 rfl rfl) (Nat.le_refl _) (Nat.le_refl _) ⟨(-1), rfl, by omega, s3, f54, by unfold zis zisG; omega⟩

abbrev q2_X11_set (h : zM) (p1 : Int) (p2 : Int) (p3 : Int) : Option zV → zM → Prop := zqi fun v h' => (0 ≤ v ∧ v ≤ 1) ∧ okM h' ∧ zfr [0, 3] [1, 4, 5] h h' ∧ (zst9 p1 p2 p3 (h.2 0 6) v)
set_option maxRecDepth 100000 in
set_option maxHeartbeats 4000000 in
theorem s2_X11_set (l : Launch) (h : zM) (p1 : Int) (p2 : Int) (p3 : Int) (s0 : okM h) (b_p1 : (-2147483648) ≤ p1 ∧ p1 ≤ 2147483647) (b_p2 : (-2147483648) ≤ p2 ∧ p2 ≤ 2147483647) (b_p3 : (-2147483648) ≤ p3 ∧ p3 ≤ 2147483647) : zT shM l yX11_set cX11_set 4 (some .boolean) (rmL 3) 0 0 [.inr 0, .inl p1, .inl p2, .inl p3] h (q2_X11_set h p1 p2 p3) := by
  refine zT_of (by decide +kernel) (L0 := [some (.inr 0), some (.inl p1), some (.inl p2), some (.inl p3)]) rfl (Nat.le_of_ble_eq_true rfl) ?_
  refine zj_aload_n (zdk ttX11_set 0 rfl rfl) rfl (by decide) ?_
  refine zj_iconst (zdk ttX11_set 1 rfl rfl) ?_
  refine zj_puti (zdk ttX11_set 2 rfl rfl) zf_RX11_120 rfl (k_M s0) (Or.inl zw_RX11_120) (k2 := 0) rfl (fun h1 e2 => ?_)
  refine zj_aload_n (zdk ttX11_set 3 rfl rfl) rfl (by decide) ?_
  refine zj_iload_n (zdk ttX11_set 4 rfl rfl) rfl ?_
  refine zj_iload_n (zdk ttX11_set 5 rfl rfl) rfl ?_
  refine zj_iload_n (zdk ttX11_set 6 rfl rfl) rfl ?_
  have s3 : okM h1 := fwM_0 s0 e2 (by omega)
  refine zj_callV (av := [.inl p1, .inl p2, .inl p3]) (st := []) (zdk ttX11_set 7 rfl rfl) mb_X11_canSet mv_RX11_146 (ci := 11) rfl rfl (k_M s3) rfl rfl (Nat.le_of_ble_eq_true rfl) (s_X11_canSet l h1 p1 p2 p3 s3 (by omega) (by omega) (by omega)) (rm_ok (by decide) (by decide)) (zq_i fun v5 h6 q4 => ?_)
  obtain ⟨rfl, b8, ⟨rfl, b7⟩ | ⟨rfl, b7⟩⟩ := q4
  · refine zj_if_ne (t := 17) (zdk ttX11_set 8 rfl rfl) (by decide) (by decide) (fun c9 => ?_) (fun c9 => ?_)
    · exact absurd c9 (by omega)
    · refine zj_iconst (zdk ttX11_set 9 rfl rfl) ?_
      have f10 : zfr [0, 3] [1, 4, 5] h h1 := zfr_wf (zfr_r _ _ _) e2 rfl
      have b11 : h1.2 0 6 = (h.2 0 6) := (zwr_r e2 (by omega))
      have b12 : 0 ≤ (h.2 0 6) ∧ (h.2 0 6) ≤ 18 := fM_6 s0
      exact zj_zret rfl (zdk ttX11_set 10 rfl rfl) (Nat.le_refl _) (Nat.le_refl _) (by omega) ⟨0, rfl, by omega, s3, f10, by unfold zst9 zstG; omega⟩
  · refine zj_if_ne (t := 17) (zdk ttX11_set 8 rfl rfl) (by decide) (by decide) (fun c13 => ?_) (fun c13 => ?_)
    · refine zj_iload_n (zdk ttX11_set 11 rfl rfl) rfl ?_
      refine zj_if_ne (t := 28) (zdk ttX11_set 12 rfl rfl) (by decide) (by omega) (fun c14 => ?_) (fun c14 => ?_)
      · refine zj_iload_n (zdk ttX11_set 18 rfl rfl) rfl ?_
        refine zj_iconst (zdk ttX11_set 19 rfl rfl) ?_
        refine zj_icmp_ne (t := 40) (zdk ttX11_set 20 rfl rfl) (by decide) (by omega) (by decide) (fun c15 => ?_) (fun c15 => ?_)
        · refine zj_iload_n (zdk ttX11_set 26 rfl rfl) rfl ?_
          refine zj_iconst (zdk ttX11_set 27 rfl rfl) ?_
          refine zj_icmp_ne (t := 52) (zdk ttX11_set 28 rfl rfl) (by decide) (by omega) (by decide) (fun c16 => ?_) (fun c16 => ?_)
          · refine zj_iload_n (zdk ttX11_set 34 rfl rfl) rfl ?_
            refine zj_iconst (zdk ttX11_set 35 rfl rfl) ?_
            refine zj_icmp_ne (t := 64) (zdk ttX11_set 36 rfl rfl) (by decide) (by omega) (by decide) (fun c17 => ?_) (fun c17 => ?_)
            · refine zj_iload_n (zdk ttX11_set 42 rfl rfl) rfl ?_
              refine zj_iconst (zdk ttX11_set 43 rfl rfl) ?_
              refine zj_icmp_ne (t := 77) (zdk ttX11_set 44 rfl rfl) (by decide) (by omega) (by decide) (fun c18 => ?_) (fun c18 => ?_)
              · exact absurd c18 (by omega)
              · refine zj_aload_n (zdk ttX11_set 45 rfl rfl) rfl (by decide) ?_
                refine zj_getr (r := 1) (zdk ttX11_set 46 rfl rfl) zf_RX11_7 rfl (k_M s3) (rfM_1 s3) ?_
                refine zj_bipush (zdk ttX11_set 47 rfl rfl) (by decide) ?_
                refine zj_iload_n (zdk ttX11_set 48 rfl rfl) rfl ?_
                refine zj_iast (zdk ttX11_set 49 rfl rfl) (kaM_1 s3) (by decide) (by omega) (fun h19 e20 => ?_)
                refine zj_aload_n (zdk ttX11_set 50 rfl rfl) rfl (by decide) ?_
                refine zj_iconst (zdk ttX11_set 51 rfl rfl) ?_
                have s21 : okM h19 := okM_wr s3 e20 (by decide) (by omega) (by omega)
                refine zj_puti (zdk ttX11_set 52 rfl rfl) zf_RX11_123 rfl (k_M s21) (Or.inl zw_RX11_123) (k2 := 3) rfl (fun h22 e23 => ?_)
                refine zj_iconst (zdk ttX11_set 53 rfl rfl) ?_
                have s24 : okM h22 := fwM_3 s21 e23 (by omega)
                have f27 : zfr [0, 3] [1, 4, 5] h h1 := zfr_wf (zfr_r _ _ _) e2 rfl
                have f26 : zfr [0, 3] [1, 4, 5] h h19 := zfr_wa f27 e20 rfl
                have f25 : zfr [0, 3] [1, 4, 5] h h22 := zfr_wf f26 e23 rfl
                have b28 : h1.2 0 6 = (h.2 0 6) := (zwr_r e2 (by omega))
                have b29 : 0 ≤ (h.2 0 6) ∧ (h.2 0 6) ≤ 18 := fM_6 s0
                exact zj_zret rfl (zdk ttX11_set 54 rfl rfl) (Nat.le_refl _) (Nat.le_refl _) (by omega) ⟨1, rfl, by omega, s24, f25, by unfold zst9 zstG; omega⟩
            · refine zj_aload_n (zdk ttX11_set 37 rfl rfl) rfl (by decide) ?_
              refine zj_getr (r := 1) (zdk ttX11_set 38 rfl rfl) zf_RX11_7 rfl (k_M s3) (rfM_1 s3) ?_
              refine zj_iconst (zdk ttX11_set 39 rfl rfl) ?_
              refine zj_iload_n (zdk ttX11_set 40 rfl rfl) rfl ?_
              refine zj_iast (zdk ttX11_set 41 rfl rfl) (kaM_1 s3) (by decide) (by omega) (fun h30 e31 => ?_)
              refine zj_iload_n (zdk ttX11_set 42 rfl rfl) rfl ?_
              refine zj_iconst (zdk ttX11_set 43 rfl rfl) ?_
              refine zj_icmp_ne (t := 77) (zdk ttX11_set 44 rfl rfl) (by decide) (by omega) (by decide) (fun c32 => ?_) (fun c32 => ?_)
              · refine zj_aload_n (zdk ttX11_set 50 rfl rfl) rfl (by decide) ?_
                refine zj_iconst (zdk ttX11_set 51 rfl rfl) ?_
                have s33 : okM h30 := okM_wr s3 e31 (by decide) (by omega) (by omega)
                refine zj_puti (zdk ttX11_set 52 rfl rfl) zf_RX11_123 rfl (k_M s33) (Or.inl zw_RX11_123) (k2 := 3) rfl (fun h34 e35 => ?_)
                refine zj_iconst (zdk ttX11_set 53 rfl rfl) ?_
                have s36 : okM h34 := fwM_3 s33 e35 (by omega)
                have f39 : zfr [0, 3] [1, 4, 5] h h1 := zfr_wf (zfr_r _ _ _) e2 rfl
                have f38 : zfr [0, 3] [1, 4, 5] h h30 := zfr_wa f39 e31 rfl
                have f37 : zfr [0, 3] [1, 4, 5] h h34 := zfr_wf f38 e35 rfl
                have b40 : h1.2 0 6 = (h.2 0 6) := (zwr_r e2 (by omega))
                have b41 : 0 ≤ (h.2 0 6) ∧ (h.2 0 6) ≤ 18 := fM_6 s0
                exact zj_zret rfl (zdk ttX11_set 54 rfl rfl) (Nat.le_refl _) (Nat.le_refl _) (by omega) ⟨1, rfl, by omega, s36, f37, by unfold zst9 zstG; omega⟩
              · exact absurd c32 (by omega)
          · refine zj_aload_n (zdk ttX11_set 29 rfl rfl) rfl (by decide) ?_
            refine zj_getr (r := 1) (zdk ttX11_set 30 rfl rfl) zf_RX11_7 rfl (k_M s3) (rfM_1 s3) ?_
            refine zj_iconst (zdk ttX11_set 31 rfl rfl) ?_
            refine zj_iload_n (zdk ttX11_set 32 rfl rfl) rfl ?_
            refine zj_iast (zdk ttX11_set 33 rfl rfl) (kaM_1 s3) (by decide) (by omega) (fun h42 e43 => ?_)
            refine zj_iload_n (zdk ttX11_set 34 rfl rfl) rfl ?_
            refine zj_iconst (zdk ttX11_set 35 rfl rfl) ?_
            refine zj_icmp_ne (t := 64) (zdk ttX11_set 36 rfl rfl) (by decide) (by omega) (by decide) (fun c44 => ?_) (fun c44 => ?_)
            · refine zj_iload_n (zdk ttX11_set 42 rfl rfl) rfl ?_
              refine zj_iconst (zdk ttX11_set 43 rfl rfl) ?_
              refine zj_icmp_ne (t := 77) (zdk ttX11_set 44 rfl rfl) (by decide) (by omega) (by decide) (fun c45 => ?_) (fun c45 => ?_)
              · refine zj_aload_n (zdk ttX11_set 50 rfl rfl) rfl (by decide) ?_
                refine zj_iconst (zdk ttX11_set 51 rfl rfl) ?_
                have s46 : okM h42 := okM_wr s3 e43 (by decide) (by omega) (by omega)
                refine zj_puti (zdk ttX11_set 52 rfl rfl) zf_RX11_123 rfl (k_M s46) (Or.inl zw_RX11_123) (k2 := 3) rfl (fun h47 e48 => ?_)
                refine zj_iconst (zdk ttX11_set 53 rfl rfl) ?_
                have s49 : okM h47 := fwM_3 s46 e48 (by omega)
                have f52 : zfr [0, 3] [1, 4, 5] h h1 := zfr_wf (zfr_r _ _ _) e2 rfl
                have f51 : zfr [0, 3] [1, 4, 5] h h42 := zfr_wa f52 e43 rfl
                have f50 : zfr [0, 3] [1, 4, 5] h h47 := zfr_wf f51 e48 rfl
                have b53 : h1.2 0 6 = (h.2 0 6) := (zwr_r e2 (by omega))
                have b54 : 0 ≤ (h.2 0 6) ∧ (h.2 0 6) ≤ 18 := fM_6 s0
                exact zj_zret rfl (zdk ttX11_set 54 rfl rfl) (Nat.le_refl _) (Nat.le_refl _) (by omega) ⟨1, rfl, by omega, s49, f50, by unfold zst9 zstG; omega⟩
              · exact absurd c45 (by omega)
            · exact absurd c44 (by omega)
        · refine zj_aload_n (zdk ttX11_set 21 rfl rfl) rfl (by decide) ?_
          refine zj_getr (r := 5) (zdk ttX11_set 22 rfl rfl) zf_RX11_22 rfl (k_M s3) (rfM_8 s3) ?_
          refine zj_iload_n (zdk ttX11_set 23 rfl rfl) rfl ?_
          refine zj_iload_n (zdk ttX11_set 24 rfl rfl) rfl ?_
          refine zj_iast (zdk ttX11_set 25 rfl rfl) (kaM_5 s3) (by decide) (by omega) (fun h55 e56 => ?_)
          refine zj_iload_n (zdk ttX11_set 26 rfl rfl) rfl ?_
          refine zj_iconst (zdk ttX11_set 27 rfl rfl) ?_
          refine zj_icmp_ne (t := 52) (zdk ttX11_set 28 rfl rfl) (by decide) (by omega) (by decide) (fun c57 => ?_) (fun c57 => ?_)
          · refine zj_iload_n (zdk ttX11_set 34 rfl rfl) rfl ?_
            refine zj_iconst (zdk ttX11_set 35 rfl rfl) ?_
            refine zj_icmp_ne (t := 64) (zdk ttX11_set 36 rfl rfl) (by decide) (by omega) (by decide) (fun c58 => ?_) (fun c58 => ?_)
            · refine zj_iload_n (zdk ttX11_set 42 rfl rfl) rfl ?_
              refine zj_iconst (zdk ttX11_set 43 rfl rfl) ?_
              refine zj_icmp_ne (t := 77) (zdk ttX11_set 44 rfl rfl) (by decide) (by omega) (by decide) (fun c59 => ?_) (fun c59 => ?_)
              · refine zj_aload_n (zdk ttX11_set 50 rfl rfl) rfl (by decide) ?_
                refine zj_iconst (zdk ttX11_set 51 rfl rfl) ?_
                have s60 : okM h55 := awM_5 s3 e56 (by omega) (by unfold nsp; omega)
                refine zj_puti (zdk ttX11_set 52 rfl rfl) zf_RX11_123 rfl (k_M s60) (Or.inl zw_RX11_123) (k2 := 3) rfl (fun h61 e62 => ?_)
                refine zj_iconst (zdk ttX11_set 53 rfl rfl) ?_
                have s63 : okM h61 := fwM_3 s60 e62 (by omega)
                have f66 : zfr [0, 3] [1, 4, 5] h h1 := zfr_wf (zfr_r _ _ _) e2 rfl
                have f65 : zfr [0, 3] [1, 4, 5] h h55 := zfr_wa f66 e56 rfl
                have f64 : zfr [0, 3] [1, 4, 5] h h61 := zfr_wf f65 e62 rfl
                have b67 : h1.2 0 6 = (h.2 0 6) := (zwr_r e2 (by omega))
                have b68 : 0 ≤ (h.2 0 6) ∧ (h.2 0 6) ≤ 18 := fM_6 s0
                exact zj_zret rfl (zdk ttX11_set 54 rfl rfl) (Nat.le_refl _) (Nat.le_refl _) (by omega) ⟨1, rfl, by omega, s63, f64, by unfold zst9 zstG; omega⟩
              · exact absurd c59 (by omega)
            · exact absurd c58 (by omega)
          · exact absurd c57 (by omega)
      · refine zj_aload_n (zdk ttX11_set 13 rfl rfl) rfl (by decide) ?_
        refine zj_getr (r := 4) (zdk ttX11_set 14 rfl rfl) zf_RX11_19 rfl (k_M s3) (rfM_7 s3) ?_
        refine zj_iload_n (zdk ttX11_set 15 rfl rfl) rfl ?_
        refine zj_iload_n (zdk ttX11_set 16 rfl rfl) rfl ?_
        refine zj_iast (zdk ttX11_set 17 rfl rfl) (kaM_4 s3) (by decide) (by omega) (fun h69 e70 => ?_)
        refine zj_iload_n (zdk ttX11_set 18 rfl rfl) rfl ?_
        refine zj_iconst (zdk ttX11_set 19 rfl rfl) ?_
        refine zj_icmp_ne (t := 40) (zdk ttX11_set 20 rfl rfl) (by decide) (by omega) (by decide) (fun c71 => ?_) (fun c71 => ?_)
        · refine zj_iload_n (zdk ttX11_set 26 rfl rfl) rfl ?_
          refine zj_iconst (zdk ttX11_set 27 rfl rfl) ?_
          refine zj_icmp_ne (t := 52) (zdk ttX11_set 28 rfl rfl) (by decide) (by omega) (by decide) (fun c72 => ?_) (fun c72 => ?_)
          · refine zj_iload_n (zdk ttX11_set 34 rfl rfl) rfl ?_
            refine zj_iconst (zdk ttX11_set 35 rfl rfl) ?_
            refine zj_icmp_ne (t := 64) (zdk ttX11_set 36 rfl rfl) (by decide) (by omega) (by decide) (fun c73 => ?_) (fun c73 => ?_)
            · refine zj_iload_n (zdk ttX11_set 42 rfl rfl) rfl ?_
              refine zj_iconst (zdk ttX11_set 43 rfl rfl) ?_
              refine zj_icmp_ne (t := 77) (zdk ttX11_set 44 rfl rfl) (by decide) (by omega) (by decide) (fun c74 => ?_) (fun c74 => ?_)
              · refine zj_aload_n (zdk ttX11_set 50 rfl rfl) rfl (by decide) ?_
                refine zj_iconst (zdk ttX11_set 51 rfl rfl) ?_
                have s75 : okM h69 := awM_4 s3 e70 (by omega) (by unfold nsp; omega)
                refine zj_puti (zdk ttX11_set 52 rfl rfl) zf_RX11_123 rfl (k_M s75) (Or.inl zw_RX11_123) (k2 := 3) rfl (fun h76 e77 => ?_)
                refine zj_iconst (zdk ttX11_set 53 rfl rfl) ?_
                have s78 : okM h76 := fwM_3 s75 e77 (by omega)
                have f81 : zfr [0, 3] [1, 4, 5] h h1 := zfr_wf (zfr_r _ _ _) e2 rfl
                have f80 : zfr [0, 3] [1, 4, 5] h h69 := zfr_wa f81 e70 rfl
                have f79 : zfr [0, 3] [1, 4, 5] h h76 := zfr_wf f80 e77 rfl
                have b82 : h1.2 0 6 = (h.2 0 6) := (zwr_r e2 (by omega))
                have b83 : 0 ≤ (h.2 0 6) ∧ (h.2 0 6) ≤ 18 := fM_6 s0
                exact zj_zret rfl (zdk ttX11_set 54 rfl rfl) (Nat.le_refl _) (Nat.le_refl _) (by omega) ⟨1, rfl, by omega, s78, f79, by unfold zst9 zstG; omega⟩
              · exact absurd c74 (by omega)
            · exact absurd c73 (by omega)
          · exact absurd c72 (by omega)
        · exact absurd c71 (by omega)
    · exact absurd c13 (by omega)

abbrev q2_X11_onesOf (h : zM) (p1 : Int) : Option zV → zM → Prop := zqi fun v h' => h = h' ∧ (0 ≤ v ∧ v ≤ 6) ∧ (v = fyp p1)
set_option maxRecDepth 100000 in
set_option maxHeartbeats 4000000 in
theorem s2_X11_onesOf (l : Launch) (h : zM) (p1 : Int) (s0 : okM h) (b_p1 : 0 ≤ p1 ∧ p1 ≤ 63) : zT shM l yX11_onesOf cX11_onesOf 4 (some .int) (rmL 1) 0 0 [.inr 0, .inl p1] h (q2_X11_onesOf h p1) := by
  refine zT_of (by decide +kernel) (L0 := [some (.inr 0), some (.inl p1), none, none]) rfl (Nat.le_of_ble_eq_true rfl) ?_
  refine zj_iconst (zdk ttX11_onesOf 0 rfl rfl) ?_
  refine zj_istore_n (L' := [some (.inr 0), some (.inl p1), some (.inl 0), none]) (zdk ttX11_onesOf 1 rfl rfl) (by decide) rfl ?_
  refine zj_iload_n (zdk ttX11_onesOf 2 rfl rfl) rfl ?_
  refine zj_istore_n (L' := [some (.inr 0), some (.inl p1), some (.inl 0), some (.inl p1)]) (zdk ttX11_onesOf 3 rfl rfl) (by decide) rfl ?_
  have lp5 : ∀ (n4 : Nat) (x1 x2 : Int), (0 ≤ x1 ∧ x1 ≤ 6) → (0 ≤ x2 ∧ x2 ≤ 63) → (x1 + fyp x2 = fyp p1) → x2.toNat < n4 → zJ shM l yX11_onesOf cX11_onesOf 4 (some .int) (rmL 1) 0 0 (q2_X11_onesOf h p1) 0 0 4 [some (.inr 0), some (.inl p1), some (.inl x1), some (.inl x2)] [] h := by
    intro n4
    induction n4 with
    | zero => intro x1 x2 b6 b7 u8 m9; exact absurd m9 (Nat.not_lt_zero _)
    | succ n4 ih10 =>
      intro x1 x2 b6 b7 u8 m9
      refine zj_iload_n (zdk ttX11_onesOf 4 rfl rfl) rfl ?_
      refine zj_if_eq (t := 21) (zdk ttX11_onesOf 5 rfl rfl) (by decide) (by omega) (fun c11 => ?_) (fun c11 => ?_)
      · refine zj_iload_n (zdk ttX11_onesOf 17 rfl rfl) rfl ?_
        exact zj_iret rfl (zdk ttX11_onesOf 18 rfl rfl) (Nat.le_refl _) (Nat.le_refl _) ⟨x1, rfl, rfl, by omega, (by have e9 := u8; rw [show x2 = 0 by omega] at e9; have z9 : fyp 0 = 0 := rfl; omega)⟩
      · refine zj_iload_n (zdk ttX11_onesOf 6 rfl rfl) rfl ?_
        refine zj_iconst (zdk ttX11_onesOf 7 rfl rfl) ?_
        refine zj_iadd (zdk ttX11_onesOf 8 rfl rfl) ?_
        refine zj_istore_n (L' := [some (.inr 0), some (.inl p1), some (.inl (x1 + 1)), some (.inl x2)]) (zdk ttX11_onesOf 9 rfl rfl) (by decide) rfl ?_
        refine zj_iload_n (zdk ttX11_onesOf 10 rfl rfl) rfl ?_
        refine zj_iload_n (zdk ttX11_onesOf 11 rfl rfl) rfl ?_
        refine zj_iconst (zdk ttX11_onesOf 12 rfl rfl) ?_
        refine zj_isub (zdk ttX11_onesOf 13 rfl rfl) ?_
        refine zj_iand (zdk ttX11_onesOf 14 rfl rfl) ?_
        have b12 := And.intro (zand_l (a := x2) (by omega) (x2 - 1)) (zand_r x2 (b := (x2 - 1)) (by omega))
        refine zj_istore_n (L' := [some (.inr 0), some (.inl p1), some (.inl (x1 + 1)), some (.inl (zand x2 (x2 - 1)))]) (zdk ttX11_onesOf 15 rfl rfl) (by decide) rfl ?_
        refine zj_goto (t := 4) (zdk ttX11_onesOf 16 rfl rfl) (by decide) ?_
        have b13 := fyp_s (x := x2) (by omega) (by omega)
        have b13a := fyp_b (zand x2 (x2 - 1))
        have b13b := fyp_b p1
        exact ih10  (x1 + 1) (zand x2 (x2 - 1)) (by omega) (by omega) (by omega) (by omega)
  exact lp5 _ 0 p1 (by omega) (by omega) (by omega) (Nat.lt_succ_self _)

abbrev q2_X11_isPeace (h : zM) (p1 : Int) : Option zV → zM → Prop := zqi fun v h' => h = h' ∧ (0 ≤ v ∧ v ≤ 1) ∧ ((v = 1 ∧ fyG (h.2 25) p1) ∨ (v = 0 ∧ ¬ fyG (h.2 25) p1))
set_option maxRecDepth 100000 in
set_option maxHeartbeats 4000000 in
theorem s2_X11_isPeace (l : Launch) (h : zM) (p1 : Int) (s0 : okM h) (b_p1 : 0 ≤ p1 ∧ p1 ≤ 63) : zT shM l yX11_isPeace cX11_isPeace 3 (some .boolean) (rmL 2) 0 0 [.inr 0, .inl p1] h (q2_X11_isPeace h p1) := by
  refine zT_of (by decide +kernel) (L0 := [some (.inr 0), some (.inl p1), none]) rfl (Nat.le_of_ble_eq_true rfl) ?_
  refine zj_iconst (zdk ttX11_isPeace 0 rfl rfl) ?_
  refine zj_istore_n (L' := [some (.inr 0), some (.inl p1), some (.inl 0)]) (zdk ttX11_isPeace 1 rfl rfl) (by decide) rfl ?_
  have lp12 : ∀ (n2 : Nat) (x1 : Int), (0 ≤ x1 ∧ x1 ≤ 6) → (∀ k, 0 ≤ k → k < x1 → zand (zshr p1 k) 1 = 1 → zand (h.2 25 k) p1 = 0) → (7 - x1).toNat < n2 → zJ shM l yX11_isPeace cX11_isPeace 3 (some .boolean) (rmL 2) 0 0 (q2_X11_isPeace h p1) 0 0 2 [some (.inr 0), some (.inl p1), some (.inl x1)] [] h := by
    intro n2
    induction n2 with
    | zero => intro x1 b13 u14 m15; exact absurd m15 (Nat.not_lt_zero _)
    | succ n2 ih16 =>
      intro x1 b13 u14 m15
      refine zj_iload_n (zdk ttX11_isPeace 2 rfl rfl) rfl ?_
      refine zj_bipush (zdk ttX11_isPeace 3 rfl rfl) (by decide) ?_
      refine zj_icmp_ge (t := 36) (zdk ttX11_isPeace 4 rfl rfl) (by decide) (by omega) (by decide) (fun c17 => ?_) (fun c17 => ?_)
      · refine zj_iconst (zdk ttX11_isPeace 21 rfl rfl) ?_
        exact zj_zret rfl (zdk ttX11_isPeace 22 rfl rfl) (Nat.le_refl _) (Nat.le_refl _) (by omega) ⟨1, rfl, rfl, by omega, by first | exact Or.inl ⟨rfl, fun k a b c => u14 k a (by omega) c⟩ | exact Or.inr ⟨rfl, fun z => absurd (z x1 (by omega) (by omega) (by omega)) (by omega)⟩⟩
      · refine zj_aload_n (zdk ttX11_isPeace 5 rfl rfl) rfl (by decide) ?_
        refine zj_iload_n (zdk ttX11_isPeace 6 rfl rfl) rfl ?_
        refine zj_iload_n (zdk ttX11_isPeace 7 rfl rfl) rfl ?_
        refine zj_callV (av := [.inl p1, .inl x1]) (st := []) (zdk ttX11_isPeace 8 rfl rfl) mb_X11_has mv_RX11_309 (ci := 11) rfl rfl (k_M s0) rfl rfl (Nat.le_of_ble_eq_true rfl) (s_X11_has l h p1 x1 s0 (by omega) (by omega)) (rm_ok (by decide) (by decide)) (zq_i fun v19 h20 q18 => ?_)
        obtain ⟨rfl, ⟨rfl, b21⟩ | ⟨rfl, b21⟩⟩ := q18
        · refine zj_if_eq (t := 30) (zdk ttX11_isPeace 9 rfl rfl) (by decide) (by decide) (fun c22 => ?_) (fun c22 => ?_)
          · refine zj_iinc (L' := [some (.inr 0), some (.inl p1), some (.inl (x1 + 1))]) (zdk ttX11_isPeace 19 rfl rfl) rfl (by decide) rfl ?_
            refine zj_goto (t := 2) (zdk ttX11_isPeace 20 rfl rfl) (by decide) ?_
            exact ih16  (x1 + 1) (by omega) (fun k a b c => (Classical.em (k = x1)).elim (fun q => by rw [q] at c ⊢; omega) (fun q => u14 k a (by omega) c)) (by omega)
          · exact absurd c22 (by omega)
        · refine zj_if_eq (t := 30) (zdk ttX11_isPeace 9 rfl rfl) (by decide) (by decide) (fun c23 => ?_) (fun c23 => ?_)
          · exact absurd c23 (by omega)
          · refine zj_aload_n (zdk ttX11_isPeace 10 rfl rfl) rfl (by decide) ?_
            refine zj_getr (r := 25) (zdk ttX11_isPeace 11 rfl rfl) zf_RX11_86 rfl (k_M s0) (rfM_46 s0) ?_
            refine zj_iload_n (zdk ttX11_isPeace 12 rfl rfl) rfl ?_
            have b24 : -2147483648 ≤ (h.2 25 x1) ∧ (h.2 25 x1) ≤ 2147483647 := abM_25 s0 x1
            refine zj_iald (v := (h.2 25 x1)) (zdk ttX11_isPeace 13 rfl rfl) (kaM_25 s0) (by decide) (by omega) rfl ?_
            refine zj_iload_n (zdk ttX11_isPeace 14 rfl rfl) rfl ?_
            refine zj_iand (zdk ttX11_isPeace 15 rfl rfl) ?_
            have b25 := zand_r (h.2 25 x1) (b := p1) (by omega)
            refine zj_if_eq (t := 30) (zdk ttX11_isPeace 16 rfl rfl) (by decide) (by omega) (fun c26 => ?_) (fun c26 => ?_)
            · refine zj_iinc (L' := [some (.inr 0), some (.inl p1), some (.inl (x1 + 1))]) (zdk ttX11_isPeace 19 rfl rfl) rfl (by decide) rfl ?_
              refine zj_goto (t := 2) (zdk ttX11_isPeace 20 rfl rfl) (by decide) ?_
              exact ih16  (x1 + 1) (by omega) (fun k a b c => (Classical.em (k = x1)).elim (fun q => by rw [q] at c ⊢; omega) (fun q => u14 k a (by omega) c)) (by omega)
            · refine zj_iconst (zdk ttX11_isPeace 17 rfl rfl) ?_
              exact zj_zret rfl (zdk ttX11_isPeace 18 rfl rfl) (Nat.le_refl _) (Nat.le_refl _) (by omega) ⟨0, rfl, rfl, by omega, by first | exact Or.inl ⟨rfl, fun k a b c => u14 k a (by omega) c⟩ | exact Or.inr ⟨rfl, fun z => absurd (z x1 (by omega) (by omega) (by omega)) (by omega)⟩⟩
  exact lp12 _ 0 (by omega) (fun k a b => absurd b (by omega)) (Nat.lt_succ_self _)

abbrev q2_X11_ferry (h : zM) (p1 : Int) (p2 : Int) : Option zV → zM → Prop := zqi fun v h' => ((-2147483648) ≤ v ∧ v ≤ 2147483647) ∧ okM h' ∧ zfr [0] [26] h h' ∧ (fyd2 (fyG (h.2 25)) p1 p2 v)
set_option maxRecDepth 100000 in
set_option maxHeartbeats 4000000 in
theorem s2_X11_ferry (l : Launch) (h : zM) (p1 : Int) (p2 : Int) (s0 : okM h) (b_p1 : (-2147483648) ≤ p1 ∧ p1 ≤ 2147483647) (b_p2 : (-2147483648) ≤ p2 ∧ p2 ≤ 2147483647) : zT shM l yX11_ferry cX11_ferry 10 (some .int) (rmL 3) 0 0 [.inr 0, .inl p1, .inl p2] h (q2_X11_ferry h p1 p2) := by
  refine zT_of (by decide +kernel) (L0 := [some (.inr 0), some (.inl p1), some (.inl p2), none, none, none, none, none, none, none]) rfl (Nat.le_of_ble_eq_true rfl) ?_
  refine zj_aload_n (zdk ttX11_ferry 0 rfl rfl) rfl (by decide) ?_
  refine zj_iconst (zdk ttX11_ferry 1 rfl rfl) ?_
  refine zj_puti (zdk ttX11_ferry 2 rfl rfl) zf_RX11_120 rfl (k_M s0) (Or.inl zw_RX11_120) (k2 := 0) rfl (fun h1 e2 => ?_)
  refine zj_aload_n (zdk ttX11_ferry 3 rfl rfl) rfl (by decide) ?_
  refine zj_iload_n (zdk ttX11_ferry 4 rfl rfl) rfl ?_
  refine zj_iconst (zdk ttX11_ferry 5 rfl rfl) ?_
  refine zj_bipush (zdk ttX11_ferry 6 rfl rfl) (by decide) ?_
  have s3 : okM h1 := fwM_0 s0 e2 (by omega)
  refine zj_callV (av := [.inl p1, .inl 1, .inl 6]) (st := []) (zdk ttX11_ferry 7 rfl rfl) mb_X11_isIn mv_RX11_139 (ci := 11) rfl rfl (k_M s3) rfl rfl (Nat.le_of_ble_eq_true rfl) (s_X11_isIn l h1 p1 1 6 s3 (by omega) (by omega) (by omega)) (rm_ok (by decide) (by decide)) (zq_i fun v5 h6 q4 => ?_)
  obtain ⟨rfl, ⟨rfl, b7⟩ | ⟨rfl, b7⟩⟩ := q4
  · refine zj_if_eq (t := 26) (zdk ttX11_ferry 8 rfl rfl) (by decide) (by decide) (fun c8 => ?_) (fun c8 => ?_)
    · refine zj_iconst (zdk ttX11_ferry 15 rfl rfl) ?_
      have f9 : zfr [0] [26] h h1 := zfr_wf (zfr_r _ _ _) e2 rfl
      exact zj_iret rfl (zdk ttX11_ferry 16 rfl rfl) (Nat.le_refl _) (Nat.le_refl _) ⟨(-1), rfl, by omega, s3, f9, ⟨fun z => absurd z (by unfold fyZ; omega), fun _ => by omega⟩⟩
    · exact absurd c8 (by omega)
  · refine zj_if_eq (t := 26) (zdk ttX11_ferry 8 rfl rfl) (by decide) (by decide) (fun c10 => ?_) (fun c10 => ?_)
    · exact absurd c10 (by omega)
    · refine zj_aload_n (zdk ttX11_ferry 9 rfl rfl) rfl (by decide) ?_
      refine zj_iload_n (zdk ttX11_ferry 10 rfl rfl) rfl ?_
      refine zj_iconst (zdk ttX11_ferry 11 rfl rfl) ?_
      refine zj_iconst (zdk ttX11_ferry 12 rfl rfl) ?_
      refine zj_callV (av := [.inl p2, .inl 1, .inl 3]) (st := []) (zdk ttX11_ferry 13 rfl rfl) mb_X11_isIn mv_RX11_139 (ci := 11) rfl rfl (k_M s3) rfl rfl (Nat.le_of_ble_eq_true rfl) (s_X11_isIn l h1 p2 1 3 s3 (by omega) (by omega) (by omega)) (rm_ok (by decide) (by decide)) (zq_i fun v12 h13 q11 => ?_)
      obtain ⟨rfl, ⟨rfl, b14⟩ | ⟨rfl, b14⟩⟩ := q11
      · refine zj_if_ne (t := 28) (zdk ttX11_ferry 14 rfl rfl) (by decide) (by decide) (fun c15 => ?_) (fun c15 => ?_)
        · exact absurd c15 (by omega)
        · refine zj_iconst (zdk ttX11_ferry 15 rfl rfl) ?_
          have f16 : zfr [0] [26] h h1 := zfr_wf (zfr_r _ _ _) e2 rfl
          exact zj_iret rfl (zdk ttX11_ferry 16 rfl rfl) (Nat.le_refl _) (Nat.le_refl _) ⟨(-1), rfl, by omega, s3, f16, ⟨fun z => absurd z (by unfold fyZ; omega), fun _ => by omega⟩⟩
      · refine zj_if_ne (t := 28) (zdk ttX11_ferry 14 rfl rfl) (by decide) (by decide) (fun c17 => ?_) (fun c17 => ?_)
        · refine zj_iconst (zdk ttX11_ferry 17 rfl rfl) ?_
          refine zj_iload_n (zdk ttX11_ferry 18 rfl rfl) rfl ?_
          refine zj_ishl (zdk ttX11_ferry 19 rfl rfl) ?_
          have b18 := zshl_1 (n := p1) (a := 1) (b := 6) (lo := 2) (hi := 64) (by omega) (by decide) (by decide) (by decide)
          refine zj_iconst (zdk ttX11_ferry 20 rfl rfl) ?_
          refine zj_isub (zdk ttX11_ferry 21 rfl rfl) ?_
          refine zj_istore_n (L' := [some (.inr 0), some (.inl p1), some (.inl p2), some (.inl ((zshl 1 p1) - 1)), none, none, none, none, none, none]) (zdk ttX11_ferry 22 rfl rfl) (by decide) rfl ?_
          have hA9 : fyB ((zshl 1 p1) - 1) := fyB_s (by omega)
          have hb9 := fyB_b hA9
          have hE9 : ∀ s t, (fyE (fyG (h.2 25)) ((zshl 1 p1) - 1) p2) s t → 0 ≤ t ∧ t < 128 := fun s t e => by have := fyE_b hA9 e; omega
          refine zj_iconst (zdk ttX11_ferry 23 rfl rfl) ?_
          refine zj_istore (L' := [some (.inr 0), some (.inl p1), some (.inl p2), some (.inl ((zshl 1 p1) - 1)), some (.inl 0), none, none, none, none, none]) (zdk ttX11_ferry 24 rfl rfl) (by decide) rfl ?_
          have lp56 : ∀ (n37 : Nat) (x19 : Int) (h20 : zM), (0 ≤ x19 ∧ x19 ≤ 128) → okM h20 → zfr [0] [26] h h20 → (∀ j, 0 ≤ j → j < x19 → h20.2 26 j = 100000000) → (129 - x19).toNat < n37 → zJ shM l yX11_ferry cX11_ferry 10 (some .int) (rmL 3) 0 0 (q2_X11_ferry h p1 p2) 0 0 37 [some (.inr 0), some (.inl p1), some (.inl p2), some (.inl ((zshl 1 p1) - 1)), some (.inl x19), none, none, none, none, none] [] h20 := by
            intro n37
            induction n37 with
            | zero => intro x19 h20 b57 s21 f22 u58 m59; exact absurd m59 (Nat.not_lt_zero _)
            | succ n37 ih60 =>
              intro x19 h20 b57 s21 f22 u58 m59
              refine zj_iload (zdk ttX11_ferry 25 rfl rfl) rfl ?_
              refine zj_sipush (zdk ttX11_ferry 26 rfl rfl) (by decide) ?_
              refine zj_icmp_ge (t := 61) (zdk ttX11_ferry 27 rfl rfl) (by decide) (by omega) (by decide) (fun c61 => ?_) (fun c61 => ?_)
              · refine zj_aload_n (zdk ttX11_ferry 35 rfl rfl) rfl (by decide) ?_
                refine zj_getr (r := 26) (zdk ttX11_ferry 36 rfl rfl) zf_RX11_89 rfl (k_M s21) (rfM_47 s21) ?_
                refine zj_iconst (zdk ttX11_ferry 37 rfl rfl) ?_
                refine zj_iconst (zdk ttX11_ferry 38 rfl rfl) ?_
                refine zj_iast (zdk ttX11_ferry 39 rfl rfl) (kaM_26 s21) (by decide) (by omega) (fun h62 e63 => ?_)
                refine zj_iconst (zdk ttX11_ferry 40 rfl rfl) ?_
                refine zj_istore (L' := [some (.inr 0), some (.inl p1), some (.inl p2), some (.inl ((zshl 1 p1) - 1)), some (.inl 0), none, none, none, none, none]) (zdk ttX11_ferry 41 rfl rfl) (by decide) rfl ?_
                have lp376 : ∀ (n71 : Nat) (x64 : Int) (h65 : zM), (0 ≤ x64 ∧ x64 ≤ 128) → okM h65 → zfr [0] [26] h h65 → (fyJ (fyE (fyG (h.2 25)) ((zshl 1 p1) - 1) p2) (h65.2 26) x64 x64) → (129 - x64).toNat < n71 → zJ shM l yX11_ferry cX11_ferry 10 (some .int) (rmL 3) 0 0 (q2_X11_ferry h p1 p2) 0 0 71 [some (.inr 0), some (.inl p1), some (.inl p2), some (.inl ((zshl 1 p1) - 1)), some (.inl x64), none, none, none, none, none] [] h65 := by
                  intro n71
                  induction n71 with
                  | zero => intro x64 h65 b377 s66 f67 u378 m379; exact absurd m379 (Nat.not_lt_zero _)
                  | succ n71 ih380 =>
                    intro x64 h65 b377 s66 f67 u378 m379
                    refine zj_iload (zdk ttX11_ferry 42 rfl rfl) rfl ?_
                    refine zj_sipush (zdk ttX11_ferry 43 rfl rfl) (by decide) ?_
                    refine zj_icmp_ge (t := 238) (zdk ttX11_ferry 44 rfl rfl) (by decide) (by omega) (by decide) (fun c381 => ?_) (fun c381 => ?_)
                    · refine zj_aload_n (zdk ttX11_ferry 130 rfl rfl) rfl (by decide) ?_
                      refine zj_getr (r := 26) (zdk ttX11_ferry 131 rfl rfl) zf_RX11_89 rfl (k_M s66) (rfM_47 s66) ?_
                      refine zj_bipush (zdk ttX11_ferry 132 rfl rfl) (by decide) ?_
                      refine zj_iload_n (zdk ttX11_ferry 133 rfl rfl) rfl ?_
                      refine zj_iadd (zdk ttX11_ferry 134 rfl rfl) ?_
                      have b382 : -2147483648 ≤ (h65.2 26 (64 + ((zshl 1 p1) - 1))) ∧ (h65.2 26 (64 + ((zshl 1 p1) - 1))) ≤ 2147483647 := abM_26 s66 (64 + ((zshl 1 p1) - 1))
                      refine zj_iald (v := (h65.2 26 (64 + ((zshl 1 p1) - 1)))) (zdk ttX11_ferry 135 rfl rfl) (kaM_26 s66) (by decide) (by omega) rfl ?_
                      refine zj_ldc_w (z := 100000000) (zdk ttX11_ferry 136 rfl rfl) wc_RX11_411 ?_
                      refine zj_icmp_ne (t := 257) (zdk ttX11_ferry 137 rfl rfl) (by decide) (by omega) (by decide) (fun c383 => ?_) (fun c383 => ?_)
                      · refine zj_aload_n (zdk ttX11_ferry 140 rfl rfl) rfl (by decide) ?_
                        refine zj_getr (r := 26) (zdk ttX11_ferry 141 rfl rfl) zf_RX11_89 rfl (k_M s66) (rfM_47 s66) ?_
                        refine zj_bipush (zdk ttX11_ferry 142 rfl rfl) (by decide) ?_
                        refine zj_iload_n (zdk ttX11_ferry 143 rfl rfl) rfl ?_
                        refine zj_iadd (zdk ttX11_ferry 144 rfl rfl) ?_
                        refine zj_iald (v := (h65.2 26 (64 + ((zshl 1 p1) - 1)))) (zdk ttX11_ferry 145 rfl rfl) (kaM_26 s66) (by decide) (by omega) rfl ?_
                        exact zj_iret rfl (zdk ttX11_ferry 146 rfl rfl) (Nat.le_refl _) (Nat.le_refl _) ⟨(h65.2 26 (64 + ((zshl 1 p1) - 1))), rfl, by omega, s66, f67, ⟨fun _ => fyA2_e (x := h65.2 26) (by omega) (by have j9 := u378; rw [show x64 = 128 by omega] at j9; exact j9) (fun z => by omega) (fun z => by omega), fun z => absurd (by unfold fyZ; omega) z⟩⟩
                      · refine zj_iconst (zdk ttX11_ferry 138 rfl rfl) ?_
                        refine zj_goto (t := 266) (zdk ttX11_ferry 139 rfl rfl) (by decide) ?_
                        exact zj_iret rfl (zdk ttX11_ferry 146 rfl rfl) (Nat.le_refl _) (Nat.le_refl _) ⟨(-1), rfl, by omega, s66, f67, ⟨fun _ => fyA2_e (x := h65.2 26) (by omega) (by have j9 := u378; rw [show x64 = 128 by omega] at j9; exact j9) (fun z => by omega) (fun z => by omega), fun z => absurd (by unfold fyZ; omega) z⟩⟩
                    · refine zj_iconst (zdk ttX11_ferry 45 rfl rfl) ?_
                      refine zj_istore (L' := [some (.inr 0), some (.inl p1), some (.inl p2), some (.inl ((zshl 1 p1) - 1)), some (.inl x64), some (.inl 0), none, none, none, none]) (zdk ttX11_ferry 46 rfl rfl) (by decide) rfl ?_
                      have lp536 : ∀ (n82 : Nat) (x384 : Int) (h385 : zM), (0 ≤ x384 ∧ x384 ≤ 64) → okM h385 → zfr [0] [26] h h385 → (fyJ (fyE (fyG (h.2 25)) ((zshl 1 p1) - 1) p2) (h385.2 26) x64 (x64 + 1)) → (fyO (fyG (h.2 25)) ((zshl 1 p1) - 1) p2 (h385.2 26) x64 x384) → (x384 ≤ ((zshl 1 p1) - 1) + 1) → (65 - x384).toNat < n82 → zJ shM l yX11_ferry cX11_ferry 10 (some .int) (rmL 3) 0 0 (q2_X11_ferry h p1 p2) 0 0 82 [some (.inr 0), some (.inl p1), some (.inl p2), some (.inl ((zshl 1 p1) - 1)), some (.inl x64), some (.inl x384), none, none, none, none] [] h385 := by
                        intro n82
                        induction n82 with
                        | zero => intro x384 h385 b537 s386 f387 u538 u539 u540 m541; exact absurd m541 (Nat.not_lt_zero _)
                        | succ n82 ih542 =>
                          intro x384 h385 b537 s386 f387 u538 u539 u540 m541
                          refine zj_iload (zdk ttX11_ferry 47 rfl rfl) rfl ?_
                          refine zj_iload_n (zdk ttX11_ferry 48 rfl rfl) rfl ?_
                          refine zj_icmp_gt (t := 232) (zdk ttX11_ferry 49 rfl rfl) (by decide) (by omega) (by omega) (fun c543 => ?_) (fun c543 => ?_)
                          · refine zj_iinc (L' := [some (.inr 0), some (.inl p1), some (.inl p2), some (.inl ((zshl 1 p1) - 1)), some (.inl (x64 + 1)), some (.inl x384), none, none, none, none]) (zdk ttX11_ferry 128 rfl rfl) rfl (by decide) rfl ?_
                            refine zj_goto (t := 71) (zdk ttX11_ferry 129 rfl rfl) (by decide) ?_
                            refine zj_kill (k := 5) (L' := [some (.inr 0), some (.inl p1), some (.inl p2), some (.inl ((zshl 1 p1) - 1)), some (.inl (x64 + 1)), none, none, none, none, none]) rfl ?_
                            exact ih380  (x64 + 1) h385 (by omega) s386 f387 (fyJ_n hE9 (by omega) u538 (fyO_e u539 (by omega))) (by omega)
                          · refine zj_iload (zdk ttX11_ferry 50 rfl rfl) rfl ?_
                            refine zj_iconst (zdk ttX11_ferry 51 rfl rfl) ?_
                            refine zj_iremP (zdk ttX11_ferry 52 rfl rfl) (by omega) (by omega) ?_
                            refine zj_istore (L' := [some (.inr 0), some (.inl p1), some (.inl p2), some (.inl ((zshl 1 p1) - 1)), some (.inl x64), some (.inl x384), some (.inl (x64 % 2)), none, none, none]) (zdk ttX11_ferry 53 rfl rfl) (by decide) rfl ?_
                            refine zj_aload_n (zdk ttX11_ferry 54 rfl rfl) rfl (by decide) ?_
                            refine zj_getr (r := 26) (zdk ttX11_ferry 55 rfl rfl) zf_RX11_89 rfl (k_M s386) (rfM_47 s386) ?_
                            refine zj_bipush (zdk ttX11_ferry 56 rfl rfl) (by decide) ?_
                            refine zj_iload (zdk ttX11_ferry 57 rfl rfl) rfl ?_
                            refine zj_imul (zdk ttX11_ferry 58 rfl rfl) ?_
                            refine zj_iload (zdk ttX11_ferry 59 rfl rfl) rfl ?_
                            refine zj_iadd (zdk ttX11_ferry 60 rfl rfl) ?_
                            have b544 : -2147483648 ≤ (h385.2 26 ((64 * (x64 % 2)) + x384)) ∧ (h385.2 26 ((64 * (x64 % 2)) + x384)) ≤ 2147483647 := abM_26 s386 ((64 * (x64 % 2)) + x384)
                            refine zj_iald (v := (h385.2 26 ((64 * (x64 % 2)) + x384))) (zdk ttX11_ferry 61 rfl rfl) (kaM_26 s386) (by decide) (by omega) rfl ?_
                            refine zj_iload (zdk ttX11_ferry 62 rfl rfl) rfl ?_
                            refine zj_icmp_eq (t := 115) (zdk ttX11_ferry 63 rfl rfl) (by decide) (by omega) (by omega) (fun c545 => ?_) (fun c545 => ?_)
                            · refine zj_iload (zdk ttX11_ferry 65 rfl rfl) rfl ?_
                              refine zj_if_ne (t := 129) (zdk ttX11_ferry 66 rfl rfl) (by decide) (by omega) (fun c546 => ?_) (fun c546 => ?_)
                              · refine zj_iload (zdk ttX11_ferry 73 rfl rfl) rfl ?_
                                refine zj_istore (L' := [some (.inr 0), some (.inl p1), some (.inl p2), some (.inl ((zshl 1 p1) - 1)), some (.inl x64), some (.inl x384), some (.inl (x64 % 2)), some (.inl x384), none, none]) (zdk ttX11_ferry 74 rfl rfl) (by decide) rfl ?_
                                refine zj_iload (zdk ttX11_ferry 75 rfl rfl) rfl ?_
                                refine zj_istore (L' := [some (.inr 0), some (.inl p1), some (.inl p2), some (.inl ((zshl 1 p1) - 1)), some (.inl x64), some (.inl x384), some (.inl (x64 % 2)), some (.inl x384), some (.inl x384), none]) (zdk ttX11_ferry 76 rfl rfl) (by decide) rfl ?_
                                have lp579 : ∀ (n137 : Nat) (x547 : Int) (h548 : zM), (-1 ≤ x547 ∧ x547 ≤ 63) → okM h548 → zfr [0] [26] h h548 → (fyJ (fyE (fyG (h.2 25)) ((zshl 1 p1) - 1) p2) (h548.2 26) x64 (x64 + 1)) → (fyO (fyG (h.2 25)) ((zshl 1 p1) - 1) p2 (h548.2 26) x64 x384) → (fyM (fyG (h.2 25)) ((zshl 1 p1) - 1) p2 (h548.2 26) (64 * (x64 % 2) + x384) x547) → (h548.2 26 (64 * (x64 % 2) + x384) = x64) → (0 ≤ x547 → zand x547 (zxor x384 (-1)) = 0) → (x547 + 1).toNat < n137 → zJ shM l yX11_ferry cX11_ferry 10 (some .int) (rmL 3) 0 0 (q2_X11_ferry h p1 p2) 0 0 137 [some (.inr 0), some (.inl p1), some (.inl p2), some (.inl ((zshl 1 p1) - 1)), some (.inl x64), some (.inl x384), some (.inl (x64 % 2)), some (.inl x384), some (.inl x547), none] [] h548 := by
                                  intro n137
                                  induction n137 with
                                  | zero => intro x547 h548 b580 s549 f550 u581 u582 u583 u584 u585 m586; exact absurd m586 (Nat.not_lt_zero _)
                                  | succ n137 ih587 =>
                                    intro x547 h548 b580 s549 f550 u581 u582 u583 u584 u585 m586
                                    refine zj_iload (zdk ttX11_ferry 77 rfl rfl) rfl ?_
                                    refine zj_if_lt (t := 226) (zdk ttX11_ferry 78 rfl rfl) (by decide) (by omega) (fun c588 => ?_) (fun c588 => ?_)
                                    · refine zj_iinc (L' := [some (.inr 0), some (.inl p1), some (.inl p2), some (.inl ((zshl 1 p1) - 1)), some (.inl x64), some (.inl (x384 + 1)), some (.inl (x64 % 2)), some (.inl x384), some (.inl x547), none]) (zdk ttX11_ferry 126 rfl rfl) rfl (by decide) rfl ?_
                                      refine zj_goto (t := 82) (zdk ttX11_ferry 127 rfl rfl) (by decide) ?_
                                      refine zj_kill (k := 6) (L' := [some (.inr 0), some (.inl p1), some (.inl p2), some (.inl ((zshl 1 p1) - 1)), some (.inl x64), some (.inl (x384 + 1)), none, some (.inl x384), some (.inl x547), none]) rfl ?_
                                      refine zj_kill (k := 7) (L' := [some (.inr 0), some (.inl p1), some (.inl p2), some (.inl ((zshl 1 p1) - 1)), some (.inl x64), some (.inl (x384 + 1)), none, none, some (.inl x547), none]) rfl ?_
                                      refine zj_kill (k := 8) (L' := [some (.inr 0), some (.inl p1), some (.inl p2), some (.inl ((zshl 1 p1) - 1)), some (.inl x64), some (.inl (x384 + 1)), none, none, none, none]) rfl ?_
                                      exact ih542  (x384 + 1) h548 (by omega) s549 f550 u581 (fyO_s (s0 := (64 * (x64 % 2) + x384)) u582 (fun s t a c e q => fyM_e u583 (by omega) t (by rw [q] at e; exact e)) (fun s t a c e => by have p9 := fyJ_p hA9 (by omega) u581 (s := s) (by have := e.1; omega) a; omega)) (by omega) (by omega)
                                    · refine zj_bipush (zdk ttX11_ferry 79 rfl rfl) (by decide) ?_
                                      refine zj_iconst (zdk ttX11_ferry 80 rfl rfl) ?_
                                      refine zj_iload (zdk ttX11_ferry 81 rfl rfl) rfl ?_
                                      refine zj_isub (zdk ttX11_ferry 82 rfl rfl) ?_
                                      refine zj_imul (zdk ttX11_ferry 83 rfl rfl) ?_
                                      refine zj_iload (zdk ttX11_ferry 84 rfl rfl) rfl ?_
                                      refine zj_iload (zdk ttX11_ferry 85 rfl rfl) rfl ?_
                                      refine zj_ixor (zdk ttX11_ferry 86 rfl rfl) ?_
                                      have b589 := zxor_k (a := x384) (b := x547) (K := 64) 6 (by decide) (by decide) (by omega) (by omega)
                                      refine zj_iadd (zdk ttX11_ferry 87 rfl rfl) ?_
                                      refine zj_istore (L' := [some (.inr 0), some (.inl p1), some (.inl p2), some (.inl ((zshl 1 p1) - 1)), some (.inl x64), some (.inl x384), some (.inl (x64 % 2)), some (.inl x384), some (.inl x547), some (.inl ((64 * (1 - (x64 % 2))) + (zxor x384 x547)))]) (zdk ttX11_ferry 88 rfl rfl) (by decide) rfl ?_
                                      refine zj_aload_n (zdk ttX11_ferry 89 rfl rfl) rfl (by decide) ?_
                                      refine zj_iload (zdk ttX11_ferry 90 rfl rfl) rfl ?_
                                      refine zj_callV (av := [.inl x547]) (st := []) (zdk ttX11_ferry 91 rfl rfl) mb_X11_onesOf mv_RX11_316 (ci := 11) rfl rfl (k_M s549) rfl rfl (Nat.le_of_ble_eq_true rfl) (s2_X11_onesOf l h548 x547 s549 (by omega)) (rm_ok (by decide) (by decide)) (zq_i fun v591 h592 q590 => ?_)
                                      obtain ⟨rfl, b593, u594⟩ := q590
                                      refine zj_iload_n (zdk ttX11_ferry 92 rfl rfl) rfl ?_
                                      refine zj_icmp_gt (t := 205) (zdk ttX11_ferry 93 rfl rfl) (by decide) (by omega) (by omega) (fun c595 => ?_) (fun c595 => ?_)
                                      · refine zj_iload (zdk ttX11_ferry 115 rfl rfl) rfl ?_
                                        refine zj_if_ne (t := 214) (zdk ttX11_ferry 116 rfl rfl) (by decide) (by omega) (fun c596 => ?_) (fun c596 => ?_)
                                        · refine zj_iload (zdk ttX11_ferry 119 rfl rfl) rfl ?_
                                          refine zj_iconst (zdk ttX11_ferry 120 rfl rfl) ?_
                                          refine zj_isub (zdk ttX11_ferry 121 rfl rfl) ?_
                                          refine zj_iload (zdk ttX11_ferry 122 rfl rfl) rfl ?_
                                          refine zj_iand (zdk ttX11_ferry 123 rfl rfl) ?_
                                          have b597 := And.intro (zand_l (a := (x547 - 1)) (by omega) x384) (zand_r (x547 - 1) (b := x384) (by omega))
                                          refine zj_istore (L' := [some (.inr 0), some (.inl p1), some (.inl p2), some (.inl ((zshl 1 p1) - 1)), some (.inl x64), some (.inl x384), some (.inl (x64 % 2)), some (.inl x384), some (.inl (zand (x547 - 1) x384)), some (.inl ((64 * (1 - (x64 % 2))) + (zxor x384 x547)))]) (zdk ttX11_ferry 124 rfl rfl) (by decide) rfl ?_
                                          refine zj_goto (t := 137) (zdk ttX11_ferry 125 rfl rfl) (by decide) ?_
                                          refine zj_kill (k := 9) (L' := [some (.inr 0), some (.inl p1), some (.inl p2), some (.inl ((zshl 1 p1) - 1)), some (.inl x64), some (.inl x384), some (.inl (x64 % 2)), some (.inl x384), some (.inl (zand (x547 - 1) x384)), none]) rfl ?_
                                          have f599 : x384 = fyF ((zshl 1 p1) - 1) (64 * (x64 % 2) + x384) := by first | exact fyF_0 (by omega) (by omega) | exact fyF_1 (by omega) (by omega)
                                          have r600 : 0 ≤ (64 * (x64 % 2) + x384) ∧ (64 * (x64 % 2) + x384) < 128 ∧ (64 * (x64 % 2) + x384) % 64 ≤ ((zshl 1 p1) - 1) := by omega
                                          have f599b := fyF_b hA9 r600
                                          have f599l := (fyx (o := x384) (l := x547) (by omega) (by omega) (u585 (by omega))).2
                                          have n598 : fyN (64 * (x64 % 2) + x384) x547 = ((64 * (1 - (x64 % 2))) + (zxor x384 x547)) := fyN_e (o := x384) (by omega) (by first | exact Or.inl ⟨by omega, by omega⟩ | exact Or.inr ⟨by omega, by omega⟩)
                                          exact ih587  (zand (x547 - 1) x384) h548 (by omega) s549 f550 u581 u582 (by have p9 := fyM_s hA9 r600 u583 (by omega) (by rw [← f599]; exact u585 (by omega)) (fun e9 => by obtain ⟨ea, eb, ec, ed⟩ := e9; rw [n598]; rw [← f599] at eb ed; intro z9; first | omega | exact absurd ed (by rcases u567 with k9 | k9; exact absurd k9.1 (by omega); exact k9.2)); rw [← f599] at p9; exact p9) u584 (fun _ => (fyg (by omega) (by omega)).2) (by omega)
                                        · refine zj_iconst (zdk ttX11_ferry 117 rfl rfl) ?_
                                          refine zj_goto (t := 221) (zdk ttX11_ferry 118 rfl rfl) (by decide) ?_
                                          refine zj_istore (L' := [some (.inr 0), some (.inl p1), some (.inl p2), some (.inl ((zshl 1 p1) - 1)), some (.inl x64), some (.inl x384), some (.inl (x64 % 2)), some (.inl x384), some (.inl (-1)), some (.inl ((64 * (1 - (x64 % 2))) + (zxor x384 x547)))]) (zdk ttX11_ferry 124 rfl rfl) (by decide) rfl ?_
                                          refine zj_goto (t := 137) (zdk ttX11_ferry 125 rfl rfl) (by decide) ?_
                                          refine zj_kill (k := 9) (L' := [some (.inr 0), some (.inl p1), some (.inl p2), some (.inl ((zshl 1 p1) - 1)), some (.inl x64), some (.inl x384), some (.inl (x64 % 2)), some (.inl x384), some (.inl (-1)), none]) rfl ?_
                                          have f602 : x384 = fyF ((zshl 1 p1) - 1) (64 * (x64 % 2) + x384) := by first | exact fyF_0 (by omega) (by omega) | exact fyF_1 (by omega) (by omega)
                                          have r603 : 0 ≤ (64 * (x64 % 2) + x384) ∧ (64 * (x64 % 2) + x384) < 128 ∧ (64 * (x64 % 2) + x384) % 64 ≤ ((zshl 1 p1) - 1) := by omega
                                          have f602b := fyF_b hA9 r603
                                          have f602l := (fyx (o := x384) (l := x547) (by omega) (by omega) (u585 (by omega))).2
                                          have n601 : fyN (64 * (x64 % 2) + x384) x547 = ((64 * (1 - (x64 % 2))) + (zxor x384 x547)) := fyN_e (o := x384) (by omega) (by first | exact Or.inl ⟨by omega, by omega⟩ | exact Or.inr ⟨by omega, by omega⟩)
                                          exact ih587  (-1) h548 (by omega) s549 f550 u581 u582 (by have p9 : fyM (fyG (h.2 25)) ((zshl 1 p1) - 1) p2 (h548.2 26) (64 * (x64 % 2) + x384) x547 := u583; have h9 : fyL (fyG (h.2 25)) ((zshl 1 p1) - 1) p2 (64 * (x64 % 2) + x384) x547 → ¬ h548.2 26 (fyN (64 * (x64 % 2) + x384) x547) = 100000000 := (fun e9 => by obtain ⟨ea, eb, ec, ed⟩ := e9; rw [n601]; rw [← f602] at eb ed; intro z9; first | omega | exact absurd ed (by rcases u567 with k9 | k9; exact absurd k9.1 (by omega); exact k9.2)); rw [show x547 = 0 by omega] at p9 h9; exact fyM_z p9 h9) u584 (fun z => absurd z (by omega)) (by omega)
                                      · refine zj_aload_n (zdk ttX11_ferry 94 rfl rfl) rfl (by decide) ?_
                                        refine zj_iload (zdk ttX11_ferry 95 rfl rfl) rfl ?_
                                        refine zj_iload (zdk ttX11_ferry 96 rfl rfl) rfl ?_
                                        refine zj_iconst (zdk ttX11_ferry 97 rfl rfl) ?_
                                        refine zj_ixor (zdk ttX11_ferry 98 rfl rfl) ?_
                                        have b604 := zxor_in x547 (-1)
                                        refine zj_iand (zdk ttX11_ferry 99 rfl rfl) ?_
                                        have b605 := zand_l (a := x384) (by omega) (zxor x547 (-1))
                                        refine zj_callV (av := [.inl (zand x384 (zxor x547 (-1)))]) (st := []) (zdk ttX11_ferry 100 rfl rfl) mb_X11_isPeace mv_RX11_412 (ci := 11) rfl rfl (k_M s549) rfl rfl (Nat.le_of_ble_eq_true rfl) (s2_X11_isPeace l h548 (zand x384 (zxor x547 (-1))) s549 (by omega)) (rm_ok (by decide) (by decide)) (zq_i fun v607 h608 q606 => ?_)
                                        obtain ⟨rfl, b609, u610⟩ := q606
                                        have u611 : (v607 = 1 ∧ fyG (h.2 25) (zand x384 (zxor x547 (-1)))) ∨ (v607 = 0 ∧ ¬ fyG (h.2 25) (zand x384 (zxor x547 (-1)))) := by have z8 := u610; rw [show h548.2 25 = h.2 25 from funext fun i9 => (zfr_a f550 rfl (by decide))] at z8; exact z8
                                        refine zj_if_eq (t := 205) (zdk ttX11_ferry 101 rfl rfl) (by decide) (by omega) (fun c612 => ?_) (fun c612 => ?_)
                                        · refine zj_iload (zdk ttX11_ferry 115 rfl rfl) rfl ?_
                                          refine zj_if_ne (t := 214) (zdk ttX11_ferry 116 rfl rfl) (by decide) (by omega) (fun c613 => ?_) (fun c613 => ?_)
                                          · refine zj_iload (zdk ttX11_ferry 119 rfl rfl) rfl ?_
                                            refine zj_iconst (zdk ttX11_ferry 120 rfl rfl) ?_
                                            refine zj_isub (zdk ttX11_ferry 121 rfl rfl) ?_
                                            refine zj_iload (zdk ttX11_ferry 122 rfl rfl) rfl ?_
                                            refine zj_iand (zdk ttX11_ferry 123 rfl rfl) ?_
                                            have b614 := And.intro (zand_l (a := (x547 - 1)) (by omega) x384) (zand_r (x547 - 1) (b := x384) (by omega))
                                            refine zj_istore (L' := [some (.inr 0), some (.inl p1), some (.inl p2), some (.inl ((zshl 1 p1) - 1)), some (.inl x64), some (.inl x384), some (.inl (x64 % 2)), some (.inl x384), some (.inl (zand (x547 - 1) x384)), some (.inl ((64 * (1 - (x64 % 2))) + (zxor x384 x547)))]) (zdk ttX11_ferry 124 rfl rfl) (by decide) rfl ?_
                                            refine zj_goto (t := 137) (zdk ttX11_ferry 125 rfl rfl) (by decide) ?_
                                            refine zj_kill (k := 9) (L' := [some (.inr 0), some (.inl p1), some (.inl p2), some (.inl ((zshl 1 p1) - 1)), some (.inl x64), some (.inl x384), some (.inl (x64 % 2)), some (.inl x384), some (.inl (zand (x547 - 1) x384)), none]) rfl ?_
                                            have f616 : x384 = fyF ((zshl 1 p1) - 1) (64 * (x64 % 2) + x384) := by first | exact fyF_0 (by omega) (by omega) | exact fyF_1 (by omega) (by omega)
                                            have r617 : 0 ≤ (64 * (x64 % 2) + x384) ∧ (64 * (x64 % 2) + x384) < 128 ∧ (64 * (x64 % 2) + x384) % 64 ≤ ((zshl 1 p1) - 1) := by omega
                                            have f616b := fyF_b hA9 r617
                                            have f616l := (fyx (o := x384) (l := x547) (by omega) (by omega) (u585 (by omega))).2
                                            have n615 : fyN (64 * (x64 % 2) + x384) x547 = ((64 * (1 - (x64 % 2))) + (zxor x384 x547)) := fyN_e (o := x384) (by omega) (by first | exact Or.inl ⟨by omega, by omega⟩ | exact Or.inr ⟨by omega, by omega⟩)
                                            exact ih587  (zand (x547 - 1) x384) h548 (by omega) s549 f550 u581 u582 (by have p9 := fyM_s hA9 r617 u583 (by omega) (by rw [← f616]; exact u585 (by omega)) (fun e9 => by obtain ⟨ea, eb, ec, ed⟩ := e9; rw [n615]; rw [← f616] at eb ed; intro z9; first | omega | exact absurd ed (by rcases u611 with k9 | k9; exact absurd k9.1 (by omega); exact k9.2)); rw [← f616] at p9; exact p9) u584 (fun _ => (fyg (by omega) (by omega)).2) (by omega)
                                          · refine zj_iconst (zdk ttX11_ferry 117 rfl rfl) ?_
                                            refine zj_goto (t := 221) (zdk ttX11_ferry 118 rfl rfl) (by decide) ?_
                                            refine zj_istore (L' := [some (.inr 0), some (.inl p1), some (.inl p2), some (.inl ((zshl 1 p1) - 1)), some (.inl x64), some (.inl x384), some (.inl (x64 % 2)), some (.inl x384), some (.inl (-1)), some (.inl ((64 * (1 - (x64 % 2))) + (zxor x384 x547)))]) (zdk ttX11_ferry 124 rfl rfl) (by decide) rfl ?_
                                            refine zj_goto (t := 137) (zdk ttX11_ferry 125 rfl rfl) (by decide) ?_
                                            refine zj_kill (k := 9) (L' := [some (.inr 0), some (.inl p1), some (.inl p2), some (.inl ((zshl 1 p1) - 1)), some (.inl x64), some (.inl x384), some (.inl (x64 % 2)), some (.inl x384), some (.inl (-1)), none]) rfl ?_
                                            have f619 : x384 = fyF ((zshl 1 p1) - 1) (64 * (x64 % 2) + x384) := by first | exact fyF_0 (by omega) (by omega) | exact fyF_1 (by omega) (by omega)
                                            have r620 : 0 ≤ (64 * (x64 % 2) + x384) ∧ (64 * (x64 % 2) + x384) < 128 ∧ (64 * (x64 % 2) + x384) % 64 ≤ ((zshl 1 p1) - 1) := by omega
                                            have f619b := fyF_b hA9 r620
                                            have f619l := (fyx (o := x384) (l := x547) (by omega) (by omega) (u585 (by omega))).2
                                            have n618 : fyN (64 * (x64 % 2) + x384) x547 = ((64 * (1 - (x64 % 2))) + (zxor x384 x547)) := fyN_e (o := x384) (by omega) (by first | exact Or.inl ⟨by omega, by omega⟩ | exact Or.inr ⟨by omega, by omega⟩)
                                            exact ih587  (-1) h548 (by omega) s549 f550 u581 u582 (by have p9 : fyM (fyG (h.2 25)) ((zshl 1 p1) - 1) p2 (h548.2 26) (64 * (x64 % 2) + x384) x547 := u583; have h9 : fyL (fyG (h.2 25)) ((zshl 1 p1) - 1) p2 (64 * (x64 % 2) + x384) x547 → ¬ h548.2 26 (fyN (64 * (x64 % 2) + x384) x547) = 100000000 := (fun e9 => by obtain ⟨ea, eb, ec, ed⟩ := e9; rw [n618]; rw [← f619] at eb ed; intro z9; first | omega | exact absurd ed (by rcases u611 with k9 | k9; exact absurd k9.1 (by omega); exact k9.2)); rw [show x547 = 0 by omega] at p9 h9; exact fyM_z p9 h9) u584 (fun z => absurd z (by omega)) (by omega)
                                        · refine zj_aload_n (zdk ttX11_ferry 102 rfl rfl) rfl (by decide) ?_
                                          refine zj_getr (r := 26) (zdk ttX11_ferry 103 rfl rfl) zf_RX11_89 rfl (k_M s549) (rfM_47 s549) ?_
                                          refine zj_iload (zdk ttX11_ferry 104 rfl rfl) rfl ?_
                                          have b621 : -2147483648 ≤ (h548.2 26 ((64 * (1 - (x64 % 2))) + (zxor x384 x547))) ∧ (h548.2 26 ((64 * (1 - (x64 % 2))) + (zxor x384 x547))) ≤ 2147483647 := abM_26 s549 ((64 * (1 - (x64 % 2))) + (zxor x384 x547))
                                          refine zj_iald (v := (h548.2 26 ((64 * (1 - (x64 % 2))) + (zxor x384 x547)))) (zdk ttX11_ferry 105 rfl rfl) (kaM_26 s549) (by decide) (by omega) rfl ?_
                                          refine zj_ldc_w (z := 100000000) (zdk ttX11_ferry 106 rfl rfl) wc_RX11_411 ?_
                                          refine zj_icmp_ne (t := 205) (zdk ttX11_ferry 107 rfl rfl) (by decide) (by omega) (by decide) (fun c622 => ?_) (fun c622 => ?_)
                                          · refine zj_iload (zdk ttX11_ferry 115 rfl rfl) rfl ?_
                                            refine zj_if_ne (t := 214) (zdk ttX11_ferry 116 rfl rfl) (by decide) (by omega) (fun c623 => ?_) (fun c623 => ?_)
                                            · refine zj_iload (zdk ttX11_ferry 119 rfl rfl) rfl ?_
                                              refine zj_iconst (zdk ttX11_ferry 120 rfl rfl) ?_
                                              refine zj_isub (zdk ttX11_ferry 121 rfl rfl) ?_
                                              refine zj_iload (zdk ttX11_ferry 122 rfl rfl) rfl ?_
                                              refine zj_iand (zdk ttX11_ferry 123 rfl rfl) ?_
                                              have b624 := And.intro (zand_l (a := (x547 - 1)) (by omega) x384) (zand_r (x547 - 1) (b := x384) (by omega))
                                              refine zj_istore (L' := [some (.inr 0), some (.inl p1), some (.inl p2), some (.inl ((zshl 1 p1) - 1)), some (.inl x64), some (.inl x384), some (.inl (x64 % 2)), some (.inl x384), some (.inl (zand (x547 - 1) x384)), some (.inl ((64 * (1 - (x64 % 2))) + (zxor x384 x547)))]) (zdk ttX11_ferry 124 rfl rfl) (by decide) rfl ?_
                                              refine zj_goto (t := 137) (zdk ttX11_ferry 125 rfl rfl) (by decide) ?_
                                              refine zj_kill (k := 9) (L' := [some (.inr 0), some (.inl p1), some (.inl p2), some (.inl ((zshl 1 p1) - 1)), some (.inl x64), some (.inl x384), some (.inl (x64 % 2)), some (.inl x384), some (.inl (zand (x547 - 1) x384)), none]) rfl ?_
                                              have f626 : x384 = fyF ((zshl 1 p1) - 1) (64 * (x64 % 2) + x384) := by first | exact fyF_0 (by omega) (by omega) | exact fyF_1 (by omega) (by omega)
                                              have r627 : 0 ≤ (64 * (x64 % 2) + x384) ∧ (64 * (x64 % 2) + x384) < 128 ∧ (64 * (x64 % 2) + x384) % 64 ≤ ((zshl 1 p1) - 1) := by omega
                                              have f626b := fyF_b hA9 r627
                                              have f626l := (fyx (o := x384) (l := x547) (by omega) (by omega) (u585 (by omega))).2
                                              have n625 : fyN (64 * (x64 % 2) + x384) x547 = ((64 * (1 - (x64 % 2))) + (zxor x384 x547)) := fyN_e (o := x384) (by omega) (by first | exact Or.inl ⟨by omega, by omega⟩ | exact Or.inr ⟨by omega, by omega⟩)
                                              exact ih587  (zand (x547 - 1) x384) h548 (by omega) s549 f550 u581 u582 (by have p9 := fyM_s hA9 r627 u583 (by omega) (by rw [← f626]; exact u585 (by omega)) (fun e9 => by obtain ⟨ea, eb, ec, ed⟩ := e9; rw [n625]; rw [← f626] at eb ed; intro z9; first | omega | exact absurd ed (by rcases u611 with k9 | k9; exact absurd k9.1 (by omega); exact k9.2)); rw [← f626] at p9; exact p9) u584 (fun _ => (fyg (by omega) (by omega)).2) (by omega)
                                            · refine zj_iconst (zdk ttX11_ferry 117 rfl rfl) ?_
                                              refine zj_goto (t := 221) (zdk ttX11_ferry 118 rfl rfl) (by decide) ?_
                                              refine zj_istore (L' := [some (.inr 0), some (.inl p1), some (.inl p2), some (.inl ((zshl 1 p1) - 1)), some (.inl x64), some (.inl x384), some (.inl (x64 % 2)), some (.inl x384), some (.inl (-1)), some (.inl ((64 * (1 - (x64 % 2))) + (zxor x384 x547)))]) (zdk ttX11_ferry 124 rfl rfl) (by decide) rfl ?_
                                              refine zj_goto (t := 137) (zdk ttX11_ferry 125 rfl rfl) (by decide) ?_
                                              refine zj_kill (k := 9) (L' := [some (.inr 0), some (.inl p1), some (.inl p2), some (.inl ((zshl 1 p1) - 1)), some (.inl x64), some (.inl x384), some (.inl (x64 % 2)), some (.inl x384), some (.inl (-1)), none]) rfl ?_
                                              have f629 : x384 = fyF ((zshl 1 p1) - 1) (64 * (x64 % 2) + x384) := by first | exact fyF_0 (by omega) (by omega) | exact fyF_1 (by omega) (by omega)
                                              have r630 : 0 ≤ (64 * (x64 % 2) + x384) ∧ (64 * (x64 % 2) + x384) < 128 ∧ (64 * (x64 % 2) + x384) % 64 ≤ ((zshl 1 p1) - 1) := by omega
                                              have f629b := fyF_b hA9 r630
                                              have f629l := (fyx (o := x384) (l := x547) (by omega) (by omega) (u585 (by omega))).2
                                              have n628 : fyN (64 * (x64 % 2) + x384) x547 = ((64 * (1 - (x64 % 2))) + (zxor x384 x547)) := fyN_e (o := x384) (by omega) (by first | exact Or.inl ⟨by omega, by omega⟩ | exact Or.inr ⟨by omega, by omega⟩)
                                              exact ih587  (-1) h548 (by omega) s549 f550 u581 u582 (by have p9 : fyM (fyG (h.2 25)) ((zshl 1 p1) - 1) p2 (h548.2 26) (64 * (x64 % 2) + x384) x547 := u583; have h9 : fyL (fyG (h.2 25)) ((zshl 1 p1) - 1) p2 (64 * (x64 % 2) + x384) x547 → ¬ h548.2 26 (fyN (64 * (x64 % 2) + x384) x547) = 100000000 := (fun e9 => by obtain ⟨ea, eb, ec, ed⟩ := e9; rw [n628]; rw [← f629] at eb ed; intro z9; first | omega | exact absurd ed (by rcases u611 with k9 | k9; exact absurd k9.1 (by omega); exact k9.2)); rw [show x547 = 0 by omega] at p9 h9; exact fyM_z p9 h9) u584 (fun z => absurd z (by omega)) (by omega)
                                          · refine zj_aload_n (zdk ttX11_ferry 108 rfl rfl) rfl (by decide) ?_
                                            refine zj_getr (r := 26) (zdk ttX11_ferry 109 rfl rfl) zf_RX11_89 rfl (k_M s549) (rfM_47 s549) ?_
                                            refine zj_iload (zdk ttX11_ferry 110 rfl rfl) rfl ?_
                                            refine zj_iload (zdk ttX11_ferry 111 rfl rfl) rfl ?_
                                            refine zj_iconst (zdk ttX11_ferry 112 rfl rfl) ?_
                                            refine zj_iadd (zdk ttX11_ferry 113 rfl rfl) ?_
                                            refine zj_iast (zdk ttX11_ferry 114 rfl rfl) (kaM_26 s549) (by decide) (by omega) (fun h631 e632 => ?_)
                                            refine zj_iload (zdk ttX11_ferry 115 rfl rfl) rfl ?_
                                            refine zj_if_ne (t := 214) (zdk ttX11_ferry 116 rfl rfl) (by decide) (by omega) (fun c633 => ?_) (fun c633 => ?_)
                                            · refine zj_iload (zdk ttX11_ferry 119 rfl rfl) rfl ?_
                                              refine zj_iconst (zdk ttX11_ferry 120 rfl rfl) ?_
                                              refine zj_isub (zdk ttX11_ferry 121 rfl rfl) ?_
                                              refine zj_iload (zdk ttX11_ferry 122 rfl rfl) rfl ?_
                                              refine zj_iand (zdk ttX11_ferry 123 rfl rfl) ?_
                                              have b634 := And.intro (zand_l (a := (x547 - 1)) (by omega) x384) (zand_r (x547 - 1) (b := x384) (by omega))
                                              refine zj_istore (L' := [some (.inr 0), some (.inl p1), some (.inl p2), some (.inl ((zshl 1 p1) - 1)), some (.inl x64), some (.inl x384), some (.inl (x64 % 2)), some (.inl x384), some (.inl (zand (x547 - 1) x384)), some (.inl ((64 * (1 - (x64 % 2))) + (zxor x384 x547)))]) (zdk ttX11_ferry 124 rfl rfl) (by decide) rfl ?_
                                              refine zj_goto (t := 137) (zdk ttX11_ferry 125 rfl rfl) (by decide) ?_
                                              refine zj_kill (k := 9) (L' := [some (.inr 0), some (.inl p1), some (.inl p2), some (.inl ((zshl 1 p1) - 1)), some (.inl x64), some (.inl x384), some (.inl (x64 % 2)), some (.inl x384), some (.inl (zand (x547 - 1) x384)), none]) rfl ?_
                                              have s635 : okM h631 := awM_26 s549 e632 (by omega) (by unfold nsp; omega)
                                              have f636 : zfr [0] [26] h h631 := zfr_wa f550 e632 rfl
                                              have f638 : x384 = fyF ((zshl 1 p1) - 1) (64 * (x64 % 2) + x384) := by first | exact fyF_0 (by omega) (by omega) | exact fyF_1 (by omega) (by omega)
                                              have r639 : 0 ≤ (64 * (x64 % 2) + x384) ∧ (64 * (x64 % 2) + x384) < 128 ∧ (64 * (x64 % 2) + x384) % 64 ≤ ((zshl 1 p1) - 1) := by omega
                                              have f638b := fyF_b hA9 r639
                                              have f638l := (fyx (o := x384) (l := x547) (by omega) (by omega) (u585 (by omega))).2
                                              have n637 : fyN (64 * (x64 % 2) + x384) x547 = ((64 * (1 - (x64 % 2))) + (zxor x384 x547)) := fyN_e (o := x384) (by omega) (by first | exact Or.inl ⟨by omega, by omega⟩ | exact Or.inr ⟨by omega, by omega⟩)
                                              have g640 : (fyE (fyG (h.2 25)) ((zshl 1 p1) - 1) p2) (64 * (x64 % 2) + x384) ((64 * (1 - (x64 % 2))) + (zxor x384 x547)) := ⟨r639, x547, ⟨by omega, by rw [← f638]; exact u585 (by omega), by omega, by rw [← f638]; rcases u611 with k9 | k9; exact k9.2; exact absurd k9.1 (by omega)⟩, n637.symm⟩
                                              exact ih587  (zand (x547 - 1) x384) h631 (by omega) s635 f636 (fyJ_s (t := ((64 * (1 - (x64 % 2))) + (zxor x384 x547))) hE9 (by omega) u581 (by omega) u584 g640 (by omega) (by omega) (zwr_v e632) (fun s n => zwr_r e632 (by omega))) (fyO_w (t := ((64 * (1 - (x64 % 2))) + (zxor x384 x547))) u582 (by rw [zwr_v e632]; omega) (fun s n => zwr_r e632 (by omega)) (by rw [zwr_v e632]; omega)) (by have p9 := fyM_s hA9 r639 (fyM_w (t := ((64 * (1 - (x64 % 2))) + (zxor x384 x547))) u583 (fun s n => zwr_r e632 (by omega)) (by rw [zwr_v e632]; omega)) (by omega) (by rw [← f638]; exact u585 (by omega)) (fun _ => by rw [n637, zwr_v e632]; omega); rw [← f638] at p9; exact p9) ((zwr_r e632 (by omega)).trans u584) (fun _ => (fyg (by omega) (by omega)).2) (by omega)
                                            · refine zj_iconst (zdk ttX11_ferry 117 rfl rfl) ?_
                                              refine zj_goto (t := 221) (zdk ttX11_ferry 118 rfl rfl) (by decide) ?_
                                              refine zj_istore (L' := [some (.inr 0), some (.inl p1), some (.inl p2), some (.inl ((zshl 1 p1) - 1)), some (.inl x64), some (.inl x384), some (.inl (x64 % 2)), some (.inl x384), some (.inl (-1)), some (.inl ((64 * (1 - (x64 % 2))) + (zxor x384 x547)))]) (zdk ttX11_ferry 124 rfl rfl) (by decide) rfl ?_
                                              refine zj_goto (t := 137) (zdk ttX11_ferry 125 rfl rfl) (by decide) ?_
                                              refine zj_kill (k := 9) (L' := [some (.inr 0), some (.inl p1), some (.inl p2), some (.inl ((zshl 1 p1) - 1)), some (.inl x64), some (.inl x384), some (.inl (x64 % 2)), some (.inl x384), some (.inl (-1)), none]) rfl ?_
                                              have s641 : okM h631 := awM_26 s549 e632 (by omega) (by unfold nsp; omega)
                                              have f642 : zfr [0] [26] h h631 := zfr_wa f550 e632 rfl
                                              have f644 : x384 = fyF ((zshl 1 p1) - 1) (64 * (x64 % 2) + x384) := by first | exact fyF_0 (by omega) (by omega) | exact fyF_1 (by omega) (by omega)
                                              have r645 : 0 ≤ (64 * (x64 % 2) + x384) ∧ (64 * (x64 % 2) + x384) < 128 ∧ (64 * (x64 % 2) + x384) % 64 ≤ ((zshl 1 p1) - 1) := by omega
                                              have f644b := fyF_b hA9 r645
                                              have f644l := (fyx (o := x384) (l := x547) (by omega) (by omega) (u585 (by omega))).2
                                              have n643 : fyN (64 * (x64 % 2) + x384) x547 = ((64 * (1 - (x64 % 2))) + (zxor x384 x547)) := fyN_e (o := x384) (by omega) (by first | exact Or.inl ⟨by omega, by omega⟩ | exact Or.inr ⟨by omega, by omega⟩)
                                              have g646 : (fyE (fyG (h.2 25)) ((zshl 1 p1) - 1) p2) (64 * (x64 % 2) + x384) ((64 * (1 - (x64 % 2))) + (zxor x384 x547)) := ⟨r645, x547, ⟨by omega, by rw [← f644]; exact u585 (by omega), by omega, by rw [← f644]; rcases u611 with k9 | k9; exact k9.2; exact absurd k9.1 (by omega)⟩, n643.symm⟩
                                              exact ih587  (-1) h631 (by omega) s641 f642 (fyJ_s (t := ((64 * (1 - (x64 % 2))) + (zxor x384 x547))) hE9 (by omega) u581 (by omega) u584 g646 (by omega) (by omega) (zwr_v e632) (fun s n => zwr_r e632 (by omega))) (fyO_w (t := ((64 * (1 - (x64 % 2))) + (zxor x384 x547))) u582 (by rw [zwr_v e632]; omega) (fun s n => zwr_r e632 (by omega)) (by rw [zwr_v e632]; omega)) (by have p9 : fyM (fyG (h.2 25)) ((zshl 1 p1) - 1) p2 (h631.2 26) (64 * (x64 % 2) + x384) x547 := (fyM_w (t := ((64 * (1 - (x64 % 2))) + (zxor x384 x547))) u583 (fun s n => zwr_r e632 (by omega)) (by rw [zwr_v e632]; omega)); have h9 : fyL (fyG (h.2 25)) ((zshl 1 p1) - 1) p2 (64 * (x64 % 2) + x384) x547 → ¬ h631.2 26 (fyN (64 * (x64 % 2) + x384) x547) = 100000000 := (fun _ => by rw [n643, zwr_v e632]; omega); rw [show x547 = 0 by omega] at p9 h9; exact fyM_z p9 h9) ((zwr_r e632 (by omega)).trans u584) (fun z => absurd z (by omega)) (by omega)
                                have f647 : x384 = fyF ((zshl 1 p1) - 1) (64 * (x64 % 2) + x384) := by first | exact fyF_0 (by omega) (by omega) | exact fyF_1 (by omega) (by omega)
                                have r648 : 0 ≤ (64 * (x64 % 2) + x384) ∧ (64 * (x64 % 2) + x384) < 128 ∧ (64 * (x64 % 2) + x384) % 64 ≤ ((zshl 1 p1) - 1) := by omega
                                exact lp579 _ x384 h385 (by omega) s386 f387 u538 u539 (by have m9 := fyM_0 (S := (fyG (h.2 25))) (b := p2) (x := h385.2 26) hA9 r648; rw [← f647] at m9; exact m9) (by omega) (fun _ => fyz_0 (by omega)) (Nat.lt_succ_self _)
                              · refine zj_iload_n (zdk ttX11_ferry 67 rfl rfl) rfl ?_
                                refine zj_iload (zdk ttX11_ferry 68 rfl rfl) rfl ?_
                                refine zj_iconst (zdk ttX11_ferry 69 rfl rfl) ?_
                                refine zj_ixor (zdk ttX11_ferry 70 rfl rfl) ?_
                                have b649 := zxor_in x384 (-1)
                                refine zj_iand (zdk ttX11_ferry 71 rfl rfl) ?_
                                have b650 := zand_l (a := ((zshl 1 p1) - 1)) (by omega) (zxor x384 (-1))
                                refine zj_goto (t := 131) (zdk ttX11_ferry 72 rfl rfl) (by decide) ?_
                                refine zj_istore (L' := [some (.inr 0), some (.inl p1), some (.inl p2), some (.inl ((zshl 1 p1) - 1)), some (.inl x64), some (.inl x384), some (.inl (x64 % 2)), some (.inl (zand ((zshl 1 p1) - 1) (zxor x384 (-1)))), none, none]) (zdk ttX11_ferry 74 rfl rfl) (by decide) rfl ?_
                                refine zj_iload (zdk ttX11_ferry 75 rfl rfl) rfl ?_
                                refine zj_istore (L' := [some (.inr 0), some (.inl p1), some (.inl p2), some (.inl ((zshl 1 p1) - 1)), some (.inl x64), some (.inl x384), some (.inl (x64 % 2)), some (.inl (zand ((zshl 1 p1) - 1) (zxor x384 (-1)))), some (.inl (zand ((zshl 1 p1) - 1) (zxor x384 (-1)))), none]) (zdk ttX11_ferry 76 rfl rfl) (by decide) rfl ?_
                                have lp683 : ∀ (n137 : Nat) (x651 : Int) (h652 : zM), (-1 ≤ x651 ∧ x651 ≤ 63) → okM h652 → zfr [0] [26] h h652 → (fyJ (fyE (fyG (h.2 25)) ((zshl 1 p1) - 1) p2) (h652.2 26) x64 (x64 + 1)) → (fyO (fyG (h.2 25)) ((zshl 1 p1) - 1) p2 (h652.2 26) x64 x384) → (fyM (fyG (h.2 25)) ((zshl 1 p1) - 1) p2 (h652.2 26) (64 * (x64 % 2) + x384) x651) → (h652.2 26 (64 * (x64 % 2) + x384) = x64) → (0 ≤ x651 → zand x651 (zxor (zand ((zshl 1 p1) - 1) (zxor x384 (-1))) (-1)) = 0) → (x651 + 1).toNat < n137 → zJ shM l yX11_ferry cX11_ferry 10 (some .int) (rmL 3) 0 0 (q2_X11_ferry h p1 p2) 0 0 137 [some (.inr 0), some (.inl p1), some (.inl p2), some (.inl ((zshl 1 p1) - 1)), some (.inl x64), some (.inl x384), some (.inl (x64 % 2)), some (.inl (zand ((zshl 1 p1) - 1) (zxor x384 (-1)))), some (.inl x651), none] [] h652 := by
                                  intro n137
                                  induction n137 with
                                  | zero => intro x651 h652 b684 s653 f654 u685 u686 u687 u688 u689 m690; exact absurd m690 (Nat.not_lt_zero _)
                                  | succ n137 ih691 =>
                                    intro x651 h652 b684 s653 f654 u685 u686 u687 u688 u689 m690
                                    refine zj_iload (zdk ttX11_ferry 77 rfl rfl) rfl ?_
                                    refine zj_if_lt (t := 226) (zdk ttX11_ferry 78 rfl rfl) (by decide) (by omega) (fun c692 => ?_) (fun c692 => ?_)
                                    · refine zj_iinc (L' := [some (.inr 0), some (.inl p1), some (.inl p2), some (.inl ((zshl 1 p1) - 1)), some (.inl x64), some (.inl (x384 + 1)), some (.inl (x64 % 2)), some (.inl (zand ((zshl 1 p1) - 1) (zxor x384 (-1)))), some (.inl x651), none]) (zdk ttX11_ferry 126 rfl rfl) rfl (by decide) rfl ?_
                                      refine zj_goto (t := 82) (zdk ttX11_ferry 127 rfl rfl) (by decide) ?_
                                      refine zj_kill (k := 6) (L' := [some (.inr 0), some (.inl p1), some (.inl p2), some (.inl ((zshl 1 p1) - 1)), some (.inl x64), some (.inl (x384 + 1)), none, some (.inl (zand ((zshl 1 p1) - 1) (zxor x384 (-1)))), some (.inl x651), none]) rfl ?_
                                      refine zj_kill (k := 7) (L' := [some (.inr 0), some (.inl p1), some (.inl p2), some (.inl ((zshl 1 p1) - 1)), some (.inl x64), some (.inl (x384 + 1)), none, none, some (.inl x651), none]) rfl ?_
                                      refine zj_kill (k := 8) (L' := [some (.inr 0), some (.inl p1), some (.inl p2), some (.inl ((zshl 1 p1) - 1)), some (.inl x64), some (.inl (x384 + 1)), none, none, none, none]) rfl ?_
                                      exact ih542  (x384 + 1) h652 (by omega) s653 f654 u685 (fyO_s (s0 := (64 * (x64 % 2) + x384)) u686 (fun s t a c e q => fyM_e u687 (by omega) t (by rw [q] at e; exact e)) (fun s t a c e => by have p9 := fyJ_p hA9 (by omega) u685 (s := s) (by have := e.1; omega) a; omega)) (by omega) (by omega)
                                    · refine zj_bipush (zdk ttX11_ferry 79 rfl rfl) (by decide) ?_
                                      refine zj_iconst (zdk ttX11_ferry 80 rfl rfl) ?_
                                      refine zj_iload (zdk ttX11_ferry 81 rfl rfl) rfl ?_
                                      refine zj_isub (zdk ttX11_ferry 82 rfl rfl) ?_
                                      refine zj_imul (zdk ttX11_ferry 83 rfl rfl) ?_
                                      refine zj_iload (zdk ttX11_ferry 84 rfl rfl) rfl ?_
                                      refine zj_iload (zdk ttX11_ferry 85 rfl rfl) rfl ?_
                                      refine zj_ixor (zdk ttX11_ferry 86 rfl rfl) ?_
                                      have b693 := zxor_k (a := x384) (b := x651) (K := 64) 6 (by decide) (by decide) (by omega) (by omega)
                                      refine zj_iadd (zdk ttX11_ferry 87 rfl rfl) ?_
                                      refine zj_istore (L' := [some (.inr 0), some (.inl p1), some (.inl p2), some (.inl ((zshl 1 p1) - 1)), some (.inl x64), some (.inl x384), some (.inl (x64 % 2)), some (.inl (zand ((zshl 1 p1) - 1) (zxor x384 (-1)))), some (.inl x651), some (.inl ((64 * (1 - (x64 % 2))) + (zxor x384 x651)))]) (zdk ttX11_ferry 88 rfl rfl) (by decide) rfl ?_
                                      refine zj_aload_n (zdk ttX11_ferry 89 rfl rfl) rfl (by decide) ?_
                                      refine zj_iload (zdk ttX11_ferry 90 rfl rfl) rfl ?_
                                      refine zj_callV (av := [.inl x651]) (st := []) (zdk ttX11_ferry 91 rfl rfl) mb_X11_onesOf mv_RX11_316 (ci := 11) rfl rfl (k_M s653) rfl rfl (Nat.le_of_ble_eq_true rfl) (s2_X11_onesOf l h652 x651 s653 (by omega)) (rm_ok (by decide) (by decide)) (zq_i fun v695 h696 q694 => ?_)
                                      obtain ⟨rfl, b697, u698⟩ := q694
                                      refine zj_iload_n (zdk ttX11_ferry 92 rfl rfl) rfl ?_
                                      refine zj_icmp_gt (t := 205) (zdk ttX11_ferry 93 rfl rfl) (by decide) (by omega) (by omega) (fun c699 => ?_) (fun c699 => ?_)
                                      · refine zj_iload (zdk ttX11_ferry 115 rfl rfl) rfl ?_
                                        refine zj_if_ne (t := 214) (zdk ttX11_ferry 116 rfl rfl) (by decide) (by omega) (fun c700 => ?_) (fun c700 => ?_)
                                        · refine zj_iload (zdk ttX11_ferry 119 rfl rfl) rfl ?_
                                          refine zj_iconst (zdk ttX11_ferry 120 rfl rfl) ?_
                                          refine zj_isub (zdk ttX11_ferry 121 rfl rfl) ?_
                                          refine zj_iload (zdk ttX11_ferry 122 rfl rfl) rfl ?_
                                          refine zj_iand (zdk ttX11_ferry 123 rfl rfl) ?_
                                          have b701 := And.intro (zand_l (a := (x651 - 1)) (by omega) (zand ((zshl 1 p1) - 1) (zxor x384 (-1)))) (zand_r (x651 - 1) (b := (zand ((zshl 1 p1) - 1) (zxor x384 (-1)))) (by omega))
                                          refine zj_istore (L' := [some (.inr 0), some (.inl p1), some (.inl p2), some (.inl ((zshl 1 p1) - 1)), some (.inl x64), some (.inl x384), some (.inl (x64 % 2)), some (.inl (zand ((zshl 1 p1) - 1) (zxor x384 (-1)))), some (.inl (zand (x651 - 1) (zand ((zshl 1 p1) - 1) (zxor x384 (-1))))), some (.inl ((64 * (1 - (x64 % 2))) + (zxor x384 x651)))]) (zdk ttX11_ferry 124 rfl rfl) (by decide) rfl ?_
                                          refine zj_goto (t := 137) (zdk ttX11_ferry 125 rfl rfl) (by decide) ?_
                                          refine zj_kill (k := 9) (L' := [some (.inr 0), some (.inl p1), some (.inl p2), some (.inl ((zshl 1 p1) - 1)), some (.inl x64), some (.inl x384), some (.inl (x64 % 2)), some (.inl (zand ((zshl 1 p1) - 1) (zxor x384 (-1)))), some (.inl (zand (x651 - 1) (zand ((zshl 1 p1) - 1) (zxor x384 (-1))))), none]) rfl ?_
                                          have f703 : (zand ((zshl 1 p1) - 1) (zxor x384 (-1))) = fyF ((zshl 1 p1) - 1) (64 * (x64 % 2) + x384) := by first | exact fyF_0 (by omega) (by omega) | exact fyF_1 (by omega) (by omega)
                                          have r704 : 0 ≤ (64 * (x64 % 2) + x384) ∧ (64 * (x64 % 2) + x384) < 128 ∧ (64 * (x64 % 2) + x384) % 64 ≤ ((zshl 1 p1) - 1) := by omega
                                          have f703b := fyF_b hA9 r704
                                          have f703l := (fyx (o := (zand ((zshl 1 p1) - 1) (zxor x384 (-1)))) (l := x651) (by omega) (by omega) (u689 (by omega))).2
                                          have n702 : fyN (64 * (x64 % 2) + x384) x651 = ((64 * (1 - (x64 % 2))) + (zxor x384 x651)) := fyN_e (o := x384) (by omega) (by first | exact Or.inl ⟨by omega, by omega⟩ | exact Or.inr ⟨by omega, by omega⟩)
                                          exact ih691  (zand (x651 - 1) (zand ((zshl 1 p1) - 1) (zxor x384 (-1)))) h652 (by omega) s653 f654 u685 u686 (by have p9 := fyM_s hA9 r704 u687 (by omega) (by rw [← f703]; exact u689 (by omega)) (fun e9 => by obtain ⟨ea, eb, ec, ed⟩ := e9; rw [n702]; rw [← f703] at eb ed; intro z9; first | omega | exact absurd ed (by rcases u671 with k9 | k9; exact absurd k9.1 (by omega); exact k9.2)); rw [← f703] at p9; exact p9) u688 (fun _ => (fyg (by omega) (by omega)).2) (by omega)
                                        · refine zj_iconst (zdk ttX11_ferry 117 rfl rfl) ?_
                                          refine zj_goto (t := 221) (zdk ttX11_ferry 118 rfl rfl) (by decide) ?_
                                          refine zj_istore (L' := [some (.inr 0), some (.inl p1), some (.inl p2), some (.inl ((zshl 1 p1) - 1)), some (.inl x64), some (.inl x384), some (.inl (x64 % 2)), some (.inl (zand ((zshl 1 p1) - 1) (zxor x384 (-1)))), some (.inl (-1)), some (.inl ((64 * (1 - (x64 % 2))) + (zxor x384 x651)))]) (zdk ttX11_ferry 124 rfl rfl) (by decide) rfl ?_
                                          refine zj_goto (t := 137) (zdk ttX11_ferry 125 rfl rfl) (by decide) ?_
                                          refine zj_kill (k := 9) (L' := [some (.inr 0), some (.inl p1), some (.inl p2), some (.inl ((zshl 1 p1) - 1)), some (.inl x64), some (.inl x384), some (.inl (x64 % 2)), some (.inl (zand ((zshl 1 p1) - 1) (zxor x384 (-1)))), some (.inl (-1)), none]) rfl ?_
                                          have f706 : (zand ((zshl 1 p1) - 1) (zxor x384 (-1))) = fyF ((zshl 1 p1) - 1) (64 * (x64 % 2) + x384) := by first | exact fyF_0 (by omega) (by omega) | exact fyF_1 (by omega) (by omega)
                                          have r707 : 0 ≤ (64 * (x64 % 2) + x384) ∧ (64 * (x64 % 2) + x384) < 128 ∧ (64 * (x64 % 2) + x384) % 64 ≤ ((zshl 1 p1) - 1) := by omega
                                          have f706b := fyF_b hA9 r707
                                          have f706l := (fyx (o := (zand ((zshl 1 p1) - 1) (zxor x384 (-1)))) (l := x651) (by omega) (by omega) (u689 (by omega))).2
                                          have n705 : fyN (64 * (x64 % 2) + x384) x651 = ((64 * (1 - (x64 % 2))) + (zxor x384 x651)) := fyN_e (o := x384) (by omega) (by first | exact Or.inl ⟨by omega, by omega⟩ | exact Or.inr ⟨by omega, by omega⟩)
                                          exact ih691  (-1) h652 (by omega) s653 f654 u685 u686 (by have p9 : fyM (fyG (h.2 25)) ((zshl 1 p1) - 1) p2 (h652.2 26) (64 * (x64 % 2) + x384) x651 := u687; have h9 : fyL (fyG (h.2 25)) ((zshl 1 p1) - 1) p2 (64 * (x64 % 2) + x384) x651 → ¬ h652.2 26 (fyN (64 * (x64 % 2) + x384) x651) = 100000000 := (fun e9 => by obtain ⟨ea, eb, ec, ed⟩ := e9; rw [n705]; rw [← f706] at eb ed; intro z9; first | omega | exact absurd ed (by rcases u671 with k9 | k9; exact absurd k9.1 (by omega); exact k9.2)); rw [show x651 = 0 by omega] at p9 h9; exact fyM_z p9 h9) u688 (fun z => absurd z (by omega)) (by omega)
                                      · refine zj_aload_n (zdk ttX11_ferry 94 rfl rfl) rfl (by decide) ?_
                                        refine zj_iload (zdk ttX11_ferry 95 rfl rfl) rfl ?_
                                        refine zj_iload (zdk ttX11_ferry 96 rfl rfl) rfl ?_
                                        refine zj_iconst (zdk ttX11_ferry 97 rfl rfl) ?_
                                        refine zj_ixor (zdk ttX11_ferry 98 rfl rfl) ?_
                                        have b708 := zxor_in x651 (-1)
                                        refine zj_iand (zdk ttX11_ferry 99 rfl rfl) ?_
                                        have b709 := zand_l (a := (zand ((zshl 1 p1) - 1) (zxor x384 (-1)))) (by omega) (zxor x651 (-1))
                                        refine zj_callV (av := [.inl (zand (zand ((zshl 1 p1) - 1) (zxor x384 (-1))) (zxor x651 (-1)))]) (st := []) (zdk ttX11_ferry 100 rfl rfl) mb_X11_isPeace mv_RX11_412 (ci := 11) rfl rfl (k_M s653) rfl rfl (Nat.le_of_ble_eq_true rfl) (s2_X11_isPeace l h652 (zand (zand ((zshl 1 p1) - 1) (zxor x384 (-1))) (zxor x651 (-1))) s653 (by omega)) (rm_ok (by decide) (by decide)) (zq_i fun v711 h712 q710 => ?_)
                                        obtain ⟨rfl, b713, u714⟩ := q710
                                        have u715 : (v711 = 1 ∧ fyG (h.2 25) (zand (zand ((zshl 1 p1) - 1) (zxor x384 (-1))) (zxor x651 (-1)))) ∨ (v711 = 0 ∧ ¬ fyG (h.2 25) (zand (zand ((zshl 1 p1) - 1) (zxor x384 (-1))) (zxor x651 (-1)))) := by have z8 := u714; rw [show h652.2 25 = h.2 25 from funext fun i9 => (zfr_a f654 rfl (by decide))] at z8; exact z8
                                        refine zj_if_eq (t := 205) (zdk ttX11_ferry 101 rfl rfl) (by decide) (by omega) (fun c716 => ?_) (fun c716 => ?_)
                                        · refine zj_iload (zdk ttX11_ferry 115 rfl rfl) rfl ?_
                                          refine zj_if_ne (t := 214) (zdk ttX11_ferry 116 rfl rfl) (by decide) (by omega) (fun c717 => ?_) (fun c717 => ?_)
                                          · refine zj_iload (zdk ttX11_ferry 119 rfl rfl) rfl ?_
                                            refine zj_iconst (zdk ttX11_ferry 120 rfl rfl) ?_
                                            refine zj_isub (zdk ttX11_ferry 121 rfl rfl) ?_
                                            refine zj_iload (zdk ttX11_ferry 122 rfl rfl) rfl ?_
                                            refine zj_iand (zdk ttX11_ferry 123 rfl rfl) ?_
                                            have b718 := And.intro (zand_l (a := (x651 - 1)) (by omega) (zand ((zshl 1 p1) - 1) (zxor x384 (-1)))) (zand_r (x651 - 1) (b := (zand ((zshl 1 p1) - 1) (zxor x384 (-1)))) (by omega))
                                            refine zj_istore (L' := [some (.inr 0), some (.inl p1), some (.inl p2), some (.inl ((zshl 1 p1) - 1)), some (.inl x64), some (.inl x384), some (.inl (x64 % 2)), some (.inl (zand ((zshl 1 p1) - 1) (zxor x384 (-1)))), some (.inl (zand (x651 - 1) (zand ((zshl 1 p1) - 1) (zxor x384 (-1))))), some (.inl ((64 * (1 - (x64 % 2))) + (zxor x384 x651)))]) (zdk ttX11_ferry 124 rfl rfl) (by decide) rfl ?_
                                            refine zj_goto (t := 137) (zdk ttX11_ferry 125 rfl rfl) (by decide) ?_
                                            refine zj_kill (k := 9) (L' := [some (.inr 0), some (.inl p1), some (.inl p2), some (.inl ((zshl 1 p1) - 1)), some (.inl x64), some (.inl x384), some (.inl (x64 % 2)), some (.inl (zand ((zshl 1 p1) - 1) (zxor x384 (-1)))), some (.inl (zand (x651 - 1) (zand ((zshl 1 p1) - 1) (zxor x384 (-1))))), none]) rfl ?_
                                            have f720 : (zand ((zshl 1 p1) - 1) (zxor x384 (-1))) = fyF ((zshl 1 p1) - 1) (64 * (x64 % 2) + x384) := by first | exact fyF_0 (by omega) (by omega) | exact fyF_1 (by omega) (by omega)
                                            have r721 : 0 ≤ (64 * (x64 % 2) + x384) ∧ (64 * (x64 % 2) + x384) < 128 ∧ (64 * (x64 % 2) + x384) % 64 ≤ ((zshl 1 p1) - 1) := by omega
                                            have f720b := fyF_b hA9 r721
                                            have f720l := (fyx (o := (zand ((zshl 1 p1) - 1) (zxor x384 (-1)))) (l := x651) (by omega) (by omega) (u689 (by omega))).2
                                            have n719 : fyN (64 * (x64 % 2) + x384) x651 = ((64 * (1 - (x64 % 2))) + (zxor x384 x651)) := fyN_e (o := x384) (by omega) (by first | exact Or.inl ⟨by omega, by omega⟩ | exact Or.inr ⟨by omega, by omega⟩)
                                            exact ih691  (zand (x651 - 1) (zand ((zshl 1 p1) - 1) (zxor x384 (-1)))) h652 (by omega) s653 f654 u685 u686 (by have p9 := fyM_s hA9 r721 u687 (by omega) (by rw [← f720]; exact u689 (by omega)) (fun e9 => by obtain ⟨ea, eb, ec, ed⟩ := e9; rw [n719]; rw [← f720] at eb ed; intro z9; first | omega | exact absurd ed (by rcases u715 with k9 | k9; exact absurd k9.1 (by omega); exact k9.2)); rw [← f720] at p9; exact p9) u688 (fun _ => (fyg (by omega) (by omega)).2) (by omega)
                                          · refine zj_iconst (zdk ttX11_ferry 117 rfl rfl) ?_
                                            refine zj_goto (t := 221) (zdk ttX11_ferry 118 rfl rfl) (by decide) ?_
                                            refine zj_istore (L' := [some (.inr 0), some (.inl p1), some (.inl p2), some (.inl ((zshl 1 p1) - 1)), some (.inl x64), some (.inl x384), some (.inl (x64 % 2)), some (.inl (zand ((zshl 1 p1) - 1) (zxor x384 (-1)))), some (.inl (-1)), some (.inl ((64 * (1 - (x64 % 2))) + (zxor x384 x651)))]) (zdk ttX11_ferry 124 rfl rfl) (by decide) rfl ?_
                                            refine zj_goto (t := 137) (zdk ttX11_ferry 125 rfl rfl) (by decide) ?_
                                            refine zj_kill (k := 9) (L' := [some (.inr 0), some (.inl p1), some (.inl p2), some (.inl ((zshl 1 p1) - 1)), some (.inl x64), some (.inl x384), some (.inl (x64 % 2)), some (.inl (zand ((zshl 1 p1) - 1) (zxor x384 (-1)))), some (.inl (-1)), none]) rfl ?_
                                            have f723 : (zand ((zshl 1 p1) - 1) (zxor x384 (-1))) = fyF ((zshl 1 p1) - 1) (64 * (x64 % 2) + x384) := by first | exact fyF_0 (by omega) (by omega) | exact fyF_1 (by omega) (by omega)
                                            have r724 : 0 ≤ (64 * (x64 % 2) + x384) ∧ (64 * (x64 % 2) + x384) < 128 ∧ (64 * (x64 % 2) + x384) % 64 ≤ ((zshl 1 p1) - 1) := by omega
                                            have f723b := fyF_b hA9 r724
                                            have f723l := (fyx (o := (zand ((zshl 1 p1) - 1) (zxor x384 (-1)))) (l := x651) (by omega) (by omega) (u689 (by omega))).2
                                            have n722 : fyN (64 * (x64 % 2) + x384) x651 = ((64 * (1 - (x64 % 2))) + (zxor x384 x651)) := fyN_e (o := x384) (by omega) (by first | exact Or.inl ⟨by omega, by omega⟩ | exact Or.inr ⟨by omega, by omega⟩)
                                            exact ih691  (-1) h652 (by omega) s653 f654 u685 u686 (by have p9 : fyM (fyG (h.2 25)) ((zshl 1 p1) - 1) p2 (h652.2 26) (64 * (x64 % 2) + x384) x651 := u687; have h9 : fyL (fyG (h.2 25)) ((zshl 1 p1) - 1) p2 (64 * (x64 % 2) + x384) x651 → ¬ h652.2 26 (fyN (64 * (x64 % 2) + x384) x651) = 100000000 := (fun e9 => by obtain ⟨ea, eb, ec, ed⟩ := e9; rw [n722]; rw [← f723] at eb ed; intro z9; first | omega | exact absurd ed (by rcases u715 with k9 | k9; exact absurd k9.1 (by omega); exact k9.2)); rw [show x651 = 0 by omega] at p9 h9; exact fyM_z p9 h9) u688 (fun z => absurd z (by omega)) (by omega)
                                        · refine zj_aload_n (zdk ttX11_ferry 102 rfl rfl) rfl (by decide) ?_
                                          refine zj_getr (r := 26) (zdk ttX11_ferry 103 rfl rfl) zf_RX11_89 rfl (k_M s653) (rfM_47 s653) ?_
                                          refine zj_iload (zdk ttX11_ferry 104 rfl rfl) rfl ?_
                                          have b725 : -2147483648 ≤ (h652.2 26 ((64 * (1 - (x64 % 2))) + (zxor x384 x651))) ∧ (h652.2 26 ((64 * (1 - (x64 % 2))) + (zxor x384 x651))) ≤ 2147483647 := abM_26 s653 ((64 * (1 - (x64 % 2))) + (zxor x384 x651))
                                          refine zj_iald (v := (h652.2 26 ((64 * (1 - (x64 % 2))) + (zxor x384 x651)))) (zdk ttX11_ferry 105 rfl rfl) (kaM_26 s653) (by decide) (by omega) rfl ?_
                                          refine zj_ldc_w (z := 100000000) (zdk ttX11_ferry 106 rfl rfl) wc_RX11_411 ?_
                                          refine zj_icmp_ne (t := 205) (zdk ttX11_ferry 107 rfl rfl) (by decide) (by omega) (by decide) (fun c726 => ?_) (fun c726 => ?_)
                                          · refine zj_iload (zdk ttX11_ferry 115 rfl rfl) rfl ?_
                                            refine zj_if_ne (t := 214) (zdk ttX11_ferry 116 rfl rfl) (by decide) (by omega) (fun c727 => ?_) (fun c727 => ?_)
                                            · refine zj_iload (zdk ttX11_ferry 119 rfl rfl) rfl ?_
                                              refine zj_iconst (zdk ttX11_ferry 120 rfl rfl) ?_
                                              refine zj_isub (zdk ttX11_ferry 121 rfl rfl) ?_
                                              refine zj_iload (zdk ttX11_ferry 122 rfl rfl) rfl ?_
                                              refine zj_iand (zdk ttX11_ferry 123 rfl rfl) ?_
                                              have b728 := And.intro (zand_l (a := (x651 - 1)) (by omega) (zand ((zshl 1 p1) - 1) (zxor x384 (-1)))) (zand_r (x651 - 1) (b := (zand ((zshl 1 p1) - 1) (zxor x384 (-1)))) (by omega))
                                              refine zj_istore (L' := [some (.inr 0), some (.inl p1), some (.inl p2), some (.inl ((zshl 1 p1) - 1)), some (.inl x64), some (.inl x384), some (.inl (x64 % 2)), some (.inl (zand ((zshl 1 p1) - 1) (zxor x384 (-1)))), some (.inl (zand (x651 - 1) (zand ((zshl 1 p1) - 1) (zxor x384 (-1))))), some (.inl ((64 * (1 - (x64 % 2))) + (zxor x384 x651)))]) (zdk ttX11_ferry 124 rfl rfl) (by decide) rfl ?_
                                              refine zj_goto (t := 137) (zdk ttX11_ferry 125 rfl rfl) (by decide) ?_
                                              refine zj_kill (k := 9) (L' := [some (.inr 0), some (.inl p1), some (.inl p2), some (.inl ((zshl 1 p1) - 1)), some (.inl x64), some (.inl x384), some (.inl (x64 % 2)), some (.inl (zand ((zshl 1 p1) - 1) (zxor x384 (-1)))), some (.inl (zand (x651 - 1) (zand ((zshl 1 p1) - 1) (zxor x384 (-1))))), none]) rfl ?_
                                              have f730 : (zand ((zshl 1 p1) - 1) (zxor x384 (-1))) = fyF ((zshl 1 p1) - 1) (64 * (x64 % 2) + x384) := by first | exact fyF_0 (by omega) (by omega) | exact fyF_1 (by omega) (by omega)
                                              have r731 : 0 ≤ (64 * (x64 % 2) + x384) ∧ (64 * (x64 % 2) + x384) < 128 ∧ (64 * (x64 % 2) + x384) % 64 ≤ ((zshl 1 p1) - 1) := by omega
                                              have f730b := fyF_b hA9 r731
                                              have f730l := (fyx (o := (zand ((zshl 1 p1) - 1) (zxor x384 (-1)))) (l := x651) (by omega) (by omega) (u689 (by omega))).2
                                              have n729 : fyN (64 * (x64 % 2) + x384) x651 = ((64 * (1 - (x64 % 2))) + (zxor x384 x651)) := fyN_e (o := x384) (by omega) (by first | exact Or.inl ⟨by omega, by omega⟩ | exact Or.inr ⟨by omega, by omega⟩)
                                              exact ih691  (zand (x651 - 1) (zand ((zshl 1 p1) - 1) (zxor x384 (-1)))) h652 (by omega) s653 f654 u685 u686 (by have p9 := fyM_s hA9 r731 u687 (by omega) (by rw [← f730]; exact u689 (by omega)) (fun e9 => by obtain ⟨ea, eb, ec, ed⟩ := e9; rw [n729]; rw [← f730] at eb ed; intro z9; first | omega | exact absurd ed (by rcases u715 with k9 | k9; exact absurd k9.1 (by omega); exact k9.2)); rw [← f730] at p9; exact p9) u688 (fun _ => (fyg (by omega) (by omega)).2) (by omega)
                                            · refine zj_iconst (zdk ttX11_ferry 117 rfl rfl) ?_
                                              refine zj_goto (t := 221) (zdk ttX11_ferry 118 rfl rfl) (by decide) ?_
                                              refine zj_istore (L' := [some (.inr 0), some (.inl p1), some (.inl p2), some (.inl ((zshl 1 p1) - 1)), some (.inl x64), some (.inl x384), some (.inl (x64 % 2)), some (.inl (zand ((zshl 1 p1) - 1) (zxor x384 (-1)))), some (.inl (-1)), some (.inl ((64 * (1 - (x64 % 2))) + (zxor x384 x651)))]) (zdk ttX11_ferry 124 rfl rfl) (by decide) rfl ?_
                                              refine zj_goto (t := 137) (zdk ttX11_ferry 125 rfl rfl) (by decide) ?_
                                              refine zj_kill (k := 9) (L' := [some (.inr 0), some (.inl p1), some (.inl p2), some (.inl ((zshl 1 p1) - 1)), some (.inl x64), some (.inl x384), some (.inl (x64 % 2)), some (.inl (zand ((zshl 1 p1) - 1) (zxor x384 (-1)))), some (.inl (-1)), none]) rfl ?_
                                              have f733 : (zand ((zshl 1 p1) - 1) (zxor x384 (-1))) = fyF ((zshl 1 p1) - 1) (64 * (x64 % 2) + x384) := by first | exact fyF_0 (by omega) (by omega) | exact fyF_1 (by omega) (by omega)
                                              have r734 : 0 ≤ (64 * (x64 % 2) + x384) ∧ (64 * (x64 % 2) + x384) < 128 ∧ (64 * (x64 % 2) + x384) % 64 ≤ ((zshl 1 p1) - 1) := by omega
                                              have f733b := fyF_b hA9 r734
                                              have f733l := (fyx (o := (zand ((zshl 1 p1) - 1) (zxor x384 (-1)))) (l := x651) (by omega) (by omega) (u689 (by omega))).2
                                              have n732 : fyN (64 * (x64 % 2) + x384) x651 = ((64 * (1 - (x64 % 2))) + (zxor x384 x651)) := fyN_e (o := x384) (by omega) (by first | exact Or.inl ⟨by omega, by omega⟩ | exact Or.inr ⟨by omega, by omega⟩)
                                              exact ih691  (-1) h652 (by omega) s653 f654 u685 u686 (by have p9 : fyM (fyG (h.2 25)) ((zshl 1 p1) - 1) p2 (h652.2 26) (64 * (x64 % 2) + x384) x651 := u687; have h9 : fyL (fyG (h.2 25)) ((zshl 1 p1) - 1) p2 (64 * (x64 % 2) + x384) x651 → ¬ h652.2 26 (fyN (64 * (x64 % 2) + x384) x651) = 100000000 := (fun e9 => by obtain ⟨ea, eb, ec, ed⟩ := e9; rw [n732]; rw [← f733] at eb ed; intro z9; first | omega | exact absurd ed (by rcases u715 with k9 | k9; exact absurd k9.1 (by omega); exact k9.2)); rw [show x651 = 0 by omega] at p9 h9; exact fyM_z p9 h9) u688 (fun z => absurd z (by omega)) (by omega)
                                          · refine zj_aload_n (zdk ttX11_ferry 108 rfl rfl) rfl (by decide) ?_
                                            refine zj_getr (r := 26) (zdk ttX11_ferry 109 rfl rfl) zf_RX11_89 rfl (k_M s653) (rfM_47 s653) ?_
                                            refine zj_iload (zdk ttX11_ferry 110 rfl rfl) rfl ?_
                                            refine zj_iload (zdk ttX11_ferry 111 rfl rfl) rfl ?_
                                            refine zj_iconst (zdk ttX11_ferry 112 rfl rfl) ?_
                                            refine zj_iadd (zdk ttX11_ferry 113 rfl rfl) ?_
                                            refine zj_iast (zdk ttX11_ferry 114 rfl rfl) (kaM_26 s653) (by decide) (by omega) (fun h735 e736 => ?_)
                                            refine zj_iload (zdk ttX11_ferry 115 rfl rfl) rfl ?_
                                            refine zj_if_ne (t := 214) (zdk ttX11_ferry 116 rfl rfl) (by decide) (by omega) (fun c737 => ?_) (fun c737 => ?_)
                                            · refine zj_iload (zdk ttX11_ferry 119 rfl rfl) rfl ?_
                                              refine zj_iconst (zdk ttX11_ferry 120 rfl rfl) ?_
                                              refine zj_isub (zdk ttX11_ferry 121 rfl rfl) ?_
                                              refine zj_iload (zdk ttX11_ferry 122 rfl rfl) rfl ?_
                                              refine zj_iand (zdk ttX11_ferry 123 rfl rfl) ?_
                                              have b738 := And.intro (zand_l (a := (x651 - 1)) (by omega) (zand ((zshl 1 p1) - 1) (zxor x384 (-1)))) (zand_r (x651 - 1) (b := (zand ((zshl 1 p1) - 1) (zxor x384 (-1)))) (by omega))
                                              refine zj_istore (L' := [some (.inr 0), some (.inl p1), some (.inl p2), some (.inl ((zshl 1 p1) - 1)), some (.inl x64), some (.inl x384), some (.inl (x64 % 2)), some (.inl (zand ((zshl 1 p1) - 1) (zxor x384 (-1)))), some (.inl (zand (x651 - 1) (zand ((zshl 1 p1) - 1) (zxor x384 (-1))))), some (.inl ((64 * (1 - (x64 % 2))) + (zxor x384 x651)))]) (zdk ttX11_ferry 124 rfl rfl) (by decide) rfl ?_
                                              refine zj_goto (t := 137) (zdk ttX11_ferry 125 rfl rfl) (by decide) ?_
                                              refine zj_kill (k := 9) (L' := [some (.inr 0), some (.inl p1), some (.inl p2), some (.inl ((zshl 1 p1) - 1)), some (.inl x64), some (.inl x384), some (.inl (x64 % 2)), some (.inl (zand ((zshl 1 p1) - 1) (zxor x384 (-1)))), some (.inl (zand (x651 - 1) (zand ((zshl 1 p1) - 1) (zxor x384 (-1))))), none]) rfl ?_
                                              have s739 : okM h735 := awM_26 s653 e736 (by omega) (by unfold nsp; omega)
                                              have f740 : zfr [0] [26] h h735 := zfr_wa f654 e736 rfl
                                              have f742 : (zand ((zshl 1 p1) - 1) (zxor x384 (-1))) = fyF ((zshl 1 p1) - 1) (64 * (x64 % 2) + x384) := by first | exact fyF_0 (by omega) (by omega) | exact fyF_1 (by omega) (by omega)
                                              have r743 : 0 ≤ (64 * (x64 % 2) + x384) ∧ (64 * (x64 % 2) + x384) < 128 ∧ (64 * (x64 % 2) + x384) % 64 ≤ ((zshl 1 p1) - 1) := by omega
                                              have f742b := fyF_b hA9 r743
                                              have f742l := (fyx (o := (zand ((zshl 1 p1) - 1) (zxor x384 (-1)))) (l := x651) (by omega) (by omega) (u689 (by omega))).2
                                              have n741 : fyN (64 * (x64 % 2) + x384) x651 = ((64 * (1 - (x64 % 2))) + (zxor x384 x651)) := fyN_e (o := x384) (by omega) (by first | exact Or.inl ⟨by omega, by omega⟩ | exact Or.inr ⟨by omega, by omega⟩)
                                              have g744 : (fyE (fyG (h.2 25)) ((zshl 1 p1) - 1) p2) (64 * (x64 % 2) + x384) ((64 * (1 - (x64 % 2))) + (zxor x384 x651)) := ⟨r743, x651, ⟨by omega, by rw [← f742]; exact u689 (by omega), by omega, by rw [← f742]; rcases u715 with k9 | k9; exact k9.2; exact absurd k9.1 (by omega)⟩, n741.symm⟩
                                              exact ih691  (zand (x651 - 1) (zand ((zshl 1 p1) - 1) (zxor x384 (-1)))) h735 (by omega) s739 f740 (fyJ_s (t := ((64 * (1 - (x64 % 2))) + (zxor x384 x651))) hE9 (by omega) u685 (by omega) u688 g744 (by omega) (by omega) (zwr_v e736) (fun s n => zwr_r e736 (by omega))) (fyO_w (t := ((64 * (1 - (x64 % 2))) + (zxor x384 x651))) u686 (by rw [zwr_v e736]; omega) (fun s n => zwr_r e736 (by omega)) (by rw [zwr_v e736]; omega)) (by have p9 := fyM_s hA9 r743 (fyM_w (t := ((64 * (1 - (x64 % 2))) + (zxor x384 x651))) u687 (fun s n => zwr_r e736 (by omega)) (by rw [zwr_v e736]; omega)) (by omega) (by rw [← f742]; exact u689 (by omega)) (fun _ => by rw [n741, zwr_v e736]; omega); rw [← f742] at p9; exact p9) ((zwr_r e736 (by omega)).trans u688) (fun _ => (fyg (by omega) (by omega)).2) (by omega)
                                            · refine zj_iconst (zdk ttX11_ferry 117 rfl rfl) ?_
                                              refine zj_goto (t := 221) (zdk ttX11_ferry 118 rfl rfl) (by decide) ?_
                                              refine zj_istore (L' := [some (.inr 0), some (.inl p1), some (.inl p2), some (.inl ((zshl 1 p1) - 1)), some (.inl x64), some (.inl x384), some (.inl (x64 % 2)), some (.inl (zand ((zshl 1 p1) - 1) (zxor x384 (-1)))), some (.inl (-1)), some (.inl ((64 * (1 - (x64 % 2))) + (zxor x384 x651)))]) (zdk ttX11_ferry 124 rfl rfl) (by decide) rfl ?_
                                              refine zj_goto (t := 137) (zdk ttX11_ferry 125 rfl rfl) (by decide) ?_
                                              refine zj_kill (k := 9) (L' := [some (.inr 0), some (.inl p1), some (.inl p2), some (.inl ((zshl 1 p1) - 1)), some (.inl x64), some (.inl x384), some (.inl (x64 % 2)), some (.inl (zand ((zshl 1 p1) - 1) (zxor x384 (-1)))), some (.inl (-1)), none]) rfl ?_
                                              have s745 : okM h735 := awM_26 s653 e736 (by omega) (by unfold nsp; omega)
                                              have f746 : zfr [0] [26] h h735 := zfr_wa f654 e736 rfl
                                              have f748 : (zand ((zshl 1 p1) - 1) (zxor x384 (-1))) = fyF ((zshl 1 p1) - 1) (64 * (x64 % 2) + x384) := by first | exact fyF_0 (by omega) (by omega) | exact fyF_1 (by omega) (by omega)
                                              have r749 : 0 ≤ (64 * (x64 % 2) + x384) ∧ (64 * (x64 % 2) + x384) < 128 ∧ (64 * (x64 % 2) + x384) % 64 ≤ ((zshl 1 p1) - 1) := by omega
                                              have f748b := fyF_b hA9 r749
                                              have f748l := (fyx (o := (zand ((zshl 1 p1) - 1) (zxor x384 (-1)))) (l := x651) (by omega) (by omega) (u689 (by omega))).2
                                              have n747 : fyN (64 * (x64 % 2) + x384) x651 = ((64 * (1 - (x64 % 2))) + (zxor x384 x651)) := fyN_e (o := x384) (by omega) (by first | exact Or.inl ⟨by omega, by omega⟩ | exact Or.inr ⟨by omega, by omega⟩)
                                              have g750 : (fyE (fyG (h.2 25)) ((zshl 1 p1) - 1) p2) (64 * (x64 % 2) + x384) ((64 * (1 - (x64 % 2))) + (zxor x384 x651)) := ⟨r749, x651, ⟨by omega, by rw [← f748]; exact u689 (by omega), by omega, by rw [← f748]; rcases u715 with k9 | k9; exact k9.2; exact absurd k9.1 (by omega)⟩, n747.symm⟩
                                              exact ih691  (-1) h735 (by omega) s745 f746 (fyJ_s (t := ((64 * (1 - (x64 % 2))) + (zxor x384 x651))) hE9 (by omega) u685 (by omega) u688 g750 (by omega) (by omega) (zwr_v e736) (fun s n => zwr_r e736 (by omega))) (fyO_w (t := ((64 * (1 - (x64 % 2))) + (zxor x384 x651))) u686 (by rw [zwr_v e736]; omega) (fun s n => zwr_r e736 (by omega)) (by rw [zwr_v e736]; omega)) (by have p9 : fyM (fyG (h.2 25)) ((zshl 1 p1) - 1) p2 (h735.2 26) (64 * (x64 % 2) + x384) x651 := (fyM_w (t := ((64 * (1 - (x64 % 2))) + (zxor x384 x651))) u687 (fun s n => zwr_r e736 (by omega)) (by rw [zwr_v e736]; omega)); have h9 : fyL (fyG (h.2 25)) ((zshl 1 p1) - 1) p2 (64 * (x64 % 2) + x384) x651 → ¬ h735.2 26 (fyN (64 * (x64 % 2) + x384) x651) = 100000000 := (fun _ => by rw [n747, zwr_v e736]; omega); rw [show x651 = 0 by omega] at p9 h9; exact fyM_z p9 h9) ((zwr_r e736 (by omega)).trans u688) (fun z => absurd z (by omega)) (by omega)
                                have f751 : (zand ((zshl 1 p1) - 1) (zxor x384 (-1))) = fyF ((zshl 1 p1) - 1) (64 * (x64 % 2) + x384) := by first | exact fyF_0 (by omega) (by omega) | exact fyF_1 (by omega) (by omega)
                                have r752 : 0 ≤ (64 * (x64 % 2) + x384) ∧ (64 * (x64 % 2) + x384) < 128 ∧ (64 * (x64 % 2) + x384) % 64 ≤ ((zshl 1 p1) - 1) := by omega
                                exact lp683 _ (zand ((zshl 1 p1) - 1) (zxor x384 (-1))) h385 (by omega) s386 f387 u538 u539 (by have m9 := fyM_0 (S := (fyG (h.2 25))) (b := p2) (x := h385.2 26) hA9 r752; rw [← f751] at m9; exact m9) (by omega) (fun _ => fyz_0 (by omega)) (Nat.lt_succ_self _)
                            · refine zj_goto (t := 226) (zdk ttX11_ferry 64 rfl rfl) (by decide) ?_
                              refine zj_iinc (L' := [some (.inr 0), some (.inl p1), some (.inl p2), some (.inl ((zshl 1 p1) - 1)), some (.inl x64), some (.inl (x384 + 1)), some (.inl (x64 % 2)), none, none, none]) (zdk ttX11_ferry 126 rfl rfl) rfl (by decide) rfl ?_
                              refine zj_goto (t := 82) (zdk ttX11_ferry 127 rfl rfl) (by decide) ?_
                              refine zj_kill (k := 6) (L' := [some (.inr 0), some (.inl p1), some (.inl p2), some (.inl ((zshl 1 p1) - 1)), some (.inl x64), some (.inl (x384 + 1)), none, none, none, none]) rfl ?_
                              exact ih542  (x384 + 1) h385 (by omega) s386 f387 u538 (fyO_s (s0 := (64 * (x64 % 2) + x384)) u539 (fun s t a c e q => absurd (show h385.2 26 (64 * (x64 % 2) + x384) = x64 by rw [← q]; exact a) (by omega)) (fun s t a c e => by have p9 := fyJ_p hA9 (by omega) u538 (s := s) (by have := e.1; omega) a; omega)) (by omega) (by omega)
                      exact lp536 _ 0 h65 (by omega) s66 f67 (fyJ_m u378 (by omega)) fyO_0 (by omega) (Nat.lt_succ_self _)
                have s753 : okM h62 := awM_26 s21 e63 (by omega) (by unfold nsp; omega)
                have f754 : zfr [0] [26] h h62 := zfr_wa f22 e63 rfl
                exact lp376 _ 0 h62 (by omega) s753 f754 (fyJ_0 (zwr_v e63) (fun s a b n => (zwr_r e63 (by omega)).trans (u58 s a (by omega)))) (Nat.lt_succ_self _)
              · refine zj_aload_n (zdk ttX11_ferry 28 rfl rfl) rfl (by decide) ?_
                refine zj_getr (r := 26) (zdk ttX11_ferry 29 rfl rfl) zf_RX11_89 rfl (k_M s21) (rfM_47 s21) ?_
                refine zj_iload (zdk ttX11_ferry 30 rfl rfl) rfl ?_
                refine zj_ldc_w (z := 100000000) (zdk ttX11_ferry 31 rfl rfl) wc_RX11_411 ?_
                refine zj_iast (zdk ttX11_ferry 32 rfl rfl) (kaM_26 s21) (by decide) (by omega) (fun h755 e756 => ?_)
                refine zj_iinc (L' := [some (.inr 0), some (.inl p1), some (.inl p2), some (.inl ((zshl 1 p1) - 1)), some (.inl (x19 + 1)), none, none, none, none, none]) (zdk ttX11_ferry 33 rfl rfl) rfl (by decide) rfl ?_
                refine zj_goto (t := 37) (zdk ttX11_ferry 34 rfl rfl) (by decide) ?_
                have s757 : okM h755 := awM_26 s21 e756 (by omega) (by unfold nsp; omega)
                have f758 : zfr [0] [26] h h755 := zfr_wa f22 e756 rfl
                exact ih60  (x19 + 1) h755 (by omega) s757 f758 (fun j a b => (Classical.em (j = x19)).elim (fun q => by rw [q]; exact zwr_v e756) (fun q => (zwr_r e756 (by omega)).trans (u58 j a (by omega)))) (by omega)
          have f759 : zfr [0] [26] h h1 := zfr_wf (zfr_r _ _ _) e2 rfl
          exact lp56 _ 0 h1 (by omega) s3 f759 (fun j a b => absurd b (by omega)) (Nat.lt_succ_self _)
        · exact absurd c17 (by omega)

abbrev q2_X11_image (h : zM) (p1 : Int) : Option zV → zM → Prop := zqi fun v h' => (0 ≤ v ∧ v ≤ 1) ∧ okB h' ∧ zfr [0, 3, 6, 33, 35, 37, 42, 45, 49, 53, 58, 59, 60] [1, 4, 5, 6, 9, 10, 11, 12, 13, 14, 15, 17, 18, 19, 23, 24, 25, 28, 31, 32, 35] h h' ∧ (okM h') ∧ (zimc p1 (h.2 0 59) v (h'.2 0 59)) ∧ (zimx p1 (h.2 0 59) (h.2 0 42) (h.2 35 67) (h'.2 0 42) (h'.2 35 67)) ∧ (zimx p1 (h.2 0 59) (h.2 0 45) (h.2 35 68) (h'.2 0 45) (h'.2 35 68)) ∧ (zimx p1 (h.2 0 59) (h.2 0 49) (h.2 35 69) (h'.2 0 49) (h'.2 35 69)) ∧ (zimx p1 (h.2 0 59) (h.2 0 53) (h.2 35 70) (h'.2 0 53) (h'.2 35 70)) ∧ (zimx p1 (h.2 0 59) (h.2 0 6) (h.2 35 63) (h'.2 0 6) (h'.2 35 63)) ∧ (∀ j, 0 ≤ j → j < 6 → zimx p1 (h.2 0 59) (h.2 25 j) (h.2 35 (141 + 3 * j)) (h'.2 25 j) (h'.2 35 (141 + 3 * j)))
set_option maxRecDepth 100000 in
set_option maxHeartbeats 4000000 in
theorem s2_X11_image (l : Launch) (h : zM) (p1 : Int) (s0 : okB h) (b_p1 : 0 ≤ p1 ∧ p1 ≤ 1) (u_0 : okM h) : zT shM l yX11_image cX11_image 3 (some .boolean) (rmL 3) 0 0 [.inr 0, .inl p1] h (q2_X11_image h p1) := by
  refine zT_of (by decide +kernel) (L0 := [some (.inr 0), some (.inl p1), none]) rfl (Nat.le_of_ble_eq_true rfl) ?_
  refine zj_aload_n (zdk ttX11_image 0 rfl rfl) rfl (by decide) ?_
  refine zj_iconst (zdk ttX11_image 1 rfl rfl) ?_
  refine zj_puti (zdk ttX11_image 2 rfl rfl) zf_RX11_120 rfl (k_B s0) (Or.inl zw_RX11_120) (k2 := 0) rfl (fun h1 e2 => ?_)
  refine zj_iload_n (zdk ttX11_image 3 rfl rfl) rfl ?_
  refine zj_if_ne (t := 18) (zdk ttX11_image 4 rfl rfl) (by decide) (by omega) (fun c3 => ?_) (fun c3 => ?_)
  · refine zj_aload_n (zdk ttX11_image 10 rfl rfl) rfl (by decide) ?_
    refine zj_iload_n (zdk ttX11_image 11 rfl rfl) rfl ?_
    have s4 : okB h1 := fwB_0 s0 e2 (by omega)
    refine zj_putz (zdk ttX11_image 12 rfl rfl) zf_RX11_464 rfl (by omega) (k_B s4) (Or.inl zw_RX11_464) (k2 := 58) rfl (fun h5 e6 => ?_)
    refine zj_aload_n (zdk ttX11_image 13 rfl rfl) rfl (by decide) ?_
    refine zj_iconst (zdk ttX11_image 14 rfl rfl) ?_
    have s7 : okB h5 := fwB_58 s4 e6 (by omega)
    refine zj_putz (zdk ttX11_image 15 rfl rfl) zf_RX11_470 rfl (by omega) (k_B s7) (Or.inl zw_RX11_470) (k2 := 59) rfl (fun h8 e9 => ?_)
    refine zj_aload_n (zdk ttX11_image 16 rfl rfl) rfl (by decide) ?_
    refine zj_iconst (zdk ttX11_image 17 rfl rfl) ?_
    have s10 : okB h8 := fwB_59 s7 e9 (by omega)
    refine zj_puti (zdk ttX11_image 18 rfl rfl) zf_RX11_461 rfl (k_B s10) (Or.inl zw_RX11_461) (k2 := 60) rfl (fun h11 e12 => ?_)
    have f0 : zfr [0, 58, 59, 60] [] h h11 := (zfr_wf (zfr_wf (zfr_wf (zfr_wf (zfr_r _ _ _) e2 rfl) e6 rfl) e9 rfl) e12 rfl)
    have b13 : h11.2 0 58 = p1 := (((zwr_r e12 (by omega)).trans (zwr_r e9 (by omega))).trans (zwr_v e6))
    have b14 : h11.2 0 59 = 1 := ((zwr_r e12 (by omega)).trans (zwr_v e9))
    have b15 : h11.2 0 60 = 0 := (zwr_v e12)
    have hT0 : h11.2 0 58 = 0 → h.2 0 59 = 1 := fun q => by omega
    have zI0 := zPI_of u_0 f0 hT0
    have z0 : zSt h11 h11 0 := zSt_0 (by omega)
    refine zj_iconst (zdk ttX11_image 19 rfl rfl) ?_
    refine zj_istore_n (L' := [some (.inr 0), some (.inl p1), some (.inl 0)]) (zdk ttX11_image 20 rfl rfl) (by decide) rfl ?_
    have lp98 : ∀ (n35 : Nat) (x16 : Int) (h17 : zM), (0 ≤ x16 ∧ x16 ≤ 63) → okB h17 → zfr [0, 3, 6, 33, 35, 37, 42, 45, 49, 53, 58, 59, 60] [1, 4, 5, 6, 9, 10, 11, 12, 13, 14, 15, 17, 18, 19, 23, 24, 25, 28, 31, 32, 35] h h17 → (zSt h11 h17 (x16)) → (h17.2 0 59 = 1) → (64 - x16).toNat < n35 → zJ shM l yX11_image cX11_image 3 (some .boolean) (rmL 3) 0 0 (q2_X11_image h p1) 0 0 35 [some (.inr 0), some (.inl p1), some (.inl x16)] [] h17 := by
      intro n35
      induction n35 with
      | zero => intro x16 h17 b99 s18 f19 u100 u101 m102; exact absurd m102 (Nat.not_lt_zero _)
      | succ n35 ih103 =>
        intro x16 h17 b99 s18 f19 u100 u101 m102
        refine zj_iload_n (zdk ttX11_image 21 rfl rfl) rfl ?_
        refine zj_bipush (zdk ttX11_image 22 rfl rfl) (by decide) ?_
        refine zj_icmp_ge (t := 63) (zdk ttX11_image 23 rfl rfl) (by decide) (by omega) (by decide) (fun c104 => ?_) (fun c104 => ?_)
        · refine zj_aload_n (zdk ttX11_image 36 rfl rfl) rfl (by decide) ?_
          refine zj_callV (av := []) (st := []) (zdk ttX11_image 37 rfl rfl) mb_X11_keepsTold mv_RX11_473 (ci := 11) rfl rfl (k_B s18) rfl rfl (Nat.le_of_ble_eq_true rfl) (s_X11_keepsTold l h17 h11 s18 (zSt_j u100 (by omega)) zI0) (rm_ok (by decide) (by decide)) (zq_v fun h107 q105 => ?_)
          obtain ⟨s109, f111, u110⟩ := q105
          refine zj_iconst (zdk ttX11_image 38 rfl rfl) ?_
          refine zj_istore_n (L' := [some (.inr 0), some (.inl p1), some (.inl 0)]) (zdk ttX11_image 39 rfl rfl) (by decide) rfl ?_
          have lp233 : ∀ (n69 : Nat) (x112 : Int) (h113 : zM), (0 ≤ x112 ∧ x112 ≤ 600) → okB h113 → zfr [0, 3, 6, 33, 35, 37, 42, 45, 49, 53, 58, 59, 60] [1, 4, 5, 6, 9, 10, 11, 12, 13, 14, 15, 17, 18, 19, 23, 24, 25, 28, 31, 32, 35] h h113 → (zSt h11 h113 (262 + x112)) → (h113.2 0 59 = 1) → (601 - x112).toNat < n69 → zJ shM l yX11_image cX11_image 3 (some .boolean) (rmL 3) 0 0 (q2_X11_image h p1) 0 0 69 [some (.inr 0), some (.inl p1), some (.inl x112)] [] h113 := by
            intro n69
            induction n69 with
            | zero => intro x112 h113 b234 s114 f115 u235 u236 m237; exact absurd m237 (Nat.not_lt_zero _)
            | succ n69 ih238 =>
              intro x112 h113 b234 s114 f115 u235 u236 m237
              refine zj_iload_n (zdk ttX11_image 40 rfl rfl) rfl ?_
              refine zj_sipush (zdk ttX11_image 41 rfl rfl) (by decide) ?_
              refine zj_icmp_ge (t := 98) (zdk ttX11_image 42 rfl rfl) (by decide) (by omega) (by decide) (fun c239 => ?_) (fun c239 => ?_)
              · refine zj_aload_n (zdk ttX11_image 55 rfl rfl) rfl (by decide) ?_
                refine zj_callV (av := []) (st := []) (zdk ttX11_image 56 rfl rfl) mb_X11_keepsLaw mv_RX11_476 (ci := 11) rfl rfl (k_B s114) rfl rfl (Nat.le_of_ble_eq_true rfl) (s_X11_keepsLaw l h113 h11 s114 (zSt_j u235 (by omega)) zI0) (rm_ok (by decide) (by decide)) (zq_v fun h242 q240 => ?_)
                obtain ⟨s244, f246, u245⟩ := q240
                refine zj_iload_n (zdk ttX11_image 57 rfl rfl) rfl ?_
                refine zj_if_ne (t := 111) (zdk ttX11_image 58 rfl rfl) (by decide) (by omega) (fun c247 => ?_) (fun c247 => ?_)
                · refine zj_iconst (zdk ttX11_image 62 rfl rfl) ?_
                  have f248 : zfr [0, 3, 6, 33, 35, 37, 42, 45, 49, 53, 58, 59, 60] [1, 4, 5, 6, 9, 10, 11, 12, 13, 14, 15, 17, 18, 19, 23, 24, 25, 28, 31, 32, 35] h h242 := zfr_t f115 f246 rfl rfl
                  have b249 : h242.2 0 59 = (h113.2 0 59) := (zfr_f f246 rfl rfl)
                  have b250 : 0 ≤ (h113.2 0 59) ∧ (h113.2 0 59) ≤ 1 := fB_59 s114
                  have b251 : h242.2 0 59 = (h113.2 0 59) := (zfr_f f246 rfl rfl)
                  have b252 := zSt_pt f0 (zSt_j u245 (by omega)) (j := 67) (by decide) (zl_f42 rfl)
                  have b253 := zSt_pt f0 (zSt_j u245 (by omega)) (j := 68) (by decide) (zl_f45 rfl)
                  have b254 := zSt_pt f0 (zSt_j u245 (by omega)) (j := 69) (by decide) (zl_f49 rfl)
                  have b255 := zSt_pt f0 (zSt_j u245 (by omega)) (j := 70) (by decide) (zl_f53 rfl)
                  have b256 := zSt_pt f0 (zSt_j u245 (by omega)) (j := 63) (by decide) (zl_f6 rfl)
                  exact zj_zret rfl (zdk ttX11_image 63 rfl rfl) (Nat.le_refl _) (Nat.le_refl _) (by omega) ⟨1, rfl, by omega, s244, f248, (okM_img u_0 f0 (by omega) hT0 s244 f248 (zSt_j u245 (by omega))), by unfold zimc; omega, by unfold zimx; omega, by unfold zimx; omega, by unfold zimx; omega, by unfold zimx; omega, by unfold zimx; omega, (fun j a b => by have z9 := zSt_pt f0 (zSt_j u245 (by omega)) (j := (141 + 3 * j)) (by omega) (zl_25 (k := j) (by omega) (by omega)); unfold zimx; omega)⟩
                · exact absurd c247 (by omega)
              · refine zj_aload_n (zdk ttX11_image 43 rfl rfl) rfl (by decide) ?_
                refine zj_getr (r := 6) (zdk ttX11_image 44 rfl rfl) zf_RX11_25 rfl (k_B s114) (rfB_9 s114) ?_
                refine zj_iload_n (zdk ttX11_image 45 rfl rfl) rfl ?_
                refine zj_aload_n (zdk ttX11_image 46 rfl rfl) rfl (by decide) ?_
                refine zj_aload_n (zdk ttX11_image 47 rfl rfl) rfl (by decide) ?_
                refine zj_getr (r := 6) (zdk ttX11_image 48 rfl rfl) zf_RX11_25 rfl (k_B s114) (rfB_9 s114) ?_
                refine zj_iload_n (zdk ttX11_image 49 rfl rfl) rfl ?_
                have b257 : -2147483648 ≤ (h113.2 6 x112) ∧ (h113.2 6 x112) ≤ 2147483647 := abB_6 s114 x112
                refine zj_iald (v := (h113.2 6 x112)) (zdk ttX11_image 50 rfl rfl) (kaB_6 s114) (by decide) (by omega) rfl ?_
                refine zj_callV (av := [.inl (h113.2 6 x112)]) (st := [.inl x112, .inr 6]) (zdk ttX11_image 51 rfl rfl) mb_X11_keeps mv_RX11_467 (ci := 11) rfl rfl (k_B s114) rfl rfl (Nat.le_of_ble_eq_true rfl) (s_X11_keeps l h113 (h113.2 6 x112) s114 (by omega) (by have := u235.1; omega)) (rm_ok (by decide) (by decide)) (zq_i fun v259 h260 q258 => ?_)
                obtain ⟨b261, s262, f266, u263, u264, u265⟩ := q258
                refine zj_iast (zdk ttX11_image 52 rfl rfl) (kaB_6 s262) (by decide) (by omega) (fun h267 e268 => ?_)
                refine zj_iinc (L' := [some (.inr 0), some (.inl p1), some (.inl (x112 + 1))]) (zdk ttX11_image 53 rfl rfl) rfl (by decide) rfl ?_
                refine zj_goto (t := 69) (zdk ttX11_image 54 rfl rfl) (by decide) ?_
                have b269 : h267.2 0 59 = (h113.2 0 59) := ((zwr_r e268 (by omega)).trans (zfr_f f266 rfl rfl))
                have b270 : 0 ≤ (h113.2 0 59) ∧ (h113.2 0 59) ≤ 1 := fB_59 s114
                have z272r : h113.2 6 x112 = (h113.2 6 x112) := rfl
                have z272l : zloc (262 + x112) = (6, x112) := (zl_6 (by omega) (by omega))
                have z272 : zSt h11 h267 (262 + x112 + 1) := zSt_step u235 (by omega) z272l f266 u263 u264 z272r u265 e268
                have s271 : okB h267 := okB_w s262 e268 (zSt_pm u235 (by omega) z272l s114 zI0 u264 z272r u265)
                have f274 : zfr [0, 3, 6, 33, 35, 37, 42, 45, 49, 53, 58, 59, 60] [1, 4, 5, 6, 9, 10, 11, 12, 13, 14, 15, 17, 18, 19, 23, 24, 25, 28, 31, 32, 35] h h260 := zfr_t f115 f266 rfl rfl
                have f273 : zfr [0, 3, 6, 33, 35, 37, 42, 45, 49, 53, 58, 59, 60] [1, 4, 5, 6, 9, 10, 11, 12, 13, 14, 15, 17, 18, 19, 23, 24, 25, 28, 31, 32, 35] h h267 := zfr_wa f274 e268 rfl
                exact ih238  (x112 + 1) h267 (by omega) s271 f273 (zSt_j z272 (by omega)) (by omega) (by omega)
          have b275 : h107.2 0 59 = (h17.2 0 59) := (zfr_f f111 rfl rfl)
          have b276 : 0 ≤ (h17.2 0 59) ∧ (h17.2 0 59) ≤ 1 := fB_59 s18
          have f277 : zfr [0, 3, 6, 33, 35, 37, 42, 45, 49, 53, 58, 59, 60] [1, 4, 5, 6, 9, 10, 11, 12, 13, 14, 15, 17, 18, 19, 23, 24, 25, 28, 31, 32, 35] h h107 := zfr_t f19 f111 rfl rfl
          exact lp233 _ 0 h107 (by omega) s109 f277 (zSt_j u110 (by omega)) (by omega) (Nat.lt_succ_self _)
        · refine zj_aload_n (zdk ttX11_image 24 rfl rfl) rfl (by decide) ?_
          refine zj_getr (r := 1) (zdk ttX11_image 25 rfl rfl) zf_RX11_7 rfl (k_B s18) (rfB_1 s18) ?_
          refine zj_iload_n (zdk ttX11_image 26 rfl rfl) rfl ?_
          refine zj_aload_n (zdk ttX11_image 27 rfl rfl) rfl (by decide) ?_
          refine zj_aload_n (zdk ttX11_image 28 rfl rfl) rfl (by decide) ?_
          refine zj_getr (r := 1) (zdk ttX11_image 29 rfl rfl) zf_RX11_7 rfl (k_B s18) (rfB_1 s18) ?_
          refine zj_iload_n (zdk ttX11_image 30 rfl rfl) rfl ?_
          have b278 : -2147483648 ≤ (h17.2 1 x16) ∧ (h17.2 1 x16) ≤ 2147483647 := abB_1 s18 x16
          refine zj_iald (v := (h17.2 1 x16)) (zdk ttX11_image 31 rfl rfl) (kaB_1 s18) (by decide) (by omega) rfl ?_
          refine zj_callV (av := [.inl (h17.2 1 x16)]) (st := [.inl x16, .inr 1]) (zdk ttX11_image 32 rfl rfl) mb_X11_keeps mv_RX11_467 (ci := 11) rfl rfl (k_B s18) rfl rfl (Nat.le_of_ble_eq_true rfl) (s_X11_keeps l h17 (h17.2 1 x16) s18 (by omega) (by have := u100.1; omega)) (rm_ok (by decide) (by decide)) (zq_i fun v280 h281 q279 => ?_)
          obtain ⟨b282, s283, f287, u284, u285, u286⟩ := q279
          refine zj_iast (zdk ttX11_image 33 rfl rfl) (kaB_1 s283) (by decide) (by omega) (fun h288 e289 => ?_)
          refine zj_iinc (L' := [some (.inr 0), some (.inl p1), some (.inl (x16 + 1))]) (zdk ttX11_image 34 rfl rfl) rfl (by decide) rfl ?_
          refine zj_goto (t := 35) (zdk ttX11_image 35 rfl rfl) (by decide) ?_
          have b290 : h288.2 0 59 = (h17.2 0 59) := ((zwr_r e289 (by omega)).trans (zfr_f f287 rfl rfl))
          have b291 : 0 ≤ (h17.2 0 59) ∧ (h17.2 0 59) ≤ 1 := fB_59 s18
          have z293r : h17.2 1 x16 = (h17.2 1 x16) := rfl
          have z293l : zloc (x16) = (1, x16) := (zl_1 (by omega) (by omega))
          have z293 : zSt h11 h288 (x16 + 1) := zSt_step u100 (by omega) z293l f287 u284 u285 z293r u286 e289
          have s292 : okB h288 := okB_w s283 e289 (zSt_pm u100 (by omega) z293l s18 zI0 u285 z293r u286)
          have f295 : zfr [0, 3, 6, 33, 35, 37, 42, 45, 49, 53, 58, 59, 60] [1, 4, 5, 6, 9, 10, 11, 12, 13, 14, 15, 17, 18, 19, 23, 24, 25, 28, 31, 32, 35] h h281 := zfr_t f19 f287 rfl rfl
          have f294 : zfr [0, 3, 6, 33, 35, 37, 42, 45, 49, 53, 58, 59, 60] [1, 4, 5, 6, 9, 10, 11, 12, 13, 14, 15, 17, 18, 19, 23, 24, 25, 28, 31, 32, 35] h h288 := zfr_wa f295 e289 rfl
          exact ih103  (x16 + 1) h288 (by omega) s292 f294 (zSt_j z293 (by omega)) (by omega) (by omega)
    have b296 : h11.2 0 59 = 1 := ((zwr_r e12 (by omega)).trans (zwr_v e9))
    have s297 : okB h11 := fwB_60 s10 e12 (by omega)
    have f301 : zfr [0, 3, 6, 33, 35, 37, 42, 45, 49, 53, 58, 59, 60] [1, 4, 5, 6, 9, 10, 11, 12, 13, 14, 15, 17, 18, 19, 23, 24, 25, 28, 31, 32, 35] h h1 := zfr_wf (zfr_r _ _ _) e2 rfl
    have f300 : zfr [0, 3, 6, 33, 35, 37, 42, 45, 49, 53, 58, 59, 60] [1, 4, 5, 6, 9, 10, 11, 12, 13, 14, 15, 17, 18, 19, 23, 24, 25, 28, 31, 32, 35] h h5 := zfr_wf f301 e6 rfl
    have f299 : zfr [0, 3, 6, 33, 35, 37, 42, 45, 49, 53, 58, 59, 60] [1, 4, 5, 6, 9, 10, 11, 12, 13, 14, 15, 17, 18, 19, 23, 24, 25, 28, 31, 32, 35] h h8 := zfr_wf f300 e9 rfl
    have f298 : zfr [0, 3, 6, 33, 35, 37, 42, 45, 49, 53, 58, 59, 60] [1, 4, 5, 6, 9, 10, 11, 12, 13, 14, 15, 17, 18, 19, 23, 24, 25, 28, 31, 32, 35] h h11 := zfr_wf f299 e12 rfl
    exact lp98 _ 0 h11 (by omega) s297 f298 (zSt_j z0 (by omega)) (by omega) (Nat.lt_succ_self _)
  · refine zj_aload_n (zdk ttX11_image 5 rfl rfl) rfl (by decide) ?_
    have b302 : 0 ≤ (h.2 0 59) ∧ (h.2 0 59) ≤ 1 := fB_59 s0
    have s303 : okB h1 := fwB_0 s0 e2 (by omega)
    refine zj_geti (v := (h.2 0 59)) (zdk ttX11_image 6 rfl rfl) zf_RX11_470 rfl (k_B s303) (zwr_r e2 (by omega)) ?_
    refine zj_if_ne (t := 18) (zdk ttX11_image 7 rfl rfl) (by decide) (by omega) (fun c304 => ?_) (fun c304 => ?_)
    · refine zj_aload_n (zdk ttX11_image 10 rfl rfl) rfl (by decide) ?_
      refine zj_iload_n (zdk ttX11_image 11 rfl rfl) rfl ?_
      refine zj_putz (zdk ttX11_image 12 rfl rfl) zf_RX11_464 rfl (by omega) (k_B s303) (Or.inl zw_RX11_464) (k2 := 58) rfl (fun h305 e306 => ?_)
      refine zj_aload_n (zdk ttX11_image 13 rfl rfl) rfl (by decide) ?_
      refine zj_iconst (zdk ttX11_image 14 rfl rfl) ?_
      have s307 : okB h305 := fwB_58 s303 e306 (by omega)
      refine zj_putz (zdk ttX11_image 15 rfl rfl) zf_RX11_470 rfl (by omega) (k_B s307) (Or.inl zw_RX11_470) (k2 := 59) rfl (fun h308 e309 => ?_)
      refine zj_aload_n (zdk ttX11_image 16 rfl rfl) rfl (by decide) ?_
      refine zj_iconst (zdk ttX11_image 17 rfl rfl) ?_
      have s310 : okB h308 := fwB_59 s307 e309 (by omega)
      refine zj_puti (zdk ttX11_image 18 rfl rfl) zf_RX11_461 rfl (k_B s310) (Or.inl zw_RX11_461) (k2 := 60) rfl (fun h311 e312 => ?_)
      have f0 : zfr [0, 58, 59, 60] [] h h311 := (zfr_wf (zfr_wf (zfr_wf (zfr_wf (zfr_r _ _ _) e2 rfl) e306 rfl) e309 rfl) e312 rfl)
      have b313 : h311.2 0 58 = p1 := (((zwr_r e312 (by omega)).trans (zwr_r e309 (by omega))).trans (zwr_v e306))
      have b314 : h311.2 0 59 = 1 := ((zwr_r e312 (by omega)).trans (zwr_v e309))
      have b315 : h311.2 0 60 = 0 := (zwr_v e312)
      have hT0 : h311.2 0 58 = 0 → h.2 0 59 = 1 := fun q => by omega
      have zI0 := zPI_of u_0 f0 hT0
      have z0 : zSt h311 h311 0 := zSt_0 (by omega)
      refine zj_iconst (zdk ttX11_image 19 rfl rfl) ?_
      refine zj_istore_n (L' := [some (.inr 0), some (.inl p1), some (.inl 0)]) (zdk ttX11_image 20 rfl rfl) (by decide) rfl ?_
      have lp398 : ∀ (n35 : Nat) (x316 : Int) (h317 : zM), (0 ≤ x316 ∧ x316 ≤ 63) → okB h317 → zfr [0, 3, 6, 33, 35, 37, 42, 45, 49, 53, 58, 59, 60] [1, 4, 5, 6, 9, 10, 11, 12, 13, 14, 15, 17, 18, 19, 23, 24, 25, 28, 31, 32, 35] h h317 → (zSt h311 h317 (x316)) → (h317.2 0 59 = 1) → (64 - x316).toNat < n35 → zJ shM l yX11_image cX11_image 3 (some .boolean) (rmL 3) 0 0 (q2_X11_image h p1) 0 0 35 [some (.inr 0), some (.inl p1), some (.inl x316)] [] h317 := by
        intro n35
        induction n35 with
        | zero => intro x316 h317 b399 s318 f319 u400 u401 m402; exact absurd m402 (Nat.not_lt_zero _)
        | succ n35 ih403 =>
          intro x316 h317 b399 s318 f319 u400 u401 m402
          refine zj_iload_n (zdk ttX11_image 21 rfl rfl) rfl ?_
          refine zj_bipush (zdk ttX11_image 22 rfl rfl) (by decide) ?_
          refine zj_icmp_ge (t := 63) (zdk ttX11_image 23 rfl rfl) (by decide) (by omega) (by decide) (fun c404 => ?_) (fun c404 => ?_)
          · refine zj_aload_n (zdk ttX11_image 36 rfl rfl) rfl (by decide) ?_
            refine zj_callV (av := []) (st := []) (zdk ttX11_image 37 rfl rfl) mb_X11_keepsTold mv_RX11_473 (ci := 11) rfl rfl (k_B s318) rfl rfl (Nat.le_of_ble_eq_true rfl) (s_X11_keepsTold l h317 h311 s318 (zSt_j u400 (by omega)) zI0) (rm_ok (by decide) (by decide)) (zq_v fun h407 q405 => ?_)
            obtain ⟨s409, f411, u410⟩ := q405
            refine zj_iconst (zdk ttX11_image 38 rfl rfl) ?_
            refine zj_istore_n (L' := [some (.inr 0), some (.inl p1), some (.inl 0)]) (zdk ttX11_image 39 rfl rfl) (by decide) rfl ?_
            have lp533 : ∀ (n69 : Nat) (x412 : Int) (h413 : zM), (0 ≤ x412 ∧ x412 ≤ 600) → okB h413 → zfr [0, 3, 6, 33, 35, 37, 42, 45, 49, 53, 58, 59, 60] [1, 4, 5, 6, 9, 10, 11, 12, 13, 14, 15, 17, 18, 19, 23, 24, 25, 28, 31, 32, 35] h h413 → (zSt h311 h413 (262 + x412)) → (h413.2 0 59 = 1) → (601 - x412).toNat < n69 → zJ shM l yX11_image cX11_image 3 (some .boolean) (rmL 3) 0 0 (q2_X11_image h p1) 0 0 69 [some (.inr 0), some (.inl p1), some (.inl x412)] [] h413 := by
              intro n69
              induction n69 with
              | zero => intro x412 h413 b534 s414 f415 u535 u536 m537; exact absurd m537 (Nat.not_lt_zero _)
              | succ n69 ih538 =>
                intro x412 h413 b534 s414 f415 u535 u536 m537
                refine zj_iload_n (zdk ttX11_image 40 rfl rfl) rfl ?_
                refine zj_sipush (zdk ttX11_image 41 rfl rfl) (by decide) ?_
                refine zj_icmp_ge (t := 98) (zdk ttX11_image 42 rfl rfl) (by decide) (by omega) (by decide) (fun c539 => ?_) (fun c539 => ?_)
                · refine zj_aload_n (zdk ttX11_image 55 rfl rfl) rfl (by decide) ?_
                  refine zj_callV (av := []) (st := []) (zdk ttX11_image 56 rfl rfl) mb_X11_keepsLaw mv_RX11_476 (ci := 11) rfl rfl (k_B s414) rfl rfl (Nat.le_of_ble_eq_true rfl) (s_X11_keepsLaw l h413 h311 s414 (zSt_j u535 (by omega)) zI0) (rm_ok (by decide) (by decide)) (zq_v fun h542 q540 => ?_)
                  obtain ⟨s544, f546, u545⟩ := q540
                  refine zj_iload_n (zdk ttX11_image 57 rfl rfl) rfl ?_
                  refine zj_if_ne (t := 111) (zdk ttX11_image 58 rfl rfl) (by decide) (by omega) (fun c547 => ?_) (fun c547 => ?_)
                  · exact absurd c547 (by omega)
                  · refine zj_aload_n (zdk ttX11_image 59 rfl rfl) rfl (by decide) ?_
                    refine zj_iconst (zdk ttX11_image 60 rfl rfl) ?_
                    refine zj_puti (zdk ttX11_image 61 rfl rfl) zf_RX11_123 rfl (k_B s544) (Or.inl zw_RX11_123) (k2 := 3) rfl (fun h548 e549 => ?_)
                    refine zj_iconst (zdk ttX11_image 62 rfl rfl) ?_
                    have s550 : okB h548 := fwB_3 s544 e549 (by omega)
                    have f552 : zfr [0, 3, 6, 33, 35, 37, 42, 45, 49, 53, 58, 59, 60] [1, 4, 5, 6, 9, 10, 11, 12, 13, 14, 15, 17, 18, 19, 23, 24, 25, 28, 31, 32, 35] h h542 := zfr_t f415 f546 rfl rfl
                    have f551 : zfr [0, 3, 6, 33, 35, 37, 42, 45, 49, 53, 58, 59, 60] [1, 4, 5, 6, 9, 10, 11, 12, 13, 14, 15, 17, 18, 19, 23, 24, 25, 28, 31, 32, 35] h h548 := zfr_wf f552 e549 rfl
                    have b553 : h542.2 0 59 = (h413.2 0 59) := (zfr_f f546 rfl rfl)
                    have b554 : 0 ≤ (h413.2 0 59) ∧ (h413.2 0 59) ≤ 1 := fB_59 s414
                    have b555 : h548.2 0 59 = (h413.2 0 59) := ((zwr_r e549 (by omega)).trans (zfr_f f546 rfl rfl))
                    have b556 := zSt_pt f0 (zSt_j u545 (by omega)) (j := 67) (by decide) (zl_f42 rfl)
                    have b556a : h548.2 0 42 = h542.2 0 42 := zwr_r e549 (by decide)
                    have b556b : h548.2 35 67 = h542.2 35 67 := zwr_r e549 (by decide)
                    have b557 := zSt_pt f0 (zSt_j u545 (by omega)) (j := 68) (by decide) (zl_f45 rfl)
                    have b557a : h548.2 0 45 = h542.2 0 45 := zwr_r e549 (by decide)
                    have b557b : h548.2 35 68 = h542.2 35 68 := zwr_r e549 (by decide)
                    have b558 := zSt_pt f0 (zSt_j u545 (by omega)) (j := 69) (by decide) (zl_f49 rfl)
                    have b558a : h548.2 0 49 = h542.2 0 49 := zwr_r e549 (by decide)
                    have b558b : h548.2 35 69 = h542.2 35 69 := zwr_r e549 (by decide)
                    have b559 := zSt_pt f0 (zSt_j u545 (by omega)) (j := 70) (by decide) (zl_f53 rfl)
                    have b559a : h548.2 0 53 = h542.2 0 53 := zwr_r e549 (by decide)
                    have b559b : h548.2 35 70 = h542.2 35 70 := zwr_r e549 (by decide)
                    have b560 := zSt_pt f0 (zSt_j u545 (by omega)) (j := 63) (by decide) (zl_f6 rfl)
                    have b560a : h548.2 0 6 = h542.2 0 6 := zwr_r e549 (by decide)
                    have b560b : h548.2 35 63 = h542.2 35 63 := zwr_r e549 (by decide)
                    exact zj_zret rfl (zdk ttX11_image 63 rfl rfl) (Nat.le_refl _) (Nat.le_refl _) (by omega) ⟨1, rfl, by omega, s550, f551, (fwM_3 (okM_img u_0 f0 (by omega) hT0 s544 f552 (zSt_j u545 (by omega))) e549 (by decide)), by unfold zimc; omega, by unfold zimx; omega, by unfold zimx; omega, by unfold zimx; omega, by unfold zimx; omega, by unfold zimx; omega, (fun j a b => by have z9 := zSt_pt f0 (zSt_j u545 (by omega)) (j := (141 + 3 * j)) (by omega) (zl_25 (k := j) (by omega) (by omega)); have z1 : h548.2 25 j = h542.2 25 j := zwr_r e549 (by omega); have z2 : h548.2 35 (141 + 3 * j) = h542.2 35 (141 + 3 * j) := zwr_r e549 (by omega); unfold zimx; omega)⟩
                · refine zj_aload_n (zdk ttX11_image 43 rfl rfl) rfl (by decide) ?_
                  refine zj_getr (r := 6) (zdk ttX11_image 44 rfl rfl) zf_RX11_25 rfl (k_B s414) (rfB_9 s414) ?_
                  refine zj_iload_n (zdk ttX11_image 45 rfl rfl) rfl ?_
                  refine zj_aload_n (zdk ttX11_image 46 rfl rfl) rfl (by decide) ?_
                  refine zj_aload_n (zdk ttX11_image 47 rfl rfl) rfl (by decide) ?_
                  refine zj_getr (r := 6) (zdk ttX11_image 48 rfl rfl) zf_RX11_25 rfl (k_B s414) (rfB_9 s414) ?_
                  refine zj_iload_n (zdk ttX11_image 49 rfl rfl) rfl ?_
                  have b561 : -2147483648 ≤ (h413.2 6 x412) ∧ (h413.2 6 x412) ≤ 2147483647 := abB_6 s414 x412
                  refine zj_iald (v := (h413.2 6 x412)) (zdk ttX11_image 50 rfl rfl) (kaB_6 s414) (by decide) (by omega) rfl ?_
                  refine zj_callV (av := [.inl (h413.2 6 x412)]) (st := [.inl x412, .inr 6]) (zdk ttX11_image 51 rfl rfl) mb_X11_keeps mv_RX11_467 (ci := 11) rfl rfl (k_B s414) rfl rfl (Nat.le_of_ble_eq_true rfl) (s_X11_keeps l h413 (h413.2 6 x412) s414 (by omega) (by have := u535.1; omega)) (rm_ok (by decide) (by decide)) (zq_i fun v563 h564 q562 => ?_)
                  obtain ⟨b565, s566, f570, u567, u568, u569⟩ := q562
                  refine zj_iast (zdk ttX11_image 52 rfl rfl) (kaB_6 s566) (by decide) (by omega) (fun h571 e572 => ?_)
                  refine zj_iinc (L' := [some (.inr 0), some (.inl p1), some (.inl (x412 + 1))]) (zdk ttX11_image 53 rfl rfl) rfl (by decide) rfl ?_
                  refine zj_goto (t := 69) (zdk ttX11_image 54 rfl rfl) (by decide) ?_
                  have b573 : h571.2 0 59 = (h413.2 0 59) := ((zwr_r e572 (by omega)).trans (zfr_f f570 rfl rfl))
                  have b574 : 0 ≤ (h413.2 0 59) ∧ (h413.2 0 59) ≤ 1 := fB_59 s414
                  have z576r : h413.2 6 x412 = (h413.2 6 x412) := rfl
                  have z576l : zloc (262 + x412) = (6, x412) := (zl_6 (by omega) (by omega))
                  have z576 : zSt h311 h571 (262 + x412 + 1) := zSt_step u535 (by omega) z576l f570 u567 u568 z576r u569 e572
                  have s575 : okB h571 := okB_w s566 e572 (zSt_pm u535 (by omega) z576l s414 zI0 u568 z576r u569)
                  have f578 : zfr [0, 3, 6, 33, 35, 37, 42, 45, 49, 53, 58, 59, 60] [1, 4, 5, 6, 9, 10, 11, 12, 13, 14, 15, 17, 18, 19, 23, 24, 25, 28, 31, 32, 35] h h564 := zfr_t f415 f570 rfl rfl
                  have f577 : zfr [0, 3, 6, 33, 35, 37, 42, 45, 49, 53, 58, 59, 60] [1, 4, 5, 6, 9, 10, 11, 12, 13, 14, 15, 17, 18, 19, 23, 24, 25, 28, 31, 32, 35] h h571 := zfr_wa f578 e572 rfl
                  exact ih538  (x412 + 1) h571 (by omega) s575 f577 (zSt_j z576 (by omega)) (by omega) (by omega)
            have b579 : h407.2 0 59 = (h317.2 0 59) := (zfr_f f411 rfl rfl)
            have b580 : 0 ≤ (h317.2 0 59) ∧ (h317.2 0 59) ≤ 1 := fB_59 s318
            have f581 : zfr [0, 3, 6, 33, 35, 37, 42, 45, 49, 53, 58, 59, 60] [1, 4, 5, 6, 9, 10, 11, 12, 13, 14, 15, 17, 18, 19, 23, 24, 25, 28, 31, 32, 35] h h407 := zfr_t f319 f411 rfl rfl
            exact lp533 _ 0 h407 (by omega) s409 f581 (zSt_j u410 (by omega)) (by omega) (Nat.lt_succ_self _)
          · refine zj_aload_n (zdk ttX11_image 24 rfl rfl) rfl (by decide) ?_
            refine zj_getr (r := 1) (zdk ttX11_image 25 rfl rfl) zf_RX11_7 rfl (k_B s318) (rfB_1 s318) ?_
            refine zj_iload_n (zdk ttX11_image 26 rfl rfl) rfl ?_
            refine zj_aload_n (zdk ttX11_image 27 rfl rfl) rfl (by decide) ?_
            refine zj_aload_n (zdk ttX11_image 28 rfl rfl) rfl (by decide) ?_
            refine zj_getr (r := 1) (zdk ttX11_image 29 rfl rfl) zf_RX11_7 rfl (k_B s318) (rfB_1 s318) ?_
            refine zj_iload_n (zdk ttX11_image 30 rfl rfl) rfl ?_
            have b582 : -2147483648 ≤ (h317.2 1 x316) ∧ (h317.2 1 x316) ≤ 2147483647 := abB_1 s318 x316
            refine zj_iald (v := (h317.2 1 x316)) (zdk ttX11_image 31 rfl rfl) (kaB_1 s318) (by decide) (by omega) rfl ?_
            refine zj_callV (av := [.inl (h317.2 1 x316)]) (st := [.inl x316, .inr 1]) (zdk ttX11_image 32 rfl rfl) mb_X11_keeps mv_RX11_467 (ci := 11) rfl rfl (k_B s318) rfl rfl (Nat.le_of_ble_eq_true rfl) (s_X11_keeps l h317 (h317.2 1 x316) s318 (by omega) (by have := u400.1; omega)) (rm_ok (by decide) (by decide)) (zq_i fun v584 h585 q583 => ?_)
            obtain ⟨b586, s587, f591, u588, u589, u590⟩ := q583
            refine zj_iast (zdk ttX11_image 33 rfl rfl) (kaB_1 s587) (by decide) (by omega) (fun h592 e593 => ?_)
            refine zj_iinc (L' := [some (.inr 0), some (.inl p1), some (.inl (x316 + 1))]) (zdk ttX11_image 34 rfl rfl) rfl (by decide) rfl ?_
            refine zj_goto (t := 35) (zdk ttX11_image 35 rfl rfl) (by decide) ?_
            have b594 : h592.2 0 59 = (h317.2 0 59) := ((zwr_r e593 (by omega)).trans (zfr_f f591 rfl rfl))
            have b595 : 0 ≤ (h317.2 0 59) ∧ (h317.2 0 59) ≤ 1 := fB_59 s318
            have z597r : h317.2 1 x316 = (h317.2 1 x316) := rfl
            have z597l : zloc (x316) = (1, x316) := (zl_1 (by omega) (by omega))
            have z597 : zSt h311 h592 (x316 + 1) := zSt_step u400 (by omega) z597l f591 u588 u589 z597r u590 e593
            have s596 : okB h592 := okB_w s587 e593 (zSt_pm u400 (by omega) z597l s318 zI0 u589 z597r u590)
            have f599 : zfr [0, 3, 6, 33, 35, 37, 42, 45, 49, 53, 58, 59, 60] [1, 4, 5, 6, 9, 10, 11, 12, 13, 14, 15, 17, 18, 19, 23, 24, 25, 28, 31, 32, 35] h h585 := zfr_t f319 f591 rfl rfl
            have f598 : zfr [0, 3, 6, 33, 35, 37, 42, 45, 49, 53, 58, 59, 60] [1, 4, 5, 6, 9, 10, 11, 12, 13, 14, 15, 17, 18, 19, 23, 24, 25, 28, 31, 32, 35] h h592 := zfr_wa f599 e593 rfl
            exact ih403  (x316 + 1) h592 (by omega) s596 f598 (zSt_j z597 (by omega)) (by omega) (by omega)
      have b600 : h311.2 0 59 = 1 := ((zwr_r e312 (by omega)).trans (zwr_v e309))
      have s601 : okB h311 := fwB_60 s310 e312 (by omega)
      have f605 : zfr [0, 3, 6, 33, 35, 37, 42, 45, 49, 53, 58, 59, 60] [1, 4, 5, 6, 9, 10, 11, 12, 13, 14, 15, 17, 18, 19, 23, 24, 25, 28, 31, 32, 35] h h1 := zfr_wf (zfr_r _ _ _) e2 rfl
      have f604 : zfr [0, 3, 6, 33, 35, 37, 42, 45, 49, 53, 58, 59, 60] [1, 4, 5, 6, 9, 10, 11, 12, 13, 14, 15, 17, 18, 19, 23, 24, 25, 28, 31, 32, 35] h h305 := zfr_wf f605 e306 rfl
      have f603 : zfr [0, 3, 6, 33, 35, 37, 42, 45, 49, 53, 58, 59, 60] [1, 4, 5, 6, 9, 10, 11, 12, 13, 14, 15, 17, 18, 19, 23, 24, 25, 28, 31, 32, 35] h h308 := zfr_wf f604 e309 rfl
      have f602 : zfr [0, 3, 6, 33, 35, 37, 42, 45, 49, 53, 58, 59, 60] [1, 4, 5, 6, 9, 10, 11, 12, 13, 14, 15, 17, 18, 19, 23, 24, 25, 28, 31, 32, 35] h h311 := zfr_wf f603 e312 rfl
      exact lp398 _ 0 h311 (by omega) s601 f602 (zSt_j z0 (by omega)) (by omega) (Nat.lt_succ_self _)
    · refine zj_iconst (zdk ttX11_image 8 rfl rfl) ?_
      have f606 : zfr [0, 3, 6, 33, 35, 37, 42, 45, 49, 53, 58, 59, 60] [1, 4, 5, 6, 9, 10, 11, 12, 13, 14, 15, 17, 18, 19, 23, 24, 25, 28, 31, 32, 35] h h1 := zfr_wf (zfr_r _ _ _) e2 rfl
      have b607 : h1.2 0 59 = (h.2 0 59) := (zwr_r e2 (by omega))
      have b608 : h1.2 0 42 = (h.2 0 42) := (zwr_r e2 (by omega))
      have b609 : 0 ≤ (h.2 0 42) ∧ (h.2 0 42) ≤ 5 := fB_42 s0
      have b610 : h1.2 35 67 = (h.2 35 67) := (zwr_r e2 (by omega))
      have b611 : h1.2 0 45 = (h.2 0 45) := (zwr_r e2 (by omega))
      have b612 : -2147483648 ≤ (h.2 0 45) ∧ (h.2 0 45) ≤ 2147483647 := fB_45 s0
      have b613 : h1.2 35 68 = (h.2 35 68) := (zwr_r e2 (by omega))
      have b614 : h1.2 0 49 = (h.2 0 49) := (zwr_r e2 (by omega))
      have b615 : 0 ≤ (h.2 0 49) ∧ (h.2 0 49) ≤ 7 := fB_49 s0
      have b616 : h1.2 35 69 = (h.2 35 69) := (zwr_r e2 (by omega))
      have b617 : h1.2 0 53 = (h.2 0 53) := (zwr_r e2 (by omega))
      have b618 : 0 ≤ (h.2 0 53) ∧ (h.2 0 53) ≤ 6 := fB_53 s0
      have b619 : h1.2 35 70 = (h.2 35 70) := (zwr_r e2 (by omega))
      have b620 : h1.2 0 6 = (h.2 0 6) := (zwr_r e2 (by omega))
      have b621 : 0 ≤ (h.2 0 6) ∧ (h.2 0 6) ≤ 18 := fB_6 s0
      have b622 : h1.2 35 63 = (h.2 35 63) := (zwr_r e2 (by omega))
      exact zj_zret rfl (zdk ttX11_image 9 rfl rfl) (Nat.le_refl _) (Nat.le_refl _) (by omega) ⟨0, rfl, by omega, s303, f606, (fwM_0 u_0 e2 (by decide)), by unfold zimc; omega, by unfold zimx; omega, by unfold zimx; omega, by unfold zimx; omega, by unfold zimx; omega, by unfold zimx; omega, (fun j a b => by have z1 : h1.2 25 j = h.2 25 j := (zwr_r e2 (by omega)); have z2 : h1.2 35 (141 + 3 * j) = h.2 35 (141 + 3 * j) := (zwr_r e2 (by omega)); unfold zimx; omega)⟩
