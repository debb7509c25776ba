def zbc1 (x : Int) : Int := (x - (zand (zushr x 1) 1431655765))
def zbc2 (x : Int) : Int := ((zand x 858993459) + (zand (zushr x 2) 858993459))
def zbc3 (x : Int) : Int := (zand (x + (zushr x 4)) 252645135)
def zbc4 (x : Int) : Int := (x + (zushr x 8))
def zbc5 (x : Int) : Int := (x + (zushr x 16))
def zbcF (x : Int) : Int := (zand (zbc5 (zbc4 (zbc3 (zbc2 (zbc1 x))))) 63)
theorem s2_J6_bitCount_0f7a4 (sh : zSh) (l : Launch) (h : zM) (x : Int) : zT sh l yJ6_bitCount_0f7a4 cJ6_bitCount_0f7a4 1 (some .int) (rmL 0) 0 0 [.inl x] h (zqi fun v h' => h = h' ∧ v = zbcF x) := by
  refine zT_of (by decide +kernel) (L0 := [some (.inl x)]) rfl (Nat.le_of_ble_eq_true rfl) ?_
  refine zj_iload_n (zdk ttJ6_bitCount_0f7a4 0 rfl rfl) rfl ?_
  refine zj_iload_n (zdk ttJ6_bitCount_0f7a4 1 rfl rfl) rfl ?_
  refine zj_iconst (zdk ttJ6_bitCount_0f7a4 2 rfl rfl) ?_
  refine zj_iushr (zdk ttJ6_bitCount_0f7a4 3 rfl rfl) ?_
  refine zj_ldc_w (z := 1431655765) (zdk ttJ6_bitCount_0f7a4 4 rfl rfl) wc_RJ6_265 ?_
  refine zj_iand (zdk ttJ6_bitCount_0f7a4 5 rfl rfl) ?_
  refine zj_isub (zdk ttJ6_bitCount_0f7a4 6 rfl rfl) ?_
  refine zj_istore_n (L' := [some (.inl (zbc1 x))]) (zdk ttJ6_bitCount_0f7a4 7 rfl rfl) (by decide) rfl ?_
  refine zj_iload_n (zdk ttJ6_bitCount_0f7a4 8 rfl rfl) rfl ?_
  refine zj_ldc_w (z := 858993459) (zdk ttJ6_bitCount_0f7a4 9 rfl rfl) wc_RJ6_266 ?_
  refine zj_iand (zdk ttJ6_bitCount_0f7a4 10 rfl rfl) ?_
  refine zj_iload_n (zdk ttJ6_bitCount_0f7a4 11 rfl rfl) rfl ?_
  refine zj_iconst (zdk ttJ6_bitCount_0f7a4 12 rfl rfl) ?_
  refine zj_iushr (zdk ttJ6_bitCount_0f7a4 13 rfl rfl) ?_
  refine zj_ldc_w (z := 858993459) (zdk ttJ6_bitCount_0f7a4 14 rfl rfl) wc_RJ6_266 ?_
  refine zj_iand (zdk ttJ6_bitCount_0f7a4 15 rfl rfl) ?_
  refine zj_iadd (zdk ttJ6_bitCount_0f7a4 16 rfl rfl) ?_
  refine zj_istore_n (L' := [some (.inl (zbc2 (zbc1 x)))]) (zdk ttJ6_bitCount_0f7a4 17 rfl rfl) (by decide) rfl ?_
  refine zj_iload_n (zdk ttJ6_bitCount_0f7a4 18 rfl rfl) rfl ?_
  refine zj_iload_n (zdk ttJ6_bitCount_0f7a4 19 rfl rfl) rfl ?_
  refine zj_iconst (zdk ttJ6_bitCount_0f7a4 20 rfl rfl) ?_
  refine zj_iushr (zdk ttJ6_bitCount_0f7a4 21 rfl rfl) ?_
  refine zj_iadd (zdk ttJ6_bitCount_0f7a4 22 rfl rfl) ?_
  refine zj_ldc_w (z := 252645135) (zdk ttJ6_bitCount_0f7a4 23 rfl rfl) wc_RJ6_267 ?_
  refine zj_iand (zdk ttJ6_bitCount_0f7a4 24 rfl rfl) ?_
  refine zj_istore_n (L' := [some (.inl (zbc3 (zbc2 (zbc1 x))))]) (zdk ttJ6_bitCount_0f7a4 25 rfl rfl) (by decide) rfl ?_
  refine zj_iload_n (zdk ttJ6_bitCount_0f7a4 26 rfl rfl) rfl ?_
  refine zj_iload_n (zdk ttJ6_bitCount_0f7a4 27 rfl rfl) rfl ?_
  refine zj_bipush (zdk ttJ6_bitCount_0f7a4 28 rfl rfl) (by decide) ?_
  refine zj_iushr (zdk ttJ6_bitCount_0f7a4 29 rfl rfl) ?_
  refine zj_iadd (zdk ttJ6_bitCount_0f7a4 30 rfl rfl) ?_
  refine zj_istore_n (L' := [some (.inl (zbc4 (zbc3 (zbc2 (zbc1 x)))))]) (zdk ttJ6_bitCount_0f7a4 31 rfl rfl) (by decide) rfl ?_
  refine zj_iload_n (zdk ttJ6_bitCount_0f7a4 32 rfl rfl) rfl ?_
  refine zj_iload_n (zdk ttJ6_bitCount_0f7a4 33 rfl rfl) rfl ?_
  refine zj_bipush (zdk ttJ6_bitCount_0f7a4 34 rfl rfl) (by decide) ?_
  refine zj_iushr (zdk ttJ6_bitCount_0f7a4 35 rfl rfl) ?_
  refine zj_iadd (zdk ttJ6_bitCount_0f7a4 36 rfl rfl) ?_
  refine zj_istore_n (L' := [some (.inl (zbc5 (zbc4 (zbc3 (zbc2 (zbc1 x))))))]) (zdk ttJ6_bitCount_0f7a4 37 rfl rfl) (by decide) rfl ?_
  refine zj_iload_n (zdk ttJ6_bitCount_0f7a4 38 rfl rfl) rfl ?_
  refine zj_bipush (zdk ttJ6_bitCount_0f7a4 39 rfl rfl) (by decide) ?_
  refine zj_iand (zdk ttJ6_bitCount_0f7a4 40 rfl rfl) ?_
  exact zj_iret rfl (zdk ttJ6_bitCount_0f7a4 41 rfl rfl) (Nat.le_refl _) (Nat.le_refl _) ⟨(zand (zbc5 (zbc4 (zbc3 (zbc2 (zbc1 x))))) 63), rfl, rfl, rfl⟩
def tSk (f : Int → Int) : Nat → List Int
  | 0 => []
  | n + 1 => f n :: tSk f n
theorem tSk_x {f g : Int → Int} : ∀ n : Nat, (∀ i : Int, 0 ≤ i → i < n → g i = f i) → tSk g n = tSk f n
  | 0, _ => rfl
  | n + 1, h => by
    show g n :: tSk g n = f n :: tSk f n
    rw [h n (by omega) (by omega), tSk_x n (fun i a b => h i a (by omega))]
theorem tSk_t (f : Int → Int) {n : Int} (h : 0 < n) : tSk f n.toNat = f (n - 1) :: tSk f (n - 1).toNat := by
  rw [show n.toNat = (n - 1).toNat + 1 by omega]
  show f (((n - 1).toNat : Nat) : Int) :: tSk f (n - 1).toNat = _
  rw [show (((n - 1).toNat : Nat) : Int) = n - 1 by omega]
theorem tSk_p {f g : Int → Int} {n n' w : Int} (h0 : 0 ≤ n) (hn : n' = n + 1) (hv : g n = w) (ho : ∀ j, ¬ j = n → g j = f j) : tSk g n'.toNat = w :: tSk f n.toNat := by
  subst hn
  rw [tSk_t g (by omega), show n + 1 - 1 = n by omega, hv, tSk_x (f := f) (g := g) n.toNat (fun i a b => ho i (by omega))]
/-! ===== full simulation: bits ===== -/
def fgb (x : Int) (i : Nat) : Bool := (Int32.ofInt x).toBitVec.getLsbD i
theorem fgb_and (a b : Int) (i : Nat) : fgb (zand a b) i = (fgb a i && fgb b i) := by
  show (Int32.ofInt ((Int32.ofInt a &&& Int32.ofInt b).toInt)).toBitVec.getLsbD i = _
  rw [Int32.ofInt_toInt, Int32.toBitVec_and, BitVec.getLsbD_and]; rfl
theorem fgb_or (a b : Int) (i : Nat) : fgb (zor a b) i = (fgb a i || fgb b i) := by
  show (Int32.ofInt ((Int32.ofInt a ||| Int32.ofInt b).toInt)).toBitVec.getLsbD i = _
  rw [Int32.ofInt_toInt, Int32.toBitVec_or, BitVec.getLsbD_or]; rfl
theorem fgb_xor (a b : Int) (i : Nat) : fgb (zxor a b) i = (fgb a i ^^ fgb b i) := by
  show (Int32.ofInt ((Int32.ofInt a ^^^ Int32.ofInt b).toInt)).toBitVec.getLsbD i = _
  rw [Int32.ofInt_toInt, Int32.toBitVec_xor, BitVec.getLsbD_xor]; rfl
theorem fgb_m1 : ∀ i : Nat, i < 32 → fgb (-1) i = true := by decide +kernel
theorem fgb_32 (x : Int) {i : Nat} (h : 32 ≤ i) : fgb x i = false := BitVec.getLsbD_of_ge _ _ h
theorem fgb_sh : ∀ k : Nat, k < 31 → ∀ i : Nat, i < 32 → fgb (zshl 1 (k : Int)) i = decide (i = k) := by decide +kernel
theorem fgb_s1 {k : Int} (hk : 0 ≤ k ∧ k ≤ 30) (i : Nat) : fgb (zshl 1 k) i = decide (i = k.toNat) := by
  by_cases hi : i < 32
  · have h := fgb_sh k.toNat (by omega) i hi
    rw [Int.toNat_of_nonneg hk.1] at h
    exact h
  · rw [fgb_32 _ (by omega)]
    exact (decide_eq_false (by omega)).symm
theorem fgb_set {k : Int} (x : Int) (hk : 0 ≤ k ∧ k ≤ 30) (i : Nat) : fgb (zor x (zshl 1 k)) i = (fgb x i || decide (i = k.toNat)) := by
  rw [fgb_or, fgb_s1 hk]
theorem fgb_clr {k : Int} (x : Int) (hk : 0 ≤ k ∧ k ≤ 30) (i : Nat) : fgb (zand x (zxor (zshl 1 k) (-1))) i = (fgb x i && !decide (i = k.toNat)) := by
  rw [fgb_and, fgb_xor, fgb_s1 hk]
  by_cases hi : i < 32
  · rw [fgb_m1 i hi, Bool.xor_true]
  · rw [fgb_32 x (by omega), Bool.false_and, Bool.false_and]
theorem fgb_0 (i : Nat) : fgb 0 i = false := by
  by_cases hi : i < 32
  · have h : ∀ i : Nat, i < 32 → fgb 0 i = false := by decide +kernel
    exact h i hi
  · exact fgb_32 _ (by omega)
theorem fgb_x {x y : Int} (hx : -2147483648 ≤ x ∧ x ≤ 2147483647) (hy : -2147483648 ≤ y ∧ y ≤ 2147483647) (h : ∀ i, i < 32 → fgb x i = fgb y i) : x = y := by
  have e : (Int32.ofInt x) = (Int32.ofInt y) := Int32.toBitVec_inj.mp (BitVec.eq_of_getLsbD_eq fun i hi => h i hi)
  have e2 : (Int32.ofInt x).toInt = (Int32.ofInt y).toInt := by rw [e]
  rw [Int32.toInt_ofInt_of_le (by omega) (by omega), Int32.toInt_ofInt_of_le (by omega) (by omega)] at e2
  exact e2
theorem fgb_p {x : Int} (hx : 0 ≤ x ∧ x ≤ 2147483647) (i : Nat) : fgb x i = x.toNat.testBit i := by
  show (Int32.ofInt x).toBitVec.toNat.testBit i = _
  rw [zb_pos hx]
theorem zshr_p {x i : Int} (hx : 0 ≤ x ∧ x ≤ 2147483647) (hi : 0 ≤ i ∧ i ≤ 31) : zshr x i = ((x.toNat / 2 ^ i.toNat : Nat) : Int) := by
  have hs : ∀ k : Nat, k < 32 → ((Int32.ofInt (k : Int) &&& 31).toBitVec.smod 32).toNat = k := by decide +kernel
  have h1 : zshr x i = (Int32.ofInt x).toInt >>> i.toNat := by
    show (Int32.ofInt x >>> (Int32.ofInt i &&& 31)).toInt = _
    refine pk_shr _ _ i.toNat ?_
    have h2 := hs i.toNat (by omega)
    rw [Int.toNat_of_nonneg hi.1] at h2
    exact h2
  rw [h1, Int32.toInt_ofInt_of_le (by omega) (by omega), Int.shiftRight_eq_div_pow, Int.natCast_ediv, Int.toNat_of_nonneg hx.1]
theorem fgb_t {x i : Int} (hx : 0 ≤ x ∧ x ≤ 2147483647) (hi : 0 ≤ i ∧ i ≤ 31) : zand (zshr x i) 1 = if fgb x i.toNat then 1 else 0 := by
  rw [zshr_p hx hi, zand_m (d := 2) 1 (by decide) (by decide) (by decide), fgb_p hx, Nat.testBit_eq_decide_div_mod_eq]
  generalize x.toNat / 2 ^ i.toNat = q
  by_cases z : q % 2 = 1
  · rw [if_pos (decide_eq_true z)]; omega
  · rw [if_neg (by simp only [decide_eq_true_eq]; exact z)]; omega
theorem fgb_t1 {x i : Int} (hx : 0 ≤ x ∧ x ≤ 2147483647) (hi : 0 ≤ i ∧ i ≤ 31) : zand (zshr x i) 1 = 1 ↔ fgb x i.toNat = true := by
  rw [fgb_t hx hi]
  cases fgb x i.toNat <;> simp
theorem fgb_k {x : Int} (k : Nat) (hk : k ≤ 30) (hx : -2147483648 ≤ x ∧ x ≤ 2147483647) (h : ∀ i, k ≤ i → i < 32 → fgb x i = false) : 0 ≤ x ∧ x < 2 ^ k := by
  have h0 : 0 ≤ x := by
    refine Int.not_lt.mp fun z => ?_
    have h31 := h 31 (by omega) (by omega)
    have e : (Int32.ofInt x).toBitVec.toNat = (x + 4294967296).toNat := by rw [zb_of]; congr 1; omega
    have e2 : (Int32.ofInt x).toBitVec.toNat.testBit 31 = false := h31
    rw [e, Nat.testBit_eq_decide_div_mod_eq, show (2 : Nat) ^ 31 = 2147483648 by decide] at e2
    have e3 := of_decide_eq_false e2
    omega
  refine ⟨h0, ?_⟩
  have t : x.toNat < 2 ^ k := Nat.lt_pow_two_of_testBit _ fun i hi => by
    by_cases z : i < 32
    · rw [← fgb_p ⟨h0, hx.2⟩]; exact h i hi z
    · rw [← fgb_p ⟨h0, hx.2⟩]; exact fgb_32 _ (by omega)
  have hp : (2 : Int) ^ k = ((2 ^ k : Nat) : Int) := by simp
  omega
/-- how many -/
def fct (p : Nat → Bool) : Nat → Int
  | 0 => 0
  | n + 1 => fct p n + (if p n then 1 else 0)
theorem fct_x {p q : Nat → Bool} : ∀ n : Nat, (∀ i, i < n → p i = q i) → fct p n = fct q n
  | 0, _ => rfl
  | n + 1, h => by
    show fct p n + _ = fct q n + _
    rw [fct_x n (fun i hi => h i (by omega)), h n (by omega)]
theorem fct_z {p : Nat → Bool} {n : Nat} : ∀ k : Nat, (∀ i, n ≤ i → i < n + k → p i = false) → fct p (n + k) = fct p n
  | 0, _ => rfl
  | k + 1, h => by
    show fct p (n + k) + (if p (n + k) then 1 else 0) = _
    rw [fct_z k (fun i a b => h i a (by omega)), h (n + k) (by omega) (by omega)]
    simp
theorem fct_b (p : Nat → Bool) : ∀ n : Nat, 0 ≤ fct p n ∧ fct p n ≤ n
  | 0 => ⟨Int.le_refl _, Int.le_refl _⟩
  | n + 1 => by
    have h := fct_b p n
    show 0 ≤ fct p n + _ ∧ fct p n + _ ≤ _
    split <;> omega
theorem land2 (a b : Nat) : (a &&& b) / 2 = (a / 2) &&& (b / 2) ∧ (a &&& b) % 2 = (a % 2) * (b % 2) := by
  constructor
  · apply Nat.eq_of_testBit_eq
    intro i
    rw [Nat.testBit_and, ← Nat.testBit_add_one, ← Nat.testBit_add_one, ← Nat.testBit_add_one, Nat.testBit_and]
  · have h := Nat.testBit_and a b 0
    rw [Nat.testBit_zero, Nat.testBit_zero, Nat.testBit_zero] at h
    rcases Nat.mod_two_eq_zero_or_one a with ha | ha <;> rcases Nat.mod_two_eq_zero_or_one b with hb | hb <;> rw [ha, hb] at h ⊢ <;> rcases Nat.mod_two_eq_zero_or_one (a &&& b) with q | q <;> rw [q] at h ⊢ <;> (first | rfl | exact absurd h (by decide))
/-- the lowest one goes away -/
theorem fct_l : ∀ (n v : Nat), v < 2 ^ n → 0 < v → fct (fun i => (v &&& (v - 1)).testBit i) n + 1 = fct (fun i => v.testBit i) n := by
  intro n
  induction n with
  | zero => intro v h h0; rw [Nat.pow_zero] at h; omega
  | succ n ih =>
    have sp : ∀ w : Nat, fct (fun i => w.testBit i) (n + 1) = fct (fun i => (w / 2).testBit i) n + (w % 2 : Nat) := by
      intro w
      have s : ∀ m : Nat, fct (fun i => w.testBit i) (m + 1) = fct (fun i => (w / 2).testBit i) m + (w % 2 : Nat) := by
        intro m
        induction m with
        | zero =>
          show fct _ 0 + (if w.testBit 0 then 1 else 0) = fct _ 0 + _
          rw [Nat.testBit_zero]
          rcases Nat.mod_two_eq_zero_or_one w with z | z <;> rw [z] <;> rfl
        | succ m im =>
          show fct _ (m + 1) + (if w.testBit (m + 1) then 1 else 0) = fct _ m + (if (w / 2).testBit m then 1 else 0) + _
          rw [im, Nat.testBit_add_one]; omega
      exact s n
    intro v h h0
    have hv : v / 2 < 2 ^ n := by rw [Nat.pow_succ] at h; omega
    have l2 := land2 v (v - 1)
    rw [sp v, sp (v &&& (v - 1)), l2.1, l2.2]
    rcases Nat.mod_two_eq_zero_or_one v with z | z
    · have e1 : (v - 1) / 2 = v / 2 - 1 := by omega
      have e2 : (v - 1) % 2 = 1 := by omega
      have q := ih (v / 2) hv (by omega)
      rw [e1, z, Nat.zero_mul]
      omega
    · have e1 : (v - 1) / 2 = v / 2 := by omega
      have e2 : (v - 1) % 2 = 0 := by omega
      rw [e1, z, e2, Nat.and_self, Nat.mul_zero]
      omega
theorem zand_p {a b : Int} (ha : 0 ≤ a ∧ a ≤ 2147483647) (hb : 0 ≤ b ∧ b ≤ 2147483647) : zand a b = ((a.toNat &&& b.toNat : Nat) : Int) := by
  have h1 := zand_n a b
  rw [zb_pos ha, zb_pos hb] at h1
  have h2 : a.toNat &&& b.toNat ≤ a.toNat := Nat.and_le_left
  exact zb_nat h1 (by omega)
theorem fct_1 {x : Int} (hx : 0 < x ∧ x ≤ 2147483647) : fct (fgb (zand x (x - 1))) 31 + 1 = fct (fgb x) 31 := by
  have e := zand_p (a := x) (b := x - 1) (by omega) (by omega)
  have b := zand_l (a := x) (by omega) (x - 1)
  have q := fct_l 31 x.toNat (by have : (2 : Nat) ^ 31 = 2147483648 := by decide
                                 omega) (by omega)
  rw [fct_x (q := fun i => (x.toNat &&& (x.toNat - 1)).testBit i) 31 (fun i _ => by rw [fgb_p (by omega), e, Int.toNat_natCast, show (x - 1).toNat = x.toNat - 1 by omega]), fct_x (p := fgb x) (q := fun i => x.toNat.testBit i) 31 (fun i _ => fgb_p (by omega) i)]
  exact q
theorem fct_0 : fct (fgb 0) 31 = 0 := by
  rw [fct_x (q := fun _ => false) 31 (fun i _ => fgb_0 i)]
  rfl
/-! ===== bitCount's words ===== -/
theorem land_s {a m B M : Nat} (k : Nat) (ha : a < 2 ^ k) (hm : m < 2 ^ k) : (2 ^ k * B + a) &&& (2 ^ k * M + m) = 2 ^ k * (B &&& M) + (a &&& m) := by
  apply Nat.eq_of_testBit_eq
  intro i
  rw [Nat.testBit_and, Nat.testBit_two_pow_mul_add _ ha, Nat.testBit_two_pow_mul_add _ hm, Nat.testBit_two_pow_mul_add _ (Nat.lt_of_le_of_lt Nat.and_le_left ha)]
  split <;> rw [Nat.testBit_and]
theorem land3 {a b c x y z : Nat} (ha : a < 256) (hb : b < 256) (hx : x < 256) (hy : y < 256) : (65536 * c + 256 * b + a) &&& (65536 * z + 256 * y + x) = 65536 * (c &&& z) + 256 * (b &&& y) + (a &&& x) := by
  have p8 : (2 : Nat) ^ 8 = 256 := by decide
  have h1 := land_s (B := 256 * c + b) (M := 256 * z + y) 8 (show a < 2 ^ 8 by omega) (show x < 2 ^ 8 by omega)
  have h2 := land_s (B := c) (M := z) 8 (show b < 2 ^ 8 by omega) (show y < 2 ^ 8 by omega)
  rw [p8] at h1 h2
  rw [h2] at h1
  rw [show 65536 * c + 256 * b + a = 256 * (256 * c + b) + a by omega, show 65536 * z + 256 * y + x = 256 * (256 * z + y) + x by omega, h1]
  omega
theorem zushr_p {x i : Int} (hx : 0 ≤ x ∧ x ≤ 2147483647) (hi : 0 ≤ i ∧ i ≤ 31) : zushr x i = ((x.toNat / 2 ^ i.toNat : Nat) : Int) := by
  have hs : ∀ k : Nat, k < 32 → (((Int32.ofInt (k : Int)).toUInt32 &&& Int32.toUInt32 31).toBitVec % 32).toNat = k := by decide +kernel
  have h2 := hs i.toNat (by omega)
  rw [Int.toNat_of_nonneg hi.1] at h2
  have h1 := pk_ushr (Int32.ofInt x) (Int32.ofInt i) i.toNat h2
  rw [zb_pos hx] at h1
  have h3 : x.toNat / 2 ^ i.toNat ≤ x.toNat := Nat.div_le_self _ _
  have h4 := zb_nat h1 (by omega)
  exact h4
def pcF : Nat → Nat → Nat
  | 0, _ => 0
  | n + 1, x => x % 2 + pcF n (x / 2)
theorem pcF_f : ∀ (n x : Nat), fct (fun i => x.testBit i) n = (pcF n x : Nat)
  | 0, _ => rfl
  | n + 1, x => by
    have s : ∀ m : Nat, fct (fun i => x.testBit i) (m + 1) = fct (fun i => (x / 2).testBit i) m + (x % 2 : Nat) := by
      intro m
      induction m with
      | zero =>
        show fct _ 0 + (if x.testBit 0 then 1 else 0) = fct _ 0 + _
        rw [Nat.testBit_zero]
        rcases Nat.mod_two_eq_zero_or_one x with z | z <;> rw [z] <;> rfl
      | succ m im =>
        show fct _ (m + 1) + (if x.testBit (m + 1) then 1 else 0) = fct _ m + (if (x / 2).testBit m then 1 else 0) + _
        rw [im, Nat.testBit_add_one]; omega
    rw [s n, pcF_f n (x / 2)]
    show _ = ((x % 2 + pcF n (x / 2) : Nat) : Int)
    omega
theorem pcF_a : ∀ (m n x : Nat), pcF (m + n) x = pcF m x + pcF n (x / 2 ^ m)
  | 0, n, x => by rw [Nat.zero_add, Nat.pow_zero, Nat.div_one]; show _ = 0 + _; omega
  | m + 1, n, x => by
    rw [show m + 1 + n = (m + n) + 1 by omega]
    show x % 2 + pcF (m + n) (x / 2) = x % 2 + pcF m (x / 2) + _
    rw [pcF_a m n (x / 2), Nat.div_div_eq_div_mul, Nat.pow_succ, Nat.mul_comm 2]; omega
theorem pcF_8 (a y : Nat) : pcF 8 (256 * y + a) = pcF 8 a := by
  simp only [pcF]; omega
def bP1 (a : Nat) : Nat := a - ((a / 2) &&& 85)
def bP2 (a : Nat) : Nat := (a &&& 51) + ((a / 4) &&& 51)
theorem bP_d : ∀ a : Nat, a < 256 → (bP1 a < 256 ∧ bP2 (bP1 a) % 16 ≤ 4 ∧ bP2 (bP1 a) / 16 ≤ 4 ∧ (bP2 (bP1 a) + bP2 (bP1 a) / 16) % 16 = pcF 8 a ∧ pcF 8 a ≤ 8) ∧ ((a / 2) &&& 85) ≤ a ∧ (a / 2) &&& 21845 = (a / 2) &&& 85 ∧ a &&& 13107 = a &&& 51 ∧ (a / 4) &&& 13107 = (a / 4) &&& 51 ∧ a &&& 3855 = a % 16 := by decide +kernel
theorem bP_1 : ∀ x : Nat, x < 128 → ∀ t : Nat, t < 2 → (x + 128 * t) &&& 85 = x &&& 85 := by decide +kernel
theorem bP_2 : ∀ x : Nat, x < 64 → ∀ t : Nat, t < 4 → (x + 64 * t) &&& 51 = x &&& 51 := by decide +kernel
theorem zbc_1 {a b c : Nat} (ha : a < 256) (hb : b < 256) (hc : c < 256) : zbc1 ((65536 * c + 256 * b + a : Nat) : Int) = ((65536 * bP1 c + 256 * bP1 b + bP1 a : Nat) : Int) := by
  have da := bP_d a ha
  have db := bP_d b hb
  have dc := bP_d c hc
  have e1 := zushr_p (x := ((65536 * c + 256 * b + a : Nat) : Int)) (i := 1) (by omega) (by decide)
  have e2 : (65536 * c + 256 * b + a) / 2 = 65536 * (c / 2) + 256 * (b / 2 + 128 * (c % 2)) + (a / 2 + 128 * (b % 2)) := by omega
  have e3 := land3 (a := a / 2 + 128 * (b % 2)) (b := b / 2 + 128 * (c % 2)) (c := c / 2) (x := 85) (y := 85) (z := 21845) (by omega) (by omega) (by decide) (by decide)
  rw [bP_1 (a / 2) (by omega) (b % 2) (by omega), bP_1 (b / 2) (by omega) (c % 2) (by omega), dc.2.2.1] at e3
  rw [Int.toNat_natCast, show (1 : Int).toNat = 1 from rfl, Nat.pow_one, e2] at e1
  have e4 := zand_p (a := zushr ((65536 * c + 256 * b + a : Nat) : Int) 1) (b := 1431655765) (by rw [e1]; omega) (by decide)
  rw [e1, Int.toNat_natCast, show (1431655765 : Int).toNat = 65536 * 21845 + 256 * 85 + 85 from rfl, e3] at e4
  show ((65536 * c + 256 * b + a : Nat) : Int) - zand (zushr ((65536 * c + 256 * b + a : Nat) : Int) 1) 1431655765 = _
  rw [e1, e4]
  unfold bP1
  have := da.2.1
  have := db.2.1
  have := dc.2.1
  omega
theorem zbc_2 {a b c : Nat} (ha : a < 256) (hb : b < 256) (hc : c < 256) : zbc2 ((65536 * c + 256 * b + a : Nat) : Int) = ((65536 * bP2 c + 256 * bP2 b + bP2 a : Nat) : Int) := by
  have dc := bP_d c hc
  have e1 := zushr_p (x := ((65536 * c + 256 * b + a : Nat) : Int)) (i := 2) (by omega) (by decide)
  have e2 : (65536 * c + 256 * b + a) / 2 ^ 2 = 65536 * (c / 4) + 256 * (b / 4 + 64 * (c % 4)) + (a / 4 + 64 * (b % 4)) := by rw [show (2 : Nat) ^ 2 = 4 by decide]; omega
  have e3 := land3 (a := a / 4 + 64 * (b % 4)) (b := b / 4 + 64 * (c % 4)) (c := c / 4) (x := 51) (y := 51) (z := 13107) (by omega) (by omega) (by decide) (by decide)
  have e5 := land3 (a := a) (b := b) (c := c) (x := 51) (y := 51) (z := 13107) ha hb (by decide) (by decide)
  rw [bP_2 (a / 4) (by omega) (b % 4) (by omega), bP_2 (b / 4) (by omega) (c % 4) (by omega), dc.2.2.2.2.1] at e3
  rw [dc.2.2.2.1] at e5
  rw [Int.toNat_natCast, show (2 : Int).toNat = 2 from rfl, e2] at e1
  have e4 := zand_p (a := zushr ((65536 * c + 256 * b + a : Nat) : Int) 2) (b := 858993459) (by rw [e1]; omega) (by decide)
  rw [e1, Int.toNat_natCast, show (858993459 : Int).toNat = 65536 * 13107 + 256 * 51 + 51 from rfl, e3] at e4
  have e6 := zand_p (a := ((65536 * c + 256 * b + a : Nat) : Int)) (b := 858993459) (by omega) (by decide)
  rw [Int.toNat_natCast, show (858993459 : Int).toNat = 65536 * 13107 + 256 * 51 + 51 from rfl, e5] at e6
  show zand ((65536 * c + 256 * b + a : Nat) : Int) 858993459 + zand (zushr ((65536 * c + 256 * b + a : Nat) : Int) 2) 858993459 = _
  rw [e1, e4, e6]
  unfold bP2
  omega
theorem zbc_3 {a b c : Nat} (ha : a % 16 ≤ 4 ∧ a / 16 ≤ 4) (hb : b % 16 ≤ 4 ∧ b / 16 ≤ 4) (hc : c % 16 ≤ 4 ∧ c / 16 ≤ 4) : zbc3 ((65536 * c + 256 * b + a : Nat) : Int) = ((65536 * ((c + c / 16) % 16) + 256 * ((b + b / 16) % 16) + (a + a / 16) % 16 : Nat) : Int) := by
  have e1 := zushr_p (x := ((65536 * c + 256 * b + a : Nat) : Int)) (i := 4) (by omega) (by decide)
  have e2 : (65536 * c + 256 * b + a) + (65536 * c + 256 * b + a) / 2 ^ 4 = 65536 * (c + c / 16) + 256 * (b + b / 16 + 16 * (c % 16)) + (a + a / 16 + 16 * (b % 16)) := by rw [show (2 : Nat) ^ 4 = 16 by decide]; omega
  have dA := (bP_d (a + a / 16 + 16 * (b % 16)) (by omega)).2.2.2.2.2
  have e3 := land3 (a := a + a / 16 + 16 * (b % 16)) (b := b + b / 16 + 16 * (c % 16)) (c := c + c / 16) (x := 15) (y := 15) (z := 3855) (by omega) (by omega) (by decide) (by decide)
  have m4 : ∀ x : Nat, x &&& 15 = x % 16 := fun x => Nat.and_two_pow_sub_one_eq_mod x 4
  rw [m4, m4, (bP_d (c + c / 16) (by omega)).2.2.2.2.2] at e3
  rw [Int.toNat_natCast, show (4 : Int).toNat = 4 from rfl] at e1
  have e5 : ((65536 * c + 256 * b + a : Nat) : Int) + zushr ((65536 * c + 256 * b + a : Nat) : Int) 4 = ((65536 * (c + c / 16) + 256 * (b + b / 16 + 16 * (c % 16)) + (a + a / 16 + 16 * (b % 16)) : Nat) : Int) := by rw [e1, ← e2]; rfl
  have e4 := zand_p (a := ((65536 * (c + c / 16) + 256 * (b + b / 16 + 16 * (c % 16)) + (a + a / 16 + 16 * (b % 16)) : Nat) : Int)) (b := 252645135) (by omega) (by decide)
  rw [Int.toNat_natCast, show (252645135 : Int).toNat = 65536 * 3855 + 256 * 15 + 15 from rfl, e3] at e4
  show zand (((65536 * c + 256 * b + a : Nat) : Int) + zushr ((65536 * c + 256 * b + a : Nat) : Int) 4) 252645135 = _
  rw [e5, e4]
  omega
theorem zbc_b {x : Int} (hx : 0 ≤ x ∧ x < 262144) : zbcF x = fct (fgb x) 31 := by
  obtain ⟨n, rfl⟩ := Int.eq_ofNat_of_zero_le hx.1
  have hn : n < 262144 := by omega
  have ha : n % 256 < 256 := by omega
  have hb : n / 256 % 256 < 256 := by omega
  have hc : n / 65536 < 256 := by omega
  have en : n = 65536 * (n / 65536) + 256 * (n / 256 % 256) + n % 256 := by omega
  have da := (bP_d _ ha).1
  have db := (bP_d _ hb).1
  have dc := (bP_d _ hc).1
  have z1 := zbc_1 ha hb hc
  rw [← en] at z1
  have z2 := zbc_2 da.1 db.1 dc.1
  have z3 := zbc_3 ⟨da.2.1, da.2.2.1⟩ ⟨db.2.1, db.2.2.1⟩ ⟨dc.2.1, dc.2.2.1⟩
  rw [da.2.2.2.1, db.2.2.2.1, dc.2.2.2.1] at z3
  have la := da.2.2.2.2
  have lb := db.2.2.2.2
  have lc := dc.2.2.2.2
  have f : fct (fgb ((n : Nat) : Int)) 31 = ((pcF 8 (n % 256) + pcF 8 (n / 256 % 256) + pcF 8 (n / 65536) : Nat) : Int) := by
    rw [fct_x (q := fun i => n.testBit i) 31 (fun i _ => by rw [fgb_p (by omega), Int.toNat_natCast]), pcF_f]
    have p1 := pcF_a 8 23 n
    have p2 := pcF_a 8 15 (n / 256)
    rw [show (2 : Nat) ^ 8 = 256 by decide] at p1 p2
    have p3 := pcF_8 (n % 256) (n / 256)
    rw [show 256 * (n / 256) + n % 256 = n by omega] at p3
    have p4 := pcF_8 (n / 256 % 256) (n / 256 / 256)
    rw [show 256 * (n / 256 / 256) + n / 256 % 256 = n / 256 by omega] at p4
    have p5 : ∀ c : Nat, c < 4 → pcF 15 c = pcF 8 c := by decide
    have p6 := p5 (n / 65536) (by omega)
    rw [show n / 256 / 256 = n / 65536 by omega] at p2
    rw [show (31 : Nat) = 8 + 23 from rfl, p1, show (23 : Nat) = 8 + 15 from rfl, p2, p3, p4, p6]
    omega
  rw [f]
  show zand (zbc5 (zbc4 (zbc3 (zbc2 (zbc1 ((n : Nat) : Int)))))) 63 = _
  rw [z1, z2, z3, zand_m (d := 64) 6 (by decide) (by decide) (by decide)]
  generalize pcF 8 (n % 256) = A at la
  generalize pcF 8 (n / 256 % 256) = B at lb
  generalize pcF 8 (n / 65536) = C at lc
  have e5 : zbc4 ((65536 * C + 256 * B + A : Nat) : Int) = ((65536 * C + 256 * B + A + (256 * C + B) : Nat) : Int) := by
    have e := zushr_p (x := ((65536 * C + 256 * B + A : Nat) : Int)) (i := 8) (by omega) (by decide)
    rw [Int.toNat_natCast, show 2 ^ (8 : Int).toNat = 256 from rfl] at e
    unfold zbc4
    rw [e]
    omega
  have e6 : zbc5 ((65536 * C + 256 * B + A + (256 * C + B) : Nat) : Int) = ((65536 * C + 256 * B + A + (256 * C + B) + C : Nat) : Int) := by
    have e := zushr_p (x := ((65536 * C + 256 * B + A + (256 * C + B) : Nat) : Int)) (i := 16) (by omega) (by decide)
    rw [Int.toNat_natCast, show 2 ^ (16 : Int).toNat = 65536 from rfl] at e
    unfold zbc5
    rw [e]
    omega
  rw [e5, e6]
  omega
