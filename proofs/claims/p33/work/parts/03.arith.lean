theorem zeq {x a : Int} (h : a ≤ x ∧ x ≤ a) : x = a := by omega
theorem zeqe {x a b : Int} (h : a ≤ x ∧ x ≤ a) (e : a = b) : x = b := by omega
theorem zwr_r {h h' : zM} {c k v a b : Int} (e : h' = zwr h c k v) (n : ¬ (a = c ∧ b = k)) : h'.2 a b = h.2 a b := by rw [e, zwr_n n]
theorem zwr_v {h h' : zM} {c k v : Int} (e : h' = zwr h c k v) : h'.2 c k = v := by rw [e, zwr_s]
def rmL (d : Nat) : Room := { frames := d, cells := 0, slots := 0, locals := 80 * d }
theorem rm_ok {d d' nL : Nat} (h1 : d' < d) (h2 : nL ≤ 50) : zRm (rmL d) (rmL d') nL 0 0 0 0 := ⟨rfl, rfl, ⟨h1, by show 8 + (nL + 11) + 80 * d' ≤ 80 * d; omega⟩, Nat.le_refl _, Nat.le_refl _⟩
theorem zmul1 {x a b c lo hi : Int} (hx : a ≤ x ∧ x ≤ b) (h1 : lo ≤ a * c) (h2 : lo ≤ b * c) (h3 : a * c ≤ hi) (h4 : b * c ≤ hi) : lo ≤ x * c ∧ x * c ≤ hi := by
  rcases Int.le_total 0 c with hc | hc
  · have q1 := Int.mul_le_mul_of_nonneg_right hx.1 hc
    have q2 := Int.mul_le_mul_of_nonneg_right hx.2 hc
    omega
  · have q1 := Int.mul_le_mul_of_nonpos_right hx.1 hc
    have q2 := Int.mul_le_mul_of_nonpos_right hx.2 hc
    omega
theorem zmul_b {x y a b c d lo hi : Int} (hx : a ≤ x ∧ x ≤ b) (hy : c ≤ y ∧ y ≤ d) (h : (lo ≤ a * c ∧ lo ≤ b * c ∧ a * c ≤ hi ∧ b * c ≤ hi) ∧ (lo ≤ a * d ∧ lo ≤ b * d ∧ a * d ≤ hi ∧ b * d ≤ hi)) : lo ≤ x * y ∧ x * y ≤ hi := by
  have p := zmul1 (c := c) hx h.1.1 h.1.2.1 h.1.2.2.1 h.1.2.2.2
  have q := zmul1 (c := d) hx h.2.1 h.2.2.1 h.2.2.2.1 h.2.2.2.2
  rw [Int.mul_comm x c] at p
  rw [Int.mul_comm x d] at q
  rw [Int.mul_comm x y]
  exact zmul1 (c := x) hy p.1 q.1 p.2 q.2
theorem zdiv_b {x b : Int} (hx : 0 ≤ x) (hb : 0 < b) : 0 ≤ x / b ∧ x / b ≤ x := ⟨Int.ediv_nonneg hx (Int.le_of_lt hb), Int.ediv_le_self b hx⟩
theorem zmod_b {x b : Int} (hx : 0 ≤ x) (hb : 0 < b) : 0 ≤ x % b ∧ x % b < b ∧ x % b ≤ x := by
  refine ⟨Int.emod_nonneg x (by omega), Int.emod_lt_of_pos x hb, ?_⟩
  have h1 := Int.emod_add_mul_ediv x b
  have h2 : 0 ≤ b * (x / b) := Int.mul_nonneg (Int.le_of_lt hb) (Int.ediv_nonneg hx (Int.le_of_lt hb))
  omega
theorem ztd_c (x c : Int) (_hc : 0 < c) : (0 ≤ x → x.tdiv c = x / c) ∧ (x < 0 → x.tdiv c = -((-x) / c)) := by
  refine ⟨fun h => Int.tdiv_eq_ediv_of_nonneg h, fun h => ?_⟩
  have : x.tdiv c = -((-x).tdiv c) := by rw [Int.neg_tdiv, Int.neg_neg]
  rw [this, Int.tdiv_eq_ediv_of_nonneg (by omega)]
theorem ztm_c (x c : Int) (_hc : 0 < c) : (0 ≤ x → x.tmod c = x % c) ∧ (x < 0 → x.tmod c = -((-x) % c)) := by
  refine ⟨fun h => Int.tmod_eq_emod_of_nonneg h, fun h => ?_⟩
  have : x.tmod c = -((-x).tmod c) := by rw [Int.neg_tmod, Int.neg_neg]
  rw [this, Int.tmod_eq_emod_of_nonneg (by omega)]
theorem ztm_b (x b : Int) (hb : ¬ b = 0) : (0 < b → -b < x.tmod b ∧ x.tmod b < b) ∧ (b < 0 → b < x.tmod b ∧ x.tmod b < -b) ∧ (0 ≤ x → 0 ≤ x.tmod b) ∧ (x ≤ 0 → x.tmod b ≤ 0) := by
  have key : ∀ (z d : Int), 0 ≤ z → 0 < d → 0 ≤ z.tmod d ∧ z.tmod d < d := fun z d h1 h2 => by
    rw [Int.tmod_eq_emod_of_nonneg h1]; exact ⟨Int.emod_nonneg z (by omega), Int.emod_lt_of_pos z h2⟩
  rcases Int.lt_or_le b 0 with h | h <;> rcases Int.le_total 0 x with h2 | h2
  · have := key x (-b) h2 (by omega); rw [Int.tmod_neg] at this
    refine ⟨fun q => by omega, fun q => by omega, fun q => this.1, fun q => ?_⟩
    have : x = 0 := by omega
    subst this; simp
  · have := key (-x) (-b) (by omega) (by omega); rw [Int.tmod_neg, Int.neg_tmod] at this
    refine ⟨fun q => by omega, fun q => by omega, fun q => ?_, fun q => by omega⟩
    have : x = 0 := by omega
    subst this; simp
  · have := key x b h2 (by omega)
    refine ⟨fun q => by omega, fun q => by omega, fun q => this.1, fun q => ?_⟩
    have : x = 0 := by omega
    subst this; simp
  · have := key (-x) b (by omega) (by omega); rw [Int.neg_tmod] at this
    refine ⟨fun q => by omega, fun q => by omega, fun q => ?_, fun q => by omega⟩
    have : x = 0 := by omega
    subst this; simp
theorem ztd_b (x b : Int) : (0 ≤ x → -x ≤ x.tdiv b ∧ x.tdiv b ≤ x) ∧ (x ≤ 0 → x ≤ x.tdiv b ∧ x.tdiv b ≤ -x) := by
  have h : (x.tdiv b).natAbs ≤ x.natAbs := by rw [Int.natAbs_tdiv]; exact Nat.div_le_self _ _
  omega
/-- bits, by the naturals -/
theorem zb_nat {x : Int32} {n : Nat} (h : x.toBitVec.toNat = n) (hn : n < 2147483648) : x.toInt = (n : Int) := by
  show x.toBitVec.toInt = _
  rw [BitVec.toInt_eq_toNat_of_lt (by omega), h]
theorem zb_of (a : Int) : (Int32.ofInt a).toBitVec.toNat = (a % 4294967296).toNat := by
  show (BitVec.ofInt 32 a).toNat = _
  rw [BitVec.toNat_ofInt]; rfl
theorem zb_pos {a : Int} (h : 0 ≤ a ∧ a ≤ 2147483647) : (Int32.ofInt a).toBitVec.toNat = a.toNat := by
  rw [zb_of]; congr 1; omega
theorem zand_n (a b : Int) : (zand_ (Int32.ofInt a) (Int32.ofInt b)).toBitVec.toNat = (Int32.ofInt a).toBitVec.toNat &&& (Int32.ofInt b).toBitVec.toNat := by
  show (Int32.ofInt a &&& Int32.ofInt b).toBitVec.toNat = _
  rw [Int32.toBitVec_and, BitVec.toNat_and]
theorem zand_l {a : Int} (h : 0 ≤ a ∧ a ≤ 2147483647) (b : Int) : 0 ≤ zand a b ∧ zand a b ≤ a := by
  have h1 := zand_n a b
  rw [zb_pos h] at h1
  have h2 : a.toNat &&& (Int32.ofInt b).toBitVec.toNat ≤ a.toNat := Nat.and_le_left
  have h3 := zb_nat h1 (by omega)
  unfold zand
  omega
theorem zand_comm (a b : Int) : zand a b = zand b a := by
  unfold zand zand_
  rw [Int32.and_comm]
theorem zand_r (a : Int) {b : Int} (h : 0 ≤ b ∧ b ≤ 2147483647) : 0 ≤ zand a b ∧ zand a b ≤ b := by
  rw [zand_comm]; exact zand_l h a
theorem zand_m {c d : Int} (k : Nat) (hk : k ≤ 31) (hc : c = 2 ^ k - 1) (hd : d = 2 ^ k) (a : Int) : zand a c = a % d := by
  have hp : (2 : Int) ^ k = ((2 ^ k : Nat) : Int) := by simp
  have hp1 : 1 ≤ 2 ^ k := Nat.one_le_two_pow
  have hp2 : 2 ^ k ≤ 2 ^ 31 := Nat.pow_le_pow_right (by decide) hk
  have h1 := zand_n a c
  rw [zb_pos (a := c) (by omega), show c.toNat = 2 ^ k - 1 by omega, Nat.and_two_pow_sub_one_eq_mod, zb_of] at h1
  have hlt : (a % 4294967296).toNat % 2 ^ k < 2 ^ k := Nat.mod_lt _ (by omega)
  have h3 := zb_nat h1 (by omega)
  have h4 : zand a c = (((a % 4294967296).toNat % 2 ^ k : Nat) : Int) := h3
  rw [h4, Int.natCast_emod, Int.toNat_of_nonneg (by omega), hd, hp]
  have hdv : ((2 ^ k : Nat) : Int) ∣ 4294967296 := by
    refine ⟨((2 ^ (32 - k) : Nat) : Int), ?_⟩
    rw [← Int.natCast_mul, ← Nat.pow_add, show k + (32 - k) = 32 by omega]; rfl
  exact Int.emod_emod_of_dvd a hdv
theorem zxor_k {a b K : Int} (k : Nat) (hk : k ≤ 30) (hK : K = 2 ^ k) (ha : 0 ≤ a ∧ a < K) (hb : 0 ≤ b ∧ b < K) : 0 ≤ zxor a b ∧ zxor a b < K := by
  have hp : (2 : Int) ^ k = ((2 ^ k : Nat) : Int) := by simp
  have hp2 : 2 ^ k ≤ 2 ^ 30 := Nat.pow_le_pow_right (by decide) hk
  have h1 : (zxor_ (Int32.ofInt a) (Int32.ofInt b)).toBitVec.toNat = a.toNat ^^^ b.toNat := by
    show (Int32.ofInt a ^^^ Int32.ofInt b).toBitVec.toNat = _
    rw [Int32.toBitVec_xor, BitVec.toNat_xor, zb_pos (by omega), zb_pos (by omega)]
  have h2 : a.toNat ^^^ b.toNat < 2 ^ k := Nat.xor_lt_two_pow (by omega) (by omega)
  have h3 := zb_nat h1 (by omega)
  unfold zxor
  omega
theorem zor_k {a b K : Int} (k : Nat) (hk : k ≤ 30) (hK : K = 2 ^ k) (ha : 0 ≤ a ∧ a < K) (hb : 0 ≤ b ∧ b < K) : 0 ≤ zor a b ∧ zor a b < K := by
  have hp : (2 : Int) ^ k = ((2 ^ k : Nat) : Int) := by simp
  have hp2 : 2 ^ k ≤ 2 ^ 30 := Nat.pow_le_pow_right (by decide) hk
  have h1 : (zor_ (Int32.ofInt a) (Int32.ofInt b)).toBitVec.toNat = a.toNat ||| b.toNat := by
    show (Int32.ofInt a ||| Int32.ofInt b).toBitVec.toNat = _
    rw [Int32.toBitVec_or, BitVec.toNat_or, zb_pos (by omega), zb_pos (by omega)]
  have h2 : a.toNat ||| b.toNat < 2 ^ k := Nat.or_lt_two_pow (by omega) (by omega)
  have h3 := zb_nat h1 (by omega)
  unfold zor
  omega
theorem zshl_e : ∀ n : Nat, n < 31 → zshl 1 (n : Int) = ((2 ^ n : Nat) : Int) := by decide +kernel
theorem zshl_1 {n a b lo hi : Int} (hx : a ≤ n ∧ n ≤ b) (hc : 0 ≤ a ∧ b ≤ 30) (hl : lo = ((2 ^ a.toNat : Nat) : Int)) (hh : hi = ((2 ^ b.toNat : Nat) : Int)) : lo ≤ zshl 1 n ∧ zshl 1 n ≤ hi := by
  have h1 := zshl_e n.toNat (by omega)
  rw [Int.toNat_of_nonneg (by omega)] at h1
  have h2 : 2 ^ a.toNat ≤ 2 ^ n.toNat := Nat.pow_le_pow_right (by decide) (by omega)
  have h3 : 2 ^ n.toNat ≤ 2 ^ b.toNat := Nat.pow_le_pow_right (by decide) (by omega)
  omega
theorem zushr_c {a c K : Int} (k : Nat) (hk : 0 < k ∧ k < 32) (hc : c = (k : Int)) (hK : K = 2 ^ (32 - k)) : 0 ≤ zushr a c ∧ zushr a c < K := by
  have hp : (2 : Int) ^ (32 - k) = ((2 ^ (32 - k) : Nat) : Int) := by simp
  have hs : (((Int32.ofInt c).toUInt32 &&& Int32.toUInt32 31).toBitVec % 32).toNat = k := by
    subst hc
    have : ∀ k : Nat, k < 32 → (((Int32.ofInt (k : Int)).toUInt32 &&& Int32.toUInt32 31).toBitVec % 32).toNat = k := by decide +kernel
    exact this k hk.2
  have h1 := pk_ushr (Int32.ofInt a) (Int32.ofInt c) k hs
  have h0 : (Int32.ofInt a).toBitVec.toNat < 2 ^ 32 := (Int32.ofInt a).toBitVec.isLt
  have h2 : (Int32.ofInt a).toBitVec.toNat / 2 ^ k < 2 ^ (32 - k) := by
    rw [Nat.div_lt_iff_lt_mul (Nat.two_pow_pos k), ← Nat.pow_add, show 32 - k + k = 32 by omega]; exact h0
  have h4 : 2 ^ (32 - k) ≤ 2 ^ 31 := Nat.pow_le_pow_right (by decide) (by omega)
  have h3 := zb_nat h1 (by omega)
  show 0 ≤ (zushr_ (Int32.ofInt a) (Int32.ofInt c)).toInt ∧ (zushr_ (Int32.ofInt a) (Int32.ofInt c)).toInt < K
  unfold zushr_
  omega
def zde (cc : ByteArray) (pc : Nat) (x : Instr) (len : Nat) : Bool := decide (decode cc pc = .ok (x, len))
theorem zde_ok {cc : ByteArray} {pc : Nat} {x : Instr} {len : Nat} (h : zde cc pc x len = true) : decode cc pc = .ok (x, len) := of_decide_eq_true h
def zdt (cc : ByteArray) (t : List (Nat × Instr × Nat)) : Bool := t.all fun q => zde cc q.1 q.2.1 q.2.2
theorem zdk {cc : ByteArray} {t : List (Nat × Instr × Nat)} (h : zdt cc t = true) (i : Nat) {pc len n : Nat} {x : Instr} (hi : t[i]? = some (pc, x, len)) (hn : pc + len = n) : zd cc pc x len n := by
  have h1 : ∀ q ∈ t, zde cc q.1 q.2.1 q.2.2 = true := List.all_eq_true.mp h
  exact ⟨zde_ok (h1 (pc, x, len) (List.mem_of_getElem? hi)), hn⟩
