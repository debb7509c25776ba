theorem zeq {x a : Int} (h : a ≤ x ∧ x ≤ a) : x = a := by omega
theorem zeqe {x a b : Int} (h : a ≤ x ∧ x ≤ a) (e : a = b) : x = b := by omega
theorem zwr_r {h h' : zM} {c k v a b : Int} (e : h' = zwr h c k v) (n : ¬ (a = c ∧ b = k)) : h'.2 a b = h.2 a b := by rw [e, zwr_n n]
theorem zwr_v {h h' : zM} {c k v : Int} (e : h' = zwr h c k v) : h'.2 c k = v := by rw [e, zwr_s]
def rmL (d : Nat) : Room := { frames := d, cells := 0, slots := 0, locals := 80 * d }
theorem rm_ok {d d' nL : Nat} (h1 : d' < d) (h2 : nL ≤ 50) : zRm (rmL d) (rmL d') nL 0 0 0 0 := ⟨rfl, rfl, ⟨h1, by show 8 + (nL + 11) + 80 * d' ≤ 80 * d; omega⟩, Nat.le_refl _, Nat.le_refl _⟩
theorem zmul1 {x a b c lo hi : Int} (hx : a ≤ x ∧ x ≤ b) (h1 : lo ≤ a * c) (h2 : lo ≤ b * c) (h3 : a * c ≤ hi) (h4 : b * c ≤ hi) : lo ≤ x * c ∧ x * c ≤ hi := by
  rcases Int.le_total 0 c with hc | hc
  · have q1 := Int.mul_le_mul_of_nonneg_right hx.1 hc
    have q2 := Int.mul_le_mul_of_nonneg_right hx.2 hc
    omega
  · have q1 := Int.mul_le_mul_of_nonpos_right hx.1 hc
    have q2 := Int.mul_le_mul_of_nonpos_right hx.2 hc
    omega
theorem zmul_b {x y a b c d lo hi : Int} (hx : a ≤ x ∧ x ≤ b) (hy : c ≤ y ∧ y ≤ d) (h : (lo ≤ a * c ∧ lo ≤ b * c ∧ a * c ≤ hi ∧ b * c ≤ hi) ∧ (lo ≤ a * d ∧ lo ≤ b * d ∧ a * d ≤ hi ∧ b * d ≤ hi)) : lo ≤ x * y ∧ x * y ≤ hi := by
  have p := zmul1 (c := c) hx h.1.1 h.1.2.1 h.1.2.2.1 h.1.2.2.2
  have q := zmul1 (c := d) hx h.2.1 h.2.2.1 h.2.2.2.1 h.2.2.2.2
  rw [Int.mul_comm x c] at p
  rw [Int.mul_comm x d] at q
  rw [Int.mul_comm x y]
  exact zmul1 (c := x) hy p.1 q.1 p.2 q.2
theorem zdiv_b {x b : Int} (hx : 0 ≤ x) (hb : 0 < b) : 0 ≤ x / b ∧ x / b ≤ x := ⟨Int.ediv_nonneg hx (Int.le_of_lt hb), Int.ediv_le_self b hx⟩
theorem zmod_b {x b : Int} (hx : 0 ≤ x) (hb : 0 < b) : 0 ≤ x % b ∧ x % b < b ∧ x % b ≤ x := by
  refine ⟨Int.emod_nonneg x (by omega), Int.emod_lt_of_pos x hb, ?_⟩
  have h1 := Int.emod_add_mul_ediv x b
  have h2 : 0 ≤ b * (x / b) := Int.mul_nonneg (Int.le_of_lt hb) (Int.ediv_nonneg hx (Int.le_of_lt hb))
  omega
theorem ztd_c (x c : Int) (_hc : 0 < c) : (0 ≤ x → x.tdiv c = x / c) ∧ (x < 0 → x.tdiv c = -((-x) / c)) := by
  refine ⟨fun h => Int.tdiv_eq_ediv_of_nonneg h, fun h => ?_⟩
  have : x.tdiv c = -((-x).tdiv c) := by rw [Int.neg_tdiv, Int.neg_neg]
  rw [this, Int.tdiv_eq_ediv_of_nonneg (by omega)]
theorem ztm_c (x c : Int) (_hc : 0 < c) : (0 ≤ x → x.tmod c = x % c) ∧ (x < 0 → x.tmod c = -((-x) % c)) := by
  refine ⟨fun h => Int.tmod_eq_emod_of_nonneg h, fun h => ?_⟩
  have : x.tmod c = -((-x).tmod c) := by rw [Int.neg_tmod, Int.neg_neg]
  rw [this, Int.tmod_eq_emod_of_nonneg (by omega)]
theorem ztm_b (x b : Int) (hb : ¬ b = 0) : (0 < b → -b < x.tmod b ∧ x.tmod b < b) ∧ (b < 0 → b < x.tmod b ∧ x.tmod b < -b) ∧ (0 ≤ x → 0 ≤ x.tmod b) ∧ (x ≤ 0 → x.tmod b ≤ 0) := by
  have key : ∀ (z d : Int), 0 ≤ z → 0 < d → 0 ≤ z.tmod d ∧ z.tmod d < d := fun z d h1 h2 => by
    rw [Int.tmod_eq_emod_of_nonneg h1]; exact ⟨Int.emod_nonneg z (by omega), Int.emod_lt_of_pos z h2⟩
  rcases Int.lt_or_le b 0 with h | h <;> rcases Int.le_total 0 x with h2 | h2
  · have := key x (-b) h2 (by omega); rw [Int.tmod_neg] at this
    refine ⟨fun q => by omega, fun q => by omega, fun q => this.1, fun q => ?_⟩
    have : x = 0 := by omega
    subst this; simp
  · have := key (-x) (-b) (by omega) (by omega); rw [Int.tmod_neg, Int.neg_tmod] at this
    refine ⟨fun q => by omega, fun q => by omega, fun q => ?_, fun q => by omega⟩
    have : x = 0 := by omega
    subst this; simp
  · have := key x b h2 (by omega)
    refine ⟨fun q => by omega, fun q => by omega, fun q => this.1, fun q => ?_⟩
    have : x = 0 := by omega
    subst this; simp
  · have := key (-x) b (by omega) (by omega); rw [Int.neg_tmod] at this
    refine ⟨fun q => by omega, fun q => by omega, fun q => ?_, fun q => by omega⟩
    have : x = 0 := by omega
    subst this; simp
theorem ztd_b (x b : Int) : (0 ≤ x → -x ≤ x.tdiv b ∧ x.tdiv b ≤ x) ∧ (x ≤ 0 → x ≤ x.tdiv b ∧ x.tdiv b ≤ -x) := by
  have h : (x.tdiv b).natAbs ≤ x.natAbs := by rw [Int.natAbs_tdiv]; exact Nat.div_le_self _ _
  omega
/-- bits, by the naturals -/
theorem zb_nat {x : Int32} {n : Nat} (h : x.toBitVec.toNat = n) (hn : n < 2147483648) : x.toInt = (n : Int) := by
  show x.toBitVec.toInt = _
  rw [BitVec.toInt_eq_toNat_of_lt (by omega), h]
theorem zb_of (a : Int) : (Int32.ofInt a).toBitVec.toNat = (a % 4294967296).toNat := by
  show (BitVec.ofInt 32 a).toNat = _
  rw [BitVec.toNat_ofInt]; rfl
theorem zb_pos {a : Int} (h : 0 ≤ a ∧ a ≤ 2147483647) : (Int32.ofInt a).toBitVec.toNat = a.toNat := by
  rw [zb_of]; congr 1; omega
theorem zand_n (a b : Int) : (zand_ (Int32.ofInt a) (Int32.ofInt b)).toBitVec.toNat = (Int32.ofInt a).toBitVec.toNat &&& (Int32.ofInt b).toBitVec.toNat := by
  show (Int32.ofInt a &&& Int32.ofInt b).toBitVec.toNat = _
  rw [Int32.toBitVec_and, BitVec.toNat_and]
theorem zand_l {a : Int} (h : 0 ≤ a ∧ a ≤ 2147483647) (b : Int) : 0 ≤ zand a b ∧ zand a b ≤ a := by
  have h1 := zand_n a b
  rw [zb_pos h] at h1
  have h2 : a.toNat &&& (Int32.ofInt b).toBitVec.toNat ≤ a.toNat := Nat.and_le_left
  have h3 := zb_nat h1 (by omega)
  unfold zand
  omega
theorem zand_comm (a b : Int) : zand a b = zand b a := by
  unfold zand zand_
  rw [Int32.and_comm]
theorem zand_r (a : Int) {b : Int} (h : 0 ≤ b ∧ b ≤ 2147483647) : 0 ≤ zand a b ∧ zand a b ≤ b := by
  rw [zand_comm]; exact zand_l h a
theorem zand_m {c d : Int} (k : Nat) (hk : k ≤ 31) (hc : c = 2 ^ k - 1) (hd : d = 2 ^ k) (a : Int) : zand a c = a % d := by
  have hp : (2 : Int) ^ k = ((2 ^ k : Nat) : Int) := by simp
  have hp1 : 1 ≤ 2 ^ k := Nat.one_le_two_pow
  have hp2 : 2 ^ k ≤ 2 ^ 31 := Nat.pow_le_pow_right (by decide) hk
  have h1 := zand_n a c
  rw [zb_pos (a := c) (by omega), show c.toNat = 2 ^ k - 1 by omega, Nat.and_two_pow_sub_one_eq_mod, zb_of] at h1
  have hlt : (a % 4294967296).toNat % 2 ^ k < 2 ^ k := Nat.mod_lt _ (by omega)
  have h3 := zb_nat h1 (by omega)
  have h4 : zand a c = (((a % 4294967296).toNat % 2 ^ k : Nat) : Int) := h3
  rw [h4, Int.natCast_emod, Int.toNat_of_nonneg (by omega), hd, hp]
  have hdv : ((2 ^ k : Nat) : Int) ∣ 4294967296 := by
    refine ⟨((2 ^ (32 - k) : Nat) : Int), ?_⟩
    rw [← Int.natCast_mul, ← Nat.pow_add, show k + (32 - k) = 32 by omega]; rfl
  exact Int.emod_emod_of_dvd a hdv
theorem zxor_k {a b K : Int} (k : Nat) (hk : k ≤ 30) (hK : K = 2 ^ k) (ha : 0 ≤ a ∧ a < K) (hb : 0 ≤ b ∧ b < K) : 0 ≤ zxor a b ∧ zxor a b < K := by
  have hp : (2 : Int) ^ k = ((2 ^ k : Nat) : Int) := by simp
  have hp2 : 2 ^ k ≤ 2 ^ 30 := Nat.pow_le_pow_right (by decide) hk
  have h1 : (zxor_ (Int32.ofInt a) (Int32.ofInt b)).toBitVec.toNat = a.toNat ^^^ b.toNat := by
    show (Int32.ofInt a ^^^ Int32.ofInt b).toBitVec.toNat = _
    rw [Int32.toBitVec_xor, BitVec.toNat_xor, zb_pos (by omega), zb_pos (by omega)]
  have h2 : a.toNat ^^^ b.toNat < 2 ^ k := Nat.xor_lt_two_pow (by omega) (by omega)
  have h3 := zb_nat h1 (by omega)
  unfold zxor
  omega
theorem zor_k {a b K : Int} (k : Nat) (hk : k ≤ 30) (hK : K = 2 ^ k) (ha : 0 ≤ a ∧ a < K) (hb : 0 ≤ b ∧ b < K) : 0 ≤ zor a b ∧ zor a b < K := by
  have hp : (2 : Int) ^ k = ((2 ^ k : Nat) : Int) := by simp
  have hp2 : 2 ^ k ≤ 2 ^ 30 := Nat.pow_le_pow_right (by decide) hk
  have h1 : (zor_ (Int32.ofInt a) (Int32.ofInt b)).toBitVec.toNat = a.toNat ||| b.toNat := by
    show (Int32.ofInt a ||| Int32.ofInt b).toBitVec.toNat = _
    rw [Int32.toBitVec_or, BitVec.toNat_or, zb_pos (by omega), zb_pos (by omega)]
  have h2 : a.toNat ||| b.toNat < 2 ^ k := Nat.or_lt_two_pow (by omega) (by omega)
  have h3 := zb_nat h1 (by omega)
  unfold zor
  omega
theorem zshl_e : ∀ n : Nat, n < 31 → zshl 1 (n : Int) = ((2 ^ n : Nat) : Int) := by decide +kernel
theorem zshl_1 {n a b lo hi : Int} (hx : a ≤ n ∧ n ≤ b) (hc : 0 ≤ a ∧ b ≤ 30) (hl : lo = ((2 ^ a.toNat : Nat) : Int)) (hh : hi = ((2 ^ b.toNat : Nat) : Int)) : lo ≤ zshl 1 n ∧ zshl 1 n ≤ hi := by
  have h1 := zshl_e n.toNat (by omega)
  rw [Int.toNat_of_nonneg (by omega)] at h1
  have h2 : 2 ^ a.toNat ≤ 2 ^ n.toNat := Nat.pow_le_pow_right (by decide) (by omega)
  have h3 : 2 ^ n.toNat ≤ 2 ^ b.toNat := Nat.pow_le_pow_right (by decide) (by omega)
  omega
theorem zushr_c {a c K : Int} (k : Nat) (hk : 0 < k ∧ k < 32) (hc : c = (k : Int)) (hK : K = 2 ^ (32 - k)) : 0 ≤ zushr a c ∧ zushr a c < K := by
  have hp : (2 : Int) ^ (32 - k) = ((2 ^ (32 - k) : Nat) : Int) := by simp
  have hs : (((Int32.ofInt c).toUInt32 &&& Int32.toUInt32 31).toBitVec % 32).toNat = k := by
    subst hc
    have : ∀ k : Nat, k < 32 → (((Int32.ofInt (k : Int)).toUInt32 &&& Int32.toUInt32 31).toBitVec % 32).toNat = k := by decide +kernel
    exact this k hk.2
  have h1 := pk_ushr (Int32.ofInt a) (Int32.ofInt c) k hs
  have h0 : (Int32.ofInt a).toBitVec.toNat < 2 ^ 32 := (Int32.ofInt a).toBitVec.isLt
  have h2 : (Int32.ofInt a).toBitVec.toNat / 2 ^ k < 2 ^ (32 - k) := by
    rw [Nat.div_lt_iff_lt_mul (Nat.two_pow_pos k), ← Nat.pow_add, show 32 - k + k = 32 by omega]; exact h0
  have h4 : 2 ^ (32 - k) ≤ 2 ^ 31 := Nat.pow_le_pow_right (by decide) (by omega)
  have h3 := zb_nat h1 (by omega)
  show 0 ≤ (zushr_ (Int32.ofInt a) (Int32.ofInt c)).toInt ∧ (zushr_ (Int32.ofInt a) (Int32.ofInt c)).toInt < K
  unfold zushr_
  omega
def zde (cc : ByteArray) (pc : Nat) (x : Instr) (len : Nat) : Bool := decide (decode cc pc = .ok (x, len))
theorem zde_ok {cc : ByteArray} {pc : Nat} {x : Instr} {len : Nat} (h : zde cc pc x len = true) : decode cc pc = .ok (x, len) := of_decide_eq_true h
/-! ===== tables of decoded rows: the bytes against what an instruction is written as ===== -/
def yb_by (cc : ByteArray) : List Nat := cc.data.toList.map UInt8.toNat
theorem yb_g {cc : ByteArray} {p b : Nat} (h : (yb_by cc)[p]? = some b) : (Jvm.ClassFile.Reader.u1 : Jvm.ClassFile.Decoder Nat) cc p = .ok (b, p + 1) := by
  unfold yb_by at h
  rw [List.getElem?_map] at h
  cases hx : cc.data.toList[p]? with
  | none =>
    rw [hx] at h
    have h2 : (none : Option Nat) = some b := h
    cases h2
  | some x =>
    rw [hx] at h
    have hb : x.toNat = b := Option.some.inj h
    obtain ⟨hl, hg⟩ := List.getElem?_eq_some_iff.mp hx
    have hd : p < cc.data.size := by rw [← Array.length_toList]; exact hl
    have hs : p < cc.size := hd
    have hc : cc[p] = x := by
      show cc.data[p] = x
      rw [← Array.getElem_toList]; exact hg
    have e : (Jvm.ClassFile.Reader.u1 : Jvm.ClassFile.Decoder Nat) cc p = (if h : p < cc.size then (do set (p + 1); pure cc[p].toNat : Jvm.ClassFile.Decoder Nat) else throw (Jvm.ClassFile.HasTruncated.truncated p)) cc p := rfl
    rw [e, dif_pos hs]
    show (Except.ok (cc[p].toNat, p + 1) : Except Jvm.ClassFile.DecodeError (Nat × Nat)) = _
    rw [hc, hb]
theorem yb_d {α β : Type} {m : Jvm.ClassFile.Decoder α} {k : α → Jvm.ClassFile.Decoder β} {cc : ByteArray} {s s' : Nat} {a : α} (h : m cc s = .ok (a, s')) : (m >>= k) cc s = k a cc s' := by
  have e : (m >>= k) cc s = (m cc s >>= fun p => k p.1 cc p.2) := rfl
  rw [e, h]; rfl
theorem yb_m {α β : Type} {m : Jvm.ClassFile.Decoder α} {f : α → β} {cc : ByteArray} {s s' : Nat} {a : α} (h : m cc s = .ok (a, s')) : (f <$> m : Jvm.ClassFile.Decoder β) cc s = .ok (f a, s') := by
  have e : (f <$> m : Jvm.ClassFile.Decoder β) cc s = (m cc s >>= fun p => Except.ok (f p.1, p.2)) := rfl
  rw [e, h]; rfl
theorem yb_2 {cc : ByteArray} {p hi lo : Nat} (h1 : (yb_by cc)[p]? = some hi) (h2 : (yb_by cc)[p + 1]? = some lo) : (Jvm.ClassFile.Reader.u2 : Jvm.ClassFile.Decoder Nat) cc p = .ok (hi * 256 + lo, p + 2) := by
  unfold Jvm.ClassFile.Reader.u2
  exact (yb_d (yb_g h1)).trans ((yb_d (yb_g h2)).trans rfl)
theorem yb_s1 {cc : ByteArray} {p a : Nat} (h1 : (yb_by cc)[p]? = some a) : (Jvm.ClassFile.Reader.s1 : Jvm.ClassFile.Decoder Int) cc p = .ok (Jvm.ClassFile.Reader.signed 8 a, p + 1) := yb_m (yb_g h1)
theorem yb_s2 {cc : ByteArray} {p hi lo : Nat} (h1 : (yb_by cc)[p]? = some hi) (h2 : (yb_by cc)[p + 1]? = some lo) : (Jvm.ClassFile.Reader.s2 : Jvm.ClassFile.Decoder Int) cc p = .ok (Jvm.ClassFile.Reader.signed 16 (hi * 256 + lo), p + 2) := yb_m (yb_2 h1 h2)
theorem yb_dec {cc : ByteArray} {pc n : Nat} {x : Instr} (h : Jvm.ClassFile.Decoder.instr pc cc pc = .ok (x, n)) : decode cc pc = .ok (x, n - pc) := by
  unfold decode
  rw [show (Jvm.ClassFile.Decoder.instr pc).runAt cc pc = .ok (x, n) from h]
  rfl
theorem yb_dr {l r : List Nat} {p b : Nat} (e : b :: r = l.drop p) : l[p]? = some b ∧ r = l.drop (p + 1) := by
  constructor
  · have q : (l.drop p)[0]? = l[p + 0]? := List.getElem?_drop
    rw [← e] at q
    exact q.symm
  · have q : (l.drop p).tail = l.drop (p + 1) := List.tail_drop
    rw [← e] at q
    exact q
section YB
variable {cc : ByteArray} {pc a hi lo : Nat}
theorem yo_42 (h0 : (yb_by cc)[pc]? = some 42) : Jvm.ClassFile.Decoder.instr pc cc pc = .ok ((.aload_n 0), pc + 1) := by unfold Jvm.ClassFile.Decoder.instr; exact (yb_d (yb_g h0)).trans rfl
theorem yo_43 (h0 : (yb_by cc)[pc]? = some 43) : Jvm.ClassFile.Decoder.instr pc cc pc = .ok ((.aload_n 1), pc + 1) := by unfold Jvm.ClassFile.Decoder.instr; exact (yb_d (yb_g h0)).trans rfl
theorem yo_44 (h0 : (yb_by cc)[pc]? = some 44) : Jvm.ClassFile.Decoder.instr pc cc pc = .ok ((.aload_n 2), pc + 1) := by unfold Jvm.ClassFile.Decoder.instr; exact (yb_d (yb_g h0)).trans rfl
theorem yo_45 (h0 : (yb_by cc)[pc]? = some 45) : Jvm.ClassFile.Decoder.instr pc cc pc = .ok ((.aload_n 3), pc + 1) := by unfold Jvm.ClassFile.Decoder.instr; exact (yb_d (yb_g h0)).trans rfl
theorem yo_26 (h0 : (yb_by cc)[pc]? = some 26) : Jvm.ClassFile.Decoder.instr pc cc pc = .ok ((.iload_n 0), pc + 1) := by unfold Jvm.ClassFile.Decoder.instr; exact (yb_d (yb_g h0)).trans rfl
theorem yo_27 (h0 : (yb_by cc)[pc]? = some 27) : Jvm.ClassFile.Decoder.instr pc cc pc = .ok ((.iload_n 1), pc + 1) := by unfold Jvm.ClassFile.Decoder.instr; exact (yb_d (yb_g h0)).trans rfl
theorem yo_28 (h0 : (yb_by cc)[pc]? = some 28) : Jvm.ClassFile.Decoder.instr pc cc pc = .ok ((.iload_n 2), pc + 1) := by unfold Jvm.ClassFile.Decoder.instr; exact (yb_d (yb_g h0)).trans rfl
theorem yo_29 (h0 : (yb_by cc)[pc]? = some 29) : Jvm.ClassFile.Decoder.instr pc cc pc = .ok ((.iload_n 3), pc + 1) := by unfold Jvm.ClassFile.Decoder.instr; exact (yb_d (yb_g h0)).trans rfl
theorem yo_59 (h0 : (yb_by cc)[pc]? = some 59) : Jvm.ClassFile.Decoder.instr pc cc pc = .ok ((.istore_n 0), pc + 1) := by unfold Jvm.ClassFile.Decoder.instr; exact (yb_d (yb_g h0)).trans rfl
theorem yo_60 (h0 : (yb_by cc)[pc]? = some 60) : Jvm.ClassFile.Decoder.instr pc cc pc = .ok ((.istore_n 1), pc + 1) := by unfold Jvm.ClassFile.Decoder.instr; exact (yb_d (yb_g h0)).trans rfl
theorem yo_61 (h0 : (yb_by cc)[pc]? = some 61) : Jvm.ClassFile.Decoder.instr pc cc pc = .ok ((.istore_n 2), pc + 1) := by unfold Jvm.ClassFile.Decoder.instr; exact (yb_d (yb_g h0)).trans rfl
theorem yo_62 (h0 : (yb_by cc)[pc]? = some 62) : Jvm.ClassFile.Decoder.instr pc cc pc = .ok ((.istore_n 3), pc + 1) := by unfold Jvm.ClassFile.Decoder.instr; exact (yb_d (yb_g h0)).trans rfl
theorem yo_75 (h0 : (yb_by cc)[pc]? = some 75) : Jvm.ClassFile.Decoder.instr pc cc pc = .ok ((.astore_n 0), pc + 1) := by unfold Jvm.ClassFile.Decoder.instr; exact (yb_d (yb_g h0)).trans rfl
theorem yo_76 (h0 : (yb_by cc)[pc]? = some 76) : Jvm.ClassFile.Decoder.instr pc cc pc = .ok ((.astore_n 1), pc + 1) := by unfold Jvm.ClassFile.Decoder.instr; exact (yb_d (yb_g h0)).trans rfl
theorem yo_77 (h0 : (yb_by cc)[pc]? = some 77) : Jvm.ClassFile.Decoder.instr pc cc pc = .ok ((.astore_n 2), pc + 1) := by unfold Jvm.ClassFile.Decoder.instr; exact (yb_d (yb_g h0)).trans rfl
theorem yo_78 (h0 : (yb_by cc)[pc]? = some 78) : Jvm.ClassFile.Decoder.instr pc cc pc = .ok ((.astore_n 3), pc + 1) := by unfold Jvm.ClassFile.Decoder.instr; exact (yb_d (yb_g h0)).trans rfl
theorem yo_2 (h0 : (yb_by cc)[pc]? = some 2) : Jvm.ClassFile.Decoder.instr pc cc pc = .ok ((.iconst (-1)), pc + 1) := by unfold Jvm.ClassFile.Decoder.instr; exact (yb_d (yb_g h0)).trans rfl
theorem yo_3 (h0 : (yb_by cc)[pc]? = some 3) : Jvm.ClassFile.Decoder.instr pc cc pc = .ok ((.iconst (0)), pc + 1) := by unfold Jvm.ClassFile.Decoder.instr; exact (yb_d (yb_g h0)).trans rfl
theorem yo_4 (h0 : (yb_by cc)[pc]? = some 4) : Jvm.ClassFile.Decoder.instr pc cc pc = .ok ((.iconst (1)), pc + 1) := by unfold Jvm.ClassFile.Decoder.instr; exact (yb_d (yb_g h0)).trans rfl
theorem yo_5 (h0 : (yb_by cc)[pc]? = some 5) : Jvm.ClassFile.Decoder.instr pc cc pc = .ok ((.iconst (2)), pc + 1) := by unfold Jvm.ClassFile.Decoder.instr; exact (yb_d (yb_g h0)).trans rfl
theorem yo_6 (h0 : (yb_by cc)[pc]? = some 6) : Jvm.ClassFile.Decoder.instr pc cc pc = .ok ((.iconst (3)), pc + 1) := by unfold Jvm.ClassFile.Decoder.instr; exact (yb_d (yb_g h0)).trans rfl
theorem yo_7 (h0 : (yb_by cc)[pc]? = some 7) : Jvm.ClassFile.Decoder.instr pc cc pc = .ok ((.iconst (4)), pc + 1) := by unfold Jvm.ClassFile.Decoder.instr; exact (yb_d (yb_g h0)).trans rfl
theorem yo_8 (h0 : (yb_by cc)[pc]? = some 8) : Jvm.ClassFile.Decoder.instr pc cc pc = .ok ((.iconst (5)), pc + 1) := by unfold Jvm.ClassFile.Decoder.instr; exact (yb_d (yb_g h0)).trans rfl
theorem yo_172 (h0 : (yb_by cc)[pc]? = some 172) : Jvm.ClassFile.Decoder.instr pc cc pc = .ok (.ireturn, pc + 1) := by unfold Jvm.ClassFile.Decoder.instr; exact (yb_d (yb_g h0)).trans rfl
theorem yo_177 (h0 : (yb_by cc)[pc]? = some 177) : Jvm.ClassFile.Decoder.instr pc cc pc = .ok (.return_, pc + 1) := by unfold Jvm.ClassFile.Decoder.instr; exact (yb_d (yb_g h0)).trans rfl
theorem yo_46 (h0 : (yb_by cc)[pc]? = some 46) : Jvm.ClassFile.Decoder.instr pc cc pc = .ok (.iaload, pc + 1) := by unfold Jvm.ClassFile.Decoder.instr; exact (yb_d (yb_g h0)).trans rfl
theorem yo_79 (h0 : (yb_by cc)[pc]? = some 79) : Jvm.ClassFile.Decoder.instr pc cc pc = .ok (.iastore, pc + 1) := by unfold Jvm.ClassFile.Decoder.instr; exact (yb_d (yb_g h0)).trans rfl
theorem yo_96 (h0 : (yb_by cc)[pc]? = some 96) : Jvm.ClassFile.Decoder.instr pc cc pc = .ok (.iadd, pc + 1) := by unfold Jvm.ClassFile.Decoder.instr; exact (yb_d (yb_g h0)).trans rfl
theorem yo_100 (h0 : (yb_by cc)[pc]? = some 100) : Jvm.ClassFile.Decoder.instr pc cc pc = .ok (.isub, pc + 1) := by unfold Jvm.ClassFile.Decoder.instr; exact (yb_d (yb_g h0)).trans rfl
theorem yo_104 (h0 : (yb_by cc)[pc]? = some 104) : Jvm.ClassFile.Decoder.instr pc cc pc = .ok (.imul, pc + 1) := by unfold Jvm.ClassFile.Decoder.instr; exact (yb_d (yb_g h0)).trans rfl
theorem yo_108 (h0 : (yb_by cc)[pc]? = some 108) : Jvm.ClassFile.Decoder.instr pc cc pc = .ok (.idiv, pc + 1) := by unfold Jvm.ClassFile.Decoder.instr; exact (yb_d (yb_g h0)).trans rfl
theorem yo_112 (h0 : (yb_by cc)[pc]? = some 112) : Jvm.ClassFile.Decoder.instr pc cc pc = .ok (.irem, pc + 1) := by unfold Jvm.ClassFile.Decoder.instr; exact (yb_d (yb_g h0)).trans rfl
theorem yo_116 (h0 : (yb_by cc)[pc]? = some 116) : Jvm.ClassFile.Decoder.instr pc cc pc = .ok (.ineg, pc + 1) := by unfold Jvm.ClassFile.Decoder.instr; exact (yb_d (yb_g h0)).trans rfl
theorem yo_120 (h0 : (yb_by cc)[pc]? = some 120) : Jvm.ClassFile.Decoder.instr pc cc pc = .ok (.ishl, pc + 1) := by unfold Jvm.ClassFile.Decoder.instr; exact (yb_d (yb_g h0)).trans rfl
theorem yo_122 (h0 : (yb_by cc)[pc]? = some 122) : Jvm.ClassFile.Decoder.instr pc cc pc = .ok (.ishr, pc + 1) := by unfold Jvm.ClassFile.Decoder.instr; exact (yb_d (yb_g h0)).trans rfl
theorem yo_124 (h0 : (yb_by cc)[pc]? = some 124) : Jvm.ClassFile.Decoder.instr pc cc pc = .ok (.iushr, pc + 1) := by unfold Jvm.ClassFile.Decoder.instr; exact (yb_d (yb_g h0)).trans rfl
theorem yo_126 (h0 : (yb_by cc)[pc]? = some 126) : Jvm.ClassFile.Decoder.instr pc cc pc = .ok (.iand, pc + 1) := by unfold Jvm.ClassFile.Decoder.instr; exact (yb_d (yb_g h0)).trans rfl
theorem yo_128 (h0 : (yb_by cc)[pc]? = some 128) : Jvm.ClassFile.Decoder.instr pc cc pc = .ok (.ior, pc + 1) := by unfold Jvm.ClassFile.Decoder.instr; exact (yb_d (yb_g h0)).trans rfl
theorem yo_130 (h0 : (yb_by cc)[pc]? = some 130) : Jvm.ClassFile.Decoder.instr pc cc pc = .ok (.ixor, pc + 1) := by unfold Jvm.ClassFile.Decoder.instr; exact (yb_d (yb_g h0)).trans rfl
theorem yo_89 (h0 : (yb_by cc)[pc]? = some 89) : Jvm.ClassFile.Decoder.instr pc cc pc = .ok (.dup, pc + 1) := by unfold Jvm.ClassFile.Decoder.instr; exact (yb_d (yb_g h0)).trans rfl
theorem yo_87 (h0 : (yb_by cc)[pc]? = some 87) : Jvm.ClassFile.Decoder.instr pc cc pc = .ok (.pop, pc + 1) := by unfold Jvm.ClassFile.Decoder.instr; exact (yb_d (yb_g h0)).trans rfl
theorem yo_190 (h0 : (yb_by cc)[pc]? = some 190) : Jvm.ClassFile.Decoder.instr pc cc pc = .ok (.arraylength, pc + 1) := by unfold Jvm.ClassFile.Decoder.instr; exact (yb_d (yb_g h0)).trans rfl
theorem yo_18 (h0 : (yb_by cc)[pc]? = some 18) (h1 : (yb_by cc)[pc + 1]? = some a) : Jvm.ClassFile.Decoder.instr pc cc pc = .ok (.ldc a, pc + 2) := by unfold Jvm.ClassFile.Decoder.instr; exact (yb_d (yb_g h0)).trans ((yb_d (yb_g h1)).trans rfl)
theorem yo_21 (h0 : (yb_by cc)[pc]? = some 21) (h1 : (yb_by cc)[pc + 1]? = some a) : Jvm.ClassFile.Decoder.instr pc cc pc = .ok (.iload a, pc + 2) := by unfold Jvm.ClassFile.Decoder.instr; exact (yb_d (yb_g h0)).trans ((yb_d (yb_g h1)).trans rfl)
theorem yo_54 (h0 : (yb_by cc)[pc]? = some 54) (h1 : (yb_by cc)[pc + 1]? = some a) : Jvm.ClassFile.Decoder.instr pc cc pc = .ok (.istore a, pc + 2) := by unfold Jvm.ClassFile.Decoder.instr; exact (yb_d (yb_g h0)).trans ((yb_d (yb_g h1)).trans rfl)
theorem yo_25 (h0 : (yb_by cc)[pc]? = some 25) (h1 : (yb_by cc)[pc + 1]? = some a) : Jvm.ClassFile.Decoder.instr pc cc pc = .ok (.aload a, pc + 2) := by unfold Jvm.ClassFile.Decoder.instr; exact (yb_d (yb_g h0)).trans ((yb_d (yb_g h1)).trans rfl)
theorem yo_58 (h0 : (yb_by cc)[pc]? = some 58) (h1 : (yb_by cc)[pc + 1]? = some a) : Jvm.ClassFile.Decoder.instr pc cc pc = .ok (.astore a, pc + 2) := by unfold Jvm.ClassFile.Decoder.instr; exact (yb_d (yb_g h0)).trans ((yb_d (yb_g h1)).trans rfl)
theorem yo_16 (h0 : (yb_by cc)[pc]? = some 16) (h1 : (yb_by cc)[pc + 1]? = some a) : Jvm.ClassFile.Decoder.instr pc cc pc = .ok (.bipush (Jvm.ClassFile.Reader.signed 8 a), pc + 2) := by unfold Jvm.ClassFile.Decoder.instr; exact (yb_d (yb_g h0)).trans ((yb_d (yb_s1 h1)).trans rfl)
theorem yo_19 (h0 : (yb_by cc)[pc]? = some 19) (h1 : (yb_by cc)[pc + 1]? = some hi) (h2 : (yb_by cc)[pc + 2]? = some lo) : Jvm.ClassFile.Decoder.instr pc cc pc = .ok (.ldc_w (hi * 256 + lo), pc + 3) := by unfold Jvm.ClassFile.Decoder.instr; exact (yb_d (yb_g h0)).trans ((yb_d (yb_2 h1 h2)).trans rfl)
theorem yo_180 (h0 : (yb_by cc)[pc]? = some 180) (h1 : (yb_by cc)[pc + 1]? = some hi) (h2 : (yb_by cc)[pc + 2]? = some lo) : Jvm.ClassFile.Decoder.instr pc cc pc = .ok (.getfield (hi * 256 + lo), pc + 3) := by unfold Jvm.ClassFile.Decoder.instr; exact (yb_d (yb_g h0)).trans ((yb_d (yb_2 h1 h2)).trans rfl)
theorem yo_181 (h0 : (yb_by cc)[pc]? = some 181) (h1 : (yb_by cc)[pc + 1]? = some hi) (h2 : (yb_by cc)[pc + 2]? = some lo) : Jvm.ClassFile.Decoder.instr pc cc pc = .ok (.putfield (hi * 256 + lo), pc + 3) := by unfold Jvm.ClassFile.Decoder.instr; exact (yb_d (yb_g h0)).trans ((yb_d (yb_2 h1 h2)).trans rfl)
theorem yo_182 (h0 : (yb_by cc)[pc]? = some 182) (h1 : (yb_by cc)[pc + 1]? = some hi) (h2 : (yb_by cc)[pc + 2]? = some lo) : Jvm.ClassFile.Decoder.instr pc cc pc = .ok (.invokevirtual (hi * 256 + lo), pc + 3) := by unfold Jvm.ClassFile.Decoder.instr; exact (yb_d (yb_g h0)).trans ((yb_d (yb_2 h1 h2)).trans rfl)
theorem yo_183 (h0 : (yb_by cc)[pc]? = some 183) (h1 : (yb_by cc)[pc + 1]? = some hi) (h2 : (yb_by cc)[pc + 2]? = some lo) : Jvm.ClassFile.Decoder.instr pc cc pc = .ok (.invokespecial (hi * 256 + lo), pc + 3) := by unfold Jvm.ClassFile.Decoder.instr; exact (yb_d (yb_g h0)).trans ((yb_d (yb_2 h1 h2)).trans rfl)
theorem yo_184 (h0 : (yb_by cc)[pc]? = some 184) (h1 : (yb_by cc)[pc + 1]? = some hi) (h2 : (yb_by cc)[pc + 2]? = some lo) : Jvm.ClassFile.Decoder.instr pc cc pc = .ok (.invokestatic (hi * 256 + lo), pc + 3) := by unfold Jvm.ClassFile.Decoder.instr; exact (yb_d (yb_g h0)).trans ((yb_d (yb_2 h1 h2)).trans rfl)
theorem yo_187 (h0 : (yb_by cc)[pc]? = some 187) (h1 : (yb_by cc)[pc + 1]? = some hi) (h2 : (yb_by cc)[pc + 2]? = some lo) : Jvm.ClassFile.Decoder.instr pc cc pc = .ok (.new (hi * 256 + lo), pc + 3) := by unfold Jvm.ClassFile.Decoder.instr; exact (yb_d (yb_g h0)).trans ((yb_d (yb_2 h1 h2)).trans rfl)
theorem yo_17 (h0 : (yb_by cc)[pc]? = some 17) (h1 : (yb_by cc)[pc + 1]? = some hi) (h2 : (yb_by cc)[pc + 2]? = some lo) : Jvm.ClassFile.Decoder.instr pc cc pc = .ok (.sipush (Jvm.ClassFile.Reader.signed 16 (hi * 256 + lo)), pc + 3) := by unfold Jvm.ClassFile.Decoder.instr; exact (yb_d (yb_g h0)).trans ((yb_d (yb_s2 h1 h2)).trans rfl)
theorem yo_167 (h0 : (yb_by cc)[pc]? = some 167) (h1 : (yb_by cc)[pc + 1]? = some hi) (h2 : (yb_by cc)[pc + 2]? = some lo) : Jvm.ClassFile.Decoder.instr pc cc pc = .ok (.goto (Jvm.ClassFile.Reader.signed 16 (hi * 256 + lo)), pc + 3) := by unfold Jvm.ClassFile.Decoder.instr; exact (yb_d (yb_g h0)).trans ((yb_d (yb_s2 h1 h2)).trans rfl)
theorem yo_153 (h0 : (yb_by cc)[pc]? = some 153) (h1 : (yb_by cc)[pc + 1]? = some hi) (h2 : (yb_by cc)[pc + 2]? = some lo) : Jvm.ClassFile.Decoder.instr pc cc pc = .ok (.ifCond .eq (Jvm.ClassFile.Reader.signed 16 (hi * 256 + lo)), pc + 3) := by unfold Jvm.ClassFile.Decoder.instr; exact (yb_d (yb_g h0)).trans ((yb_d (yb_s2 h1 h2)).trans rfl)
theorem yo_154 (h0 : (yb_by cc)[pc]? = some 154) (h1 : (yb_by cc)[pc + 1]? = some hi) (h2 : (yb_by cc)[pc + 2]? = some lo) : Jvm.ClassFile.Decoder.instr pc cc pc = .ok (.ifCond .ne (Jvm.ClassFile.Reader.signed 16 (hi * 256 + lo)), pc + 3) := by unfold Jvm.ClassFile.Decoder.instr; exact (yb_d (yb_g h0)).trans ((yb_d (yb_s2 h1 h2)).trans rfl)
theorem yo_155 (h0 : (yb_by cc)[pc]? = some 155) (h1 : (yb_by cc)[pc + 1]? = some hi) (h2 : (yb_by cc)[pc + 2]? = some lo) : Jvm.ClassFile.Decoder.instr pc cc pc = .ok (.ifCond .lt (Jvm.ClassFile.Reader.signed 16 (hi * 256 + lo)), pc + 3) := by unfold Jvm.ClassFile.Decoder.instr; exact (yb_d (yb_g h0)).trans ((yb_d (yb_s2 h1 h2)).trans rfl)
theorem yo_156 (h0 : (yb_by cc)[pc]? = some 156) (h1 : (yb_by cc)[pc + 1]? = some hi) (h2 : (yb_by cc)[pc + 2]? = some lo) : Jvm.ClassFile.Decoder.instr pc cc pc = .ok (.ifCond .ge (Jvm.ClassFile.Reader.signed 16 (hi * 256 + lo)), pc + 3) := by unfold Jvm.ClassFile.Decoder.instr; exact (yb_d (yb_g h0)).trans ((yb_d (yb_s2 h1 h2)).trans rfl)
theorem yo_157 (h0 : (yb_by cc)[pc]? = some 157) (h1 : (yb_by cc)[pc + 1]? = some hi) (h2 : (yb_by cc)[pc + 2]? = some lo) : Jvm.ClassFile.Decoder.instr pc cc pc = .ok (.ifCond .gt (Jvm.ClassFile.Reader.signed 16 (hi * 256 + lo)), pc + 3) := by unfold Jvm.ClassFile.Decoder.instr; exact (yb_d (yb_g h0)).trans ((yb_d (yb_s2 h1 h2)).trans rfl)
theorem yo_158 (h0 : (yb_by cc)[pc]? = some 158) (h1 : (yb_by cc)[pc + 1]? = some hi) (h2 : (yb_by cc)[pc + 2]? = some lo) : Jvm.ClassFile.Decoder.instr pc cc pc = .ok (.ifCond .le (Jvm.ClassFile.Reader.signed 16 (hi * 256 + lo)), pc + 3) := by unfold Jvm.ClassFile.Decoder.instr; exact (yb_d (yb_g h0)).trans ((yb_d (yb_s2 h1 h2)).trans rfl)
theorem yo_159 (h0 : (yb_by cc)[pc]? = some 159) (h1 : (yb_by cc)[pc + 1]? = some hi) (h2 : (yb_by cc)[pc + 2]? = some lo) : Jvm.ClassFile.Decoder.instr pc cc pc = .ok (.if_icmp .eq (Jvm.ClassFile.Reader.signed 16 (hi * 256 + lo)), pc + 3) := by unfold Jvm.ClassFile.Decoder.instr; exact (yb_d (yb_g h0)).trans ((yb_d (yb_s2 h1 h2)).trans rfl)
theorem yo_160 (h0 : (yb_by cc)[pc]? = some 160) (h1 : (yb_by cc)[pc + 1]? = some hi) (h2 : (yb_by cc)[pc + 2]? = some lo) : Jvm.ClassFile.Decoder.instr pc cc pc = .ok (.if_icmp .ne (Jvm.ClassFile.Reader.signed 16 (hi * 256 + lo)), pc + 3) := by unfold Jvm.ClassFile.Decoder.instr; exact (yb_d (yb_g h0)).trans ((yb_d (yb_s2 h1 h2)).trans rfl)
theorem yo_161 (h0 : (yb_by cc)[pc]? = some 161) (h1 : (yb_by cc)[pc + 1]? = some hi) (h2 : (yb_by cc)[pc + 2]? = some lo) : Jvm.ClassFile.Decoder.instr pc cc pc = .ok (.if_icmp .lt (Jvm.ClassFile.Reader.signed 16 (hi * 256 + lo)), pc + 3) := by unfold Jvm.ClassFile.Decoder.instr; exact (yb_d (yb_g h0)).trans ((yb_d (yb_s2 h1 h2)).trans rfl)
theorem yo_162 (h0 : (yb_by cc)[pc]? = some 162) (h1 : (yb_by cc)[pc + 1]? = some hi) (h2 : (yb_by cc)[pc + 2]? = some lo) : Jvm.ClassFile.Decoder.instr pc cc pc = .ok (.if_icmp .ge (Jvm.ClassFile.Reader.signed 16 (hi * 256 + lo)), pc + 3) := by unfold Jvm.ClassFile.Decoder.instr; exact (yb_d (yb_g h0)).trans ((yb_d (yb_s2 h1 h2)).trans rfl)
theorem yo_163 (h0 : (yb_by cc)[pc]? = some 163) (h1 : (yb_by cc)[pc + 1]? = some hi) (h2 : (yb_by cc)[pc + 2]? = some lo) : Jvm.ClassFile.Decoder.instr pc cc pc = .ok (.if_icmp .gt (Jvm.ClassFile.Reader.signed 16 (hi * 256 + lo)), pc + 3) := by unfold Jvm.ClassFile.Decoder.instr; exact (yb_d (yb_g h0)).trans ((yb_d (yb_s2 h1 h2)).trans rfl)
theorem yo_164 (h0 : (yb_by cc)[pc]? = some 164) (h1 : (yb_by cc)[pc + 1]? = some hi) (h2 : (yb_by cc)[pc + 2]? = some lo) : Jvm.ClassFile.Decoder.instr pc cc pc = .ok (.if_icmp .le (Jvm.ClassFile.Reader.signed 16 (hi * 256 + lo)), pc + 3) := by unfold Jvm.ClassFile.Decoder.instr; exact (yb_d (yb_g h0)).trans ((yb_d (yb_s2 h1 h2)).trans rfl)
theorem yo_132 (h0 : (yb_by cc)[pc]? = some 132) (h1 : (yb_by cc)[pc + 1]? = some hi) (h2 : (yb_by cc)[pc + 2]? = some lo) : Jvm.ClassFile.Decoder.instr pc cc pc = .ok (.iinc hi (Jvm.ClassFile.Reader.signed 8 lo), pc + 3) := by unfold Jvm.ClassFile.Decoder.instr; exact (yb_d (yb_g h0)).trans ((yb_d (yb_g h1)).trans ((yb_d (yb_s1 h2)).trans rfl))
end YB
theorem yn_aload_n (k : Fin 4) {cc : ByteArray} {pc : Nat} (h0 : (yb_by cc)[pc]? = some (42 + k.val)) : Jvm.ClassFile.Decoder.instr pc cc pc = .ok (.aload_n k, pc + 1) := by
  match k, h0 with
  | 0, h0 => exact yo_42 h0
  | 1, h0 => exact yo_43 h0
  | 2, h0 => exact yo_44 h0
  | 3, h0 => exact yo_45 h0
theorem yn_iload_n (k : Fin 4) {cc : ByteArray} {pc : Nat} (h0 : (yb_by cc)[pc]? = some (26 + k.val)) : Jvm.ClassFile.Decoder.instr pc cc pc = .ok (.iload_n k, pc + 1) := by
  match k, h0 with
  | 0, h0 => exact yo_26 h0
  | 1, h0 => exact yo_27 h0
  | 2, h0 => exact yo_28 h0
  | 3, h0 => exact yo_29 h0
theorem yn_istore_n (k : Fin 4) {cc : ByteArray} {pc : Nat} (h0 : (yb_by cc)[pc]? = some (59 + k.val)) : Jvm.ClassFile.Decoder.instr pc cc pc = .ok (.istore_n k, pc + 1) := by
  match k, h0 with
  | 0, h0 => exact yo_59 h0
  | 1, h0 => exact yo_60 h0
  | 2, h0 => exact yo_61 h0
  | 3, h0 => exact yo_62 h0
theorem yn_astore_n (k : Fin 4) {cc : ByteArray} {pc : Nat} (h0 : (yb_by cc)[pc]? = some (75 + k.val)) : Jvm.ClassFile.Decoder.instr pc cc pc = .ok (.astore_n k, pc + 1) := by
  match k, h0 with
  | 0, h0 => exact yo_75 h0
  | 1, h0 => exact yo_76 h0
  | 2, h0 => exact yo_77 h0
  | 3, h0 => exact yo_78 h0
def yk0 (op : Nat) (bs : List Nat) (len : Nat) : Bool := match bs with
  | b0 :: _ => Nat.beq b0 op && Nat.beq len 1
  | _ => false
def ykc (v : Int) (bs : List Nat) (len : Nat) : Bool := match bs with
  | b0 :: _ => (Nat.ble 2 b0 && Nat.ble b0 8) && (decide ((b0 : Int) - 3 = v) && Nat.beq len 1)
  | _ => false
def yk1 (op a : Nat) (bs : List Nat) (len : Nat) : Bool := match bs with
  | b0 :: b1 :: _ => Nat.beq b0 op && (Nat.beq b1 a && Nat.beq len 2)
  | _ => false
def yk2 (op a : Nat) (bs : List Nat) (len : Nat) : Bool := match bs with
  | b0 :: b1 :: b2 :: _ => Nat.beq b0 op && (Nat.beq (b1 * 256 + b2) a && Nat.beq len 3)
  | _ => false
def yk3 (op : Nat) (a : Int) (bs : List Nat) (len : Nat) : Bool := match bs with
  | b0 :: b1 :: _ => Nat.beq b0 op && (decide (Jvm.ClassFile.Reader.signed 8 b1 = a) && Nat.beq len 2)
  | _ => false
def yk4 (op : Nat) (a : Int) (bs : List Nat) (len : Nat) : Bool := match bs with
  | b0 :: b1 :: b2 :: _ => Nat.beq b0 op && (decide (Jvm.ClassFile.Reader.signed 16 (b1 * 256 + b2) = a) && Nat.beq len 3)
  | _ => false
def yk5 (op i : Nat) (a : Int) (bs : List Nat) (len : Nat) : Bool := match bs with
  | b0 :: b1 :: b2 :: _ => (Nat.beq b0 op && Nat.beq b1 i) && (decide (Jvm.ClassFile.Reader.signed 8 b2 = a) && Nat.beq len 3)
  | _ => false
section YS
variable {cc : ByteArray} {pc len op : Nat} {bs : List Nat}
theorem ya {a b : Bool} (h : (a && b) = true) : a = true ∧ b = true := by rw [Bool.and_eq_true] at h; exact h
theorem ys0 {x : Instr} (hb : bs = (yb_by cc).drop pc) (h : yk0 op bs len = true) (z : (yb_by cc)[pc]? = some op → Jvm.ClassFile.Decoder.instr pc cc pc = .ok (x, pc + 1)) : decode cc pc = .ok (x, len) := by
  match bs, hb, h with
  | [], _, h => exact absurd h Bool.false_ne_true
  | b0 :: r, hb, h =>
    have h' : (Nat.beq b0 op && Nat.beq len 1) = true := h
    obtain ⟨h1, h2⟩ := ya h'
    have e1 := Nat.eq_of_beq_eq_true h1
    have e2 := Nat.eq_of_beq_eq_true h2
    subst e1; subst e2
    have d := yb_dec (z (yb_dr hb).1)
    rw [show pc + 1 - pc = 1 by omega] at d
    exact d
theorem ysc {v : Int} (hb : bs = (yb_by cc).drop pc) (h : ykc v bs len = true) : decode cc pc = .ok (.iconst v, len) := by
  match bs, hb, h with
  | [], _, h => exact absurd h Bool.false_ne_true
  | b0 :: r, hb, h =>
    have h' : ((Nat.ble 2 b0 && Nat.ble b0 8) && (decide ((b0 : Int) - 3 = v) && Nat.beq len 1)) = true := h
    obtain ⟨h1, h2⟩ := ya h'
    obtain ⟨h3, h4⟩ := ya h1
    obtain ⟨h5, h6⟩ := ya h2
    have g3 := Nat.le_of_ble_eq_true h3
    have g4 := Nat.le_of_ble_eq_true h4
    have g5 := of_decide_eq_true h5
    have e2 := Nat.eq_of_beq_eq_true h6
    subst e2; subst g5
    have q := (yb_dr hb).1
    have c : b0 = 2 ∨ b0 = 3 ∨ b0 = 4 ∨ b0 = 5 ∨ b0 = 6 ∨ b0 = 7 ∨ b0 = 8 := by omega
    have k : pc + 1 - pc = 1 := by omega
    rcases c with c | c | c | c | c | c | c <;> subst c
    · have d := yb_dec (yo_2 q); rw [k] at d; exact d
    · have d := yb_dec (yo_3 q); rw [k] at d; exact d
    · have d := yb_dec (yo_4 q); rw [k] at d; exact d
    · have d := yb_dec (yo_5 q); rw [k] at d; exact d
    · have d := yb_dec (yo_6 q); rw [k] at d; exact d
    · have d := yb_dec (yo_7 q); rw [k] at d; exact d
    · have d := yb_dec (yo_8 q); rw [k] at d; exact d
theorem ys1 {a : Nat} {X : Nat → Instr} (hb : bs = (yb_by cc).drop pc) (h : yk1 op a bs len = true) (z : ∀ {b : Nat}, (yb_by cc)[pc]? = some op → (yb_by cc)[pc + 1]? = some b → Jvm.ClassFile.Decoder.instr pc cc pc = .ok (X b, pc + 2)) : decode cc pc = .ok (X a, len) := by
  match bs, hb, h with
  | [], _, h => exact absurd h Bool.false_ne_true
  | b0 :: [], _, h => exact absurd h Bool.false_ne_true
  | b0 :: b1 :: r, hb, h =>
    have h' : (Nat.beq b0 op && (Nat.beq b1 a && Nat.beq len 2)) = true := h
    obtain ⟨h1, h2⟩ := ya h'
    obtain ⟨h3, h4⟩ := ya h2
    have e1 := Nat.eq_of_beq_eq_true h1
    have e2 := Nat.eq_of_beq_eq_true h4
    have e3 := Nat.eq_of_beq_eq_true h3
    subst e1; subst e2; subst e3
    obtain ⟨q0, r0⟩ := yb_dr hb
    obtain ⟨q1, r1⟩ := yb_dr r0
    have d := yb_dec (z q0 q1)
    rw [show pc + 2 - pc = 2 by omega] at d
    exact d
theorem ys2 {a : Nat} {X : Nat → Instr} (hb : bs = (yb_by cc).drop pc) (h : yk2 op a bs len = true) (z : ∀ {hi lo : Nat}, (yb_by cc)[pc]? = some op → (yb_by cc)[pc + 1]? = some hi → (yb_by cc)[pc + 2]? = some lo → Jvm.ClassFile.Decoder.instr pc cc pc = .ok (X (hi * 256 + lo), pc + 3)) : decode cc pc = .ok (X a, len) := by
  match bs, hb, h with
  | [], _, h => exact absurd h Bool.false_ne_true
  | b0 :: [], _, h => exact absurd h Bool.false_ne_true
  | b0 :: b1 :: [], _, h => exact absurd h Bool.false_ne_true
  | b0 :: b1 :: b2 :: r, hb, h =>
    have h' : (Nat.beq b0 op && (Nat.beq (b1 * 256 + b2) a && Nat.beq len 3)) = true := h
    obtain ⟨h1, h2⟩ := ya h'
    obtain ⟨h3, h4⟩ := ya h2
    have e1 := Nat.eq_of_beq_eq_true h1
    have e2 := Nat.eq_of_beq_eq_true h4
    have e3 := Nat.eq_of_beq_eq_true h3
    subst e1; subst e2; subst e3
    obtain ⟨q0, r0⟩ := yb_dr hb
    obtain ⟨q1, r1⟩ := yb_dr r0
    obtain ⟨q2, r2⟩ := yb_dr r1
    have d := yb_dec (z q0 q1 q2)
    rw [show pc + 3 - pc = 3 by omega] at d
    exact d
theorem ys3 {a : Int} {X : Int → Instr} (hb : bs = (yb_by cc).drop pc) (h : yk3 op a bs len = true) (z : ∀ {b : Nat}, (yb_by cc)[pc]? = some op → (yb_by cc)[pc + 1]? = some b → Jvm.ClassFile.Decoder.instr pc cc pc = .ok (X (Jvm.ClassFile.Reader.signed 8 b), pc + 2)) : decode cc pc = .ok (X a, len) := by
  match bs, hb, h with
  | [], _, h => exact absurd h Bool.false_ne_true
  | b0 :: [], _, h => exact absurd h Bool.false_ne_true
  | b0 :: b1 :: r, hb, h =>
    have h' : (Nat.beq b0 op && (decide (Jvm.ClassFile.Reader.signed 8 b1 = a) && Nat.beq len 2)) = true := h
    obtain ⟨h1, h2⟩ := ya h'
    obtain ⟨h3, h4⟩ := ya h2
    have e1 := Nat.eq_of_beq_eq_true h1
    have e2 := Nat.eq_of_beq_eq_true h4
    have e3 := of_decide_eq_true h3
    subst e1; subst e2; subst e3
    obtain ⟨q0, r0⟩ := yb_dr hb
    obtain ⟨q1, r1⟩ := yb_dr r0
    have d := yb_dec (z q0 q1)
    rw [show pc + 2 - pc = 2 by omega] at d
    exact d
theorem ys4 {a : Int} {X : Int → Instr} (hb : bs = (yb_by cc).drop pc) (h : yk4 op a bs len = true) (z : ∀ {hi lo : Nat}, (yb_by cc)[pc]? = some op → (yb_by cc)[pc + 1]? = some hi → (yb_by cc)[pc + 2]? = some lo → Jvm.ClassFile.Decoder.instr pc cc pc = .ok (X (Jvm.ClassFile.Reader.signed 16 (hi * 256 + lo)), pc + 3)) : decode cc pc = .ok (X a, len) := by
  match bs, hb, h with
  | [], _, h => exact absurd h Bool.false_ne_true
  | b0 :: [], _, h => exact absurd h Bool.false_ne_true
  | b0 :: b1 :: [], _, h => exact absurd h Bool.false_ne_true
  | b0 :: b1 :: b2 :: r, hb, h =>
    have h' : (Nat.beq b0 op && (decide (Jvm.ClassFile.Reader.signed 16 (b1 * 256 + b2) = a) && Nat.beq len 3)) = true := h
    obtain ⟨h1, h2⟩ := ya h'
    obtain ⟨h3, h4⟩ := ya h2
    have e1 := Nat.eq_of_beq_eq_true h1
    have e2 := Nat.eq_of_beq_eq_true h4
    have e3 := of_decide_eq_true h3
    subst e1; subst e2; subst e3
    obtain ⟨q0, r0⟩ := yb_dr hb
    obtain ⟨q1, r1⟩ := yb_dr r0
    obtain ⟨q2, r2⟩ := yb_dr r1
    have d := yb_dec (z q0 q1 q2)
    rw [show pc + 3 - pc = 3 by omega] at d
    exact d
theorem ys5 {i : Nat} {a : Int} {X : Nat → Int → Instr} (hb : bs = (yb_by cc).drop pc) (h : yk5 op i a bs len = true) (z : ∀ {hi lo : Nat}, (yb_by cc)[pc]? = some op → (yb_by cc)[pc + 1]? = some hi → (yb_by cc)[pc + 2]? = some lo → Jvm.ClassFile.Decoder.instr pc cc pc = .ok (X hi (Jvm.ClassFile.Reader.signed 8 lo), pc + 3)) : decode cc pc = .ok (X i a, len) := by
  match bs, hb, h with
  | [], _, h => exact absurd h Bool.false_ne_true
  | b0 :: [], _, h => exact absurd h Bool.false_ne_true
  | b0 :: b1 :: [], _, h => exact absurd h Bool.false_ne_true
  | b0 :: b1 :: b2 :: r, hb, h =>
    have h' : ((Nat.beq b0 op && Nat.beq b1 i) && (decide (Jvm.ClassFile.Reader.signed 8 b2 = a) && Nat.beq len 3)) = true := h
    obtain ⟨h1, h2⟩ := ya h'
    obtain ⟨h5, h6⟩ := ya h1
    obtain ⟨h3, h4⟩ := ya h2
    have e1 := Nat.eq_of_beq_eq_true h5
    have e5 := Nat.eq_of_beq_eq_true h6
    have e2 := Nat.eq_of_beq_eq_true h4
    have e3 := of_decide_eq_true h3
    subst e1; subst e2; subst e3; subst e5
    obtain ⟨q0, r0⟩ := yb_dr hb
    obtain ⟨q1, r1⟩ := yb_dr r0
    obtain ⟨q2, r2⟩ := yb_dr r1
    have d := yb_dec (z q0 q1 q2)
    rw [show pc + 3 - pc = 3 by omega] at d
    exact d
end YS
def ycn : Jvm.ClassFile.Cond → Nat
  | .eq => 0
  | .ne => 1
  | .lt => 2
  | .ge => 3
  | .gt => 4
  | .le => 5
def yck : Instr → Option (List Nat → Nat → Bool)
  | .aload_n k => some (yk0 (42 + k.val))
  | .iload_n k => some (yk0 (26 + k.val))
  | .istore_n k => some (yk0 (59 + k.val))
  | .astore_n k => some (yk0 (75 + k.val))
  | .iconst v => some (ykc v)
  | .ireturn => some (yk0 172)
  | .return_ => some (yk0 177)
  | .iaload => some (yk0 46)
  | .iastore => some (yk0 79)
  | .iadd => some (yk0 96)
  | .isub => some (yk0 100)
  | .imul => some (yk0 104)
  | .idiv => some (yk0 108)
  | .irem => some (yk0 112)
  | .ineg => some (yk0 116)
  | .ishl => some (yk0 120)
  | .ishr => some (yk0 122)
  | .iushr => some (yk0 124)
  | .iand => some (yk0 126)
  | .ior => some (yk0 128)
  | .ixor => some (yk0 130)
  | .dup => some (yk0 89)
  | .pop => some (yk0 87)
  | .arraylength => some (yk0 190)
  | .ldc a => some (yk1 18 a)
  | .iload a => some (yk1 21 a)
  | .istore a => some (yk1 54 a)
  | .aload a => some (yk1 25 a)
  | .astore a => some (yk1 58 a)
  | .ldc_w a => some (yk2 19 a)
  | .getfield a => some (yk2 180 a)
  | .putfield a => some (yk2 181 a)
  | .invokevirtual a => some (yk2 182 a)
  | .invokespecial a => some (yk2 183 a)
  | .invokestatic a => some (yk2 184 a)
  | .new a => some (yk2 187 a)
  | .bipush a => some (yk3 16 a)
  | .sipush a => some (yk4 17 a)
  | .goto a => some (yk4 167 a)
  | .ifCond c a => some (yk4 (153 + ycn c) a)
  | .if_icmp c a => some (yk4 (159 + ycn c) a)
  | .iinc i a => some (yk5 132 i a)
  | _ => none
def yrow (cc : ByteArray) (bs : List Nat) (pc : Nat) (x : Instr) (len : Nat) : Bool := match yck x with
  | some f => f bs len
  | none => zde cc pc x len
theorem yrow_ok {cc : ByteArray} {bs : List Nat} {pc len : Nat} {x : Instr} (hb : bs = (yb_by cc).drop pc) (h : yrow cc bs pc x len = true) : decode cc pc = .ok (x, len) := by
  cases x
  case aload_n k => exact ys0 (op := 42 + k.val) hb h (yn_aload_n k)
  case iload_n k => exact ys0 (op := 26 + k.val) hb h (yn_iload_n k)
  case istore_n k => exact ys0 (op := 59 + k.val) hb h (yn_istore_n k)
  case astore_n k => exact ys0 (op := 75 + k.val) hb h (yn_astore_n k)
  case iconst v => exact ysc hb h
  case ireturn => exact ys0 (op := 172) hb h yo_172
  case return_ => exact ys0 (op := 177) hb h yo_177
  case iaload => exact ys0 (op := 46) hb h yo_46
  case iastore => exact ys0 (op := 79) hb h yo_79
  case iadd => exact ys0 (op := 96) hb h yo_96
  case isub => exact ys0 (op := 100) hb h yo_100
  case imul => exact ys0 (op := 104) hb h yo_104
  case idiv => exact ys0 (op := 108) hb h yo_108
  case irem => exact ys0 (op := 112) hb h yo_112
  case ineg => exact ys0 (op := 116) hb h yo_116
  case ishl => exact ys0 (op := 120) hb h yo_120
  case ishr => exact ys0 (op := 122) hb h yo_122
  case iushr => exact ys0 (op := 124) hb h yo_124
  case iand => exact ys0 (op := 126) hb h yo_126
  case ior => exact ys0 (op := 128) hb h yo_128
  case ixor => exact ys0 (op := 130) hb h yo_130
  case dup => exact ys0 (op := 89) hb h yo_89
  case pop => exact ys0 (op := 87) hb h yo_87
  case arraylength => exact ys0 (op := 190) hb h yo_190
  case ldc a => exact ys1 (op := 18) (X := .ldc) hb h yo_18
  case iload a => exact ys1 (op := 21) (X := .iload) hb h yo_21
  case istore a => exact ys1 (op := 54) (X := .istore) hb h yo_54
  case aload a => exact ys1 (op := 25) (X := .aload) hb h yo_25
  case astore a => exact ys1 (op := 58) (X := .astore) hb h yo_58
  case ldc_w a => exact ys2 (op := 19) (X := .ldc_w) hb h yo_19
  case getfield a => exact ys2 (op := 180) (X := .getfield) hb h yo_180
  case putfield a => exact ys2 (op := 181) (X := .putfield) hb h yo_181
  case invokevirtual a => exact ys2 (op := 182) (X := .invokevirtual) hb h yo_182
  case invokespecial a => exact ys2 (op := 183) (X := .invokespecial) hb h yo_183
  case invokestatic a => exact ys2 (op := 184) (X := .invokestatic) hb h yo_184
  case new a => exact ys2 (op := 187) (X := .new) hb h yo_187
  case bipush a => exact ys3 (op := 16) (X := .bipush) hb h yo_16
  case sipush a => exact ys4 (op := 17) (X := .sipush) hb h yo_17
  case goto a => exact ys4 (op := 167) (X := .goto) hb h yo_167
  case ifCond c a =>
    cases c
    case eq => exact ys4 (op := 153) (X := .ifCond .eq) hb h yo_153
    case ne => exact ys4 (op := 154) (X := .ifCond .ne) hb h yo_154
    case lt => exact ys4 (op := 155) (X := .ifCond .lt) hb h yo_155
    case ge => exact ys4 (op := 156) (X := .ifCond .ge) hb h yo_156
    case gt => exact ys4 (op := 157) (X := .ifCond .gt) hb h yo_157
    case le => exact ys4 (op := 158) (X := .ifCond .le) hb h yo_158
  case if_icmp c a =>
    cases c
    case eq => exact ys4 (op := 159) (X := .if_icmp .eq) hb h yo_159
    case ne => exact ys4 (op := 160) (X := .if_icmp .ne) hb h yo_160
    case lt => exact ys4 (op := 161) (X := .if_icmp .lt) hb h yo_161
    case ge => exact ys4 (op := 162) (X := .if_icmp .ge) hb h yo_162
    case gt => exact ys4 (op := 163) (X := .if_icmp .gt) hb h yo_163
    case le => exact ys4 (op := 164) (X := .if_icmp .le) hb h yo_164
  case iinc i a => exact ys5 (op := 132) (X := .iinc) hb h yo_132
  all_goals exact zde_ok h
def ydg (cc : ByteArray) : List Nat → Nat → List (Nat × Instr × Nat) → Bool
  | _, _, [] => true
  | bs, p, q :: r => Nat.ble p q.1 && (yrow cc (bs.drop (q.1 - p)) q.1 q.2.1 q.2.2 && ydg cc (bs.drop (q.1 - p)) q.1 r)
theorem ydg_ok {cc : ByteArray} : ∀ (t : List (Nat × Instr × Nat)) (bs : List Nat) (p : Nat), bs = (yb_by cc).drop p → ydg cc bs p t = true → ∀ q ∈ t, decode cc q.1 = .ok (q.2.1, q.2.2)
  | [], _, _, _, _ => fun q hq => absurd hq List.not_mem_nil
  | q :: r, bs, p, hb, h => by
    have h' : (Nat.ble p q.1 && (yrow cc (bs.drop (q.1 - p)) q.1 q.2.1 q.2.2 && ydg cc (bs.drop (q.1 - p)) q.1 r)) = true := h
    obtain ⟨h1, h2⟩ := ya h'
    obtain ⟨h3, h4⟩ := ya h2
    have le := Nat.le_of_ble_eq_true h1
    have e : bs.drop (q.1 - p) = (yb_by cc).drop q.1 := by rw [hb, List.drop_drop]; congr 1; omega
    intro q' hq
    rcases List.mem_cons.mp hq with z | z
    · rw [z]; exact yrow_ok e h3
    · exact ydg_ok r _ q.1 e h4 q' z

def zdt (cc : ByteArray) (t : List (Nat × Instr × Nat)) : Bool := ydg cc (yb_by cc) 0 t
theorem zdk {cc : ByteArray} {t : List (Nat × Instr × Nat)} (h : zdt cc t = true) (i : Nat) {pc len n : Nat} {x : Instr} (hi : t[i]? = some (pc, x, len)) (hn : pc + len = n) : zd cc pc x len n :=
  ⟨ydg_ok t (yb_by cc) 0 rfl h (pc, x, len) (List.mem_of_getElem? hi), hn⟩
