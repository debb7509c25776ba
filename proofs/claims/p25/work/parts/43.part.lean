theorem zwp_al (a b : Int) : zwp (zwp a + b) = zwp (a + b) := by unfold zwp; rw [Int32.ofInt_add, Int32.ofInt_toInt, ← Int32.ofInt_add]
theorem zwp_ar (a b : Int) : zwp (a + zwp b) = zwp (a + b) := by rw [Int.add_comm, zwp_al, Int.add_comm]
theorem zwp_mr (a b : Int) : zwp (a * zwp b) = zwp (a * b) := by unfold zwp; rw [Int32.ofInt_mul, Int32.ofInt_toInt, ← Int32.ofInt_mul]
theorem zwp_c (q a b : Int) : zwp (zwp (q * zwp a) + zwp b) = zwp (q * a + b) := by rw [zwp_al, zwp_ar, ← zwp_al, zwp_mr, zwp_al]
def zcfE (a b : Int) : Nat → Int × Int
  | 0 => (a, b)
  | n + 1 => ((zcfE a b n).2, (zcfE a b n).1 % (zcfE a b n).2)
def zcfq (a b : Int) (n : Nat) : Int := (zcfE a b n).1 / (zcfE a b n).2
def zcfF (f : Nat → Int) (u w : Int) : Nat → Int × Int
  | 0 => (u, w)
  | n + 1 => (f n * (zcfF f u w n).1 + (zcfF f u w n).2, (zcfF f u w n).1)
def zcfG (f : Nat → Int) (i : Nat) : Nat → Int × Int
  | 0 => (f i, 1)
  | n + 1 => (f (i - (n + 1)) * (zcfG f i n).1 + (zcfG f i n).2, (zcfG f i n).1)
theorem zcfFG (f : Nat → Int) (u w : Int) (i : Nat) : ∀ n, n ≤ i → (zcfF f u w (i + 1)).1 = (zcfF f u w (i - n)).1 * (zcfG f i n).1 + (zcfF f u w (i - n)).2 * (zcfG f i n).2 := by
  intro n
  induction n with
  | zero =>
    intro _
    show f i * (zcfF f u w i).1 + (zcfF f u w i).2 = (zcfF f u w i).1 * f i + (zcfF f u w i).2 * 1
    rw [Int.mul_one, Int.mul_comm]
  | succ n ih =>
    intro h
    rw [ih (by omega)]
    have e : i - n = (i - (n + 1)) + 1 := by omega
    rw [e]
    generalize i - (n + 1) = k at e ⊢
    have e2 : i - (n + 1) = k := by omega
    show (f k * (zcfF f u w k).1 + (zcfF f u w k).2) * (zcfG f i n).1 + (zcfF f u w k).1 * (zcfG f i n).2 = (zcfF f u w k).1 * (f (i - (n + 1)) * (zcfG f i n).1 + (zcfG f i n).2) + (zcfF f u w k).2 * (zcfG f i n).1
    rw [e2, Int.add_mul, Int.mul_add, Int.mul_assoc, Int.mul_left_comm]
    omega
theorem zcfFG1 (f : Nat → Int) (i : Nat) : (zcfF f 1 0 (i + 1)).1 = (zcfG f i i).1 := by
  rw [zcfFG f 1 0 i i (Nat.le_refl _), Nat.sub_self]
  show 1 * (zcfG f i i).1 + 0 * (zcfG f i i).2 = _
  omega
theorem zcfFG0 (f : Nat → Int) (i : Nat) : (zcfF f 0 1 (i + 1)).1 = (zcfG f i i).2 := by
  rw [zcfFG f 0 1 i i (Nat.le_refl _), Nat.sub_self]
  show 0 * (zcfG f i i).1 + 1 * (zcfG f i i).2 = _
  omega
def zcfI (a b x y n : Int) : Prop := 0 ≤ n ∧ zcfE a b n.toNat = (x, y) ∧ ∀ m : Nat, (m : Int) < n → (zcfE a b m).2 ≠ 0
def zcfN (a b n : Int) : Prop := 0 ≤ n ∧ (zcfE a b n.toNat).2 = 0 ∧ ∀ m : Nat, (m : Int) < n → (zcfE a b m).2 ≠ 0
section ZCF
variable {a b x y n : Int}
theorem zcfI_0 : zcfI a b a b 0 := ⟨by omega, rfl, fun m h => absurd h (by omega)⟩
theorem zcfI_s (h : zcfI a b x y n) (hy : y ≠ 0) : zcfI a b y (x % y) (n + 1) := by
  obtain ⟨h1, h2, h3⟩ := h
  have e : (n + 1).toNat = n.toNat + 1 := by omega
  refine ⟨by omega, ?_, fun m hm => ?_⟩
  · rw [e]
    show ((zcfE a b n.toNat).2, (zcfE a b n.toNat).1 % (zcfE a b n.toNat).2) = _
    rw [h2]
  · by_cases q : m = n.toNat
    · rw [q, h2]; exact hy
    · exact h3 m (by omega)
theorem zcfI_n (h : zcfI a b x y n) (hy : y = 0) : zcfN a b n := ⟨h.1, by rw [h.2.1]; exact hy, h.2.2⟩
theorem zcfN_u {n' : Int} (h : zcfN a b n) (h' : zcfN a b n') : n = n' := by
  obtain ⟨a1, a2, a3⟩ := h
  obtain ⟨b1, b2, b3⟩ := h'
  rcases Int.lt_trichotomy n n' with c | c | c
  · exact absurd a2 (b3 n.toNat (by omega))
  · exact c
  · exact absurd b2 (a3 n'.toNat (by omega))
/-- the value of kind k at place i -/
def zcfV (a b k i v : Int) : Prop := (k = 1 → v = zcfq a b i.toNat) ∧ (k = 2 → v = zwp (zcfF (zcfq a b) 1 0 (i.toNat + 1)).1) ∧ (k = 3 → v = zwp (zcfF (zcfq a b) 0 1 (i.toNat + 1)).1)
def zcfP (a b k i v : Int) : Prop := (∀ n, zcfN a b n → i < n → zcfV a b k i v) ∧ (∀ n, zcfN a b n → n ≤ i → v = -1)
/-- the forward pair -/
def zcfW (a b u w n s t : Int) : Prop := s = zwp (zcfF (zcfq a b) u w n.toNat).1 ∧ t = zwp (zcfF (zcfq a b) u w n.toNat).2
theorem zcfW_s {u w s t : Int} (h : zcfI a b x y n) (g : zcfW a b u w n s t) : zcfW a b u w (n + 1) (zwp (zwp ((x / y) * s) + t)) s := by
  have e : (n + 1).toNat = n.toNat + 1 := by have := h.1; omega
  unfold zcfW
  rw [e]
  show _ = zwp (zcfq a b n.toNat * (zcfF (zcfq a b) u w n.toNat).1 + (zcfF (zcfq a b) u w n.toNat).2) ∧ s = zwp (zcfF (zcfq a b) u w n.toNat).1
  have e2 : zcfq a b n.toNat = x / y := by unfold zcfq; rw [h.2.1]
  rw [e2]
  exact ⟨by rw [g.1, g.2, zwp_c], g.1⟩
end ZCF
section ZCP
variable {a b x y n k i v s t : Int}
theorem zcfP_n (h : zcfI a b x y n) (hy : y = 0) (hi : n ≤ i) : zcfP a b k i (-1) := by
  have N := zcfI_n h hy
  exact ⟨fun m hm hi2 => absurd (zcfN_u N hm) (by omega), fun _ _ _ => rfl⟩
theorem zcfP_v (h : zcfI a b x y n) (hy : ¬ y = 0) (hi : n = i) (g : zcfV a b k i v) : zcfP a b k i v := by
  refine ⟨fun _ _ _ => g, fun m hm hmi => ?_⟩
  obtain ⟨m0, m1, m2⟩ := hm
  exfalso
  by_cases q : m = n
  · rw [q, h.2.1] at m1; exact hy m1
  · exact h.2.2 m.toNat (by omega) m1
theorem zcfV_1 (h : zcfI a b x y n) (hi : n = i) (hk : k = 1) : zcfV a b k i (x / y) := by
  subst hi
  refine ⟨fun _ => by unfold zcfq; rw [h.2.1], fun z => absurd z (by omega), fun z => absurd z (by omega)⟩
theorem zcfV_2 (h : zcfI a b x y n) (g : zcfW a b 1 0 n s t) (hi : n = i) (hk : k = 2) : zcfV a b k i (zwp (zwp ((x / y) * s) + t)) := by
  subst hi
  have e : (n + 1).toNat = n.toNat + 1 := by have := h.1; omega
  have z := (zcfW_s h g).1
  rw [e] at z
  exact ⟨fun z => absurd z (by omega), fun _ => z, fun z => absurd z (by omega)⟩
theorem zcfV_3 (h : zcfI a b x y n) (g : zcfW a b 0 1 n s t) (hi : n = i) (hk : k = 3) : zcfV a b k i (zwp (zwp ((x / y) * s) + t)) := by
  subst hi
  have e : (n + 1).toNat = n.toNat + 1 := by have := h.1; omega
  have z := (zcfW_s h g).1
  rw [e] at z
  exact ⟨fun z => absurd z (by omega), fun z => absurd z (by omega), fun _ => z⟩
end ZCP
def zcfg (a b : Int) : Prop := (1 ≤ a ∧ a ≤ 9999) ∧ (1 ≤ b ∧ b ≤ 9999)
def zcfD (a b w v : Int) : Prop := (zcfg a b → (w = 0 → zcfN a b v) ∧ ((100 ≤ w ∧ w ≤ 399) → zcfP a b (w / 100) (w % 100) v) ∧ ((¬ w = 0 ∧ ¬ (100 ≤ w ∧ w ≤ 399)) → v = -1)) ∧ (¬ zcfg a b → v = -1)
theorem zcfD_n {a b w v : Int} (g : ¬ zcfg a b) (h : v = -1) : zcfD a b w v := ⟨fun z => absurd z g, fun _ => h⟩
theorem zcfD_0 {a b w v : Int} (g : zcfg a b) (e : w = 0) (h : zcfN a b v) : zcfD a b w v := ⟨fun _ => ⟨fun _ => h, fun z => absurd z (by omega), fun z => absurd z (by omega)⟩, fun z => absurd g z⟩
theorem zcfD_p {a b w v : Int} (g : zcfg a b) (e : 100 ≤ w ∧ w ≤ 399) (h : zcfP a b (w / 100) (w % 100) v) : zcfD a b w v := ⟨fun _ => ⟨fun z => absurd z (by omega), fun _ => h, fun z => absurd z (by omega)⟩, fun z => absurd g z⟩
theorem zcfD_o {a b w v : Int} (e : ¬ w = 0 ∧ ¬ (100 ≤ w ∧ w ≤ 399)) (h : v = -1) : zcfD a b w v := ⟨fun _ => ⟨fun z => absurd z (by omega), fun z => absurd z (by omega), fun _ => h⟩, fun _ => h⟩
section ZCR
variable {a b i k v s t q N : Int}
theorem zcfP_m (h : zcfN a b N) (hi : N ≤ i) : zcfP a b k i (-1) := ⟨fun m hm hi2 => absurd (zcfN_u h hm) (by omega), fun _ _ _ => rfl⟩
theorem zcfP_w (h : zcfN a b N) (hi : i < N) (g : zcfV a b k i v) : zcfP a b k i v := ⟨fun _ _ _ => g, fun m hm hmi => absurd (zcfN_u h hm) (by omega)⟩
def zcfR (a b i k s t : Int) : Prop := s = zwp (zcfG (zcfq a b) i.toNat (i - 1 - k).toNat).1 ∧ t = zwp (zcfG (zcfq a b) i.toNat (i - 1 - k).toNat).2
theorem zcfR_0 (e : q = zcfq a b i.toNat) (hq : zin q) : zcfR a b i (i - 1) q 1 := by
  have e0 : (i - 1 - (i - 1)).toNat = 0 := by omega
  unfold zcfR
  rw [e0]
  show q = zwp (zcfq a b i.toNat) ∧ 1 = zwp 1
  rw [← e, zwp_id hq]
  exact ⟨rfl, (zwp_id (by decide)).symm⟩
theorem zcfR_s (h : zcfR a b i k s t) (hk : 0 ≤ k ∧ k ≤ i - 1) (e : q = zcfq a b k.toNat) : zcfR a b i (k - 1) (zwp (zwp (q * s) + t)) s := by
  have e1 : (i - 1 - (k - 1)).toNat = (i - 1 - k).toNat + 1 := by omega
  have e2 : i.toNat - ((i - 1 - k).toNat + 1) = k.toNat := by omega
  unfold zcfR
  rw [e1]
  show _ = zwp (zcfq a b (i.toNat - ((i - 1 - k).toNat + 1)) * (zcfG (zcfq a b) i.toNat (i - 1 - k).toNat).1 + (zcfG (zcfq a b) i.toNat (i - 1 - k).toNat).2) ∧ s = zwp (zcfG (zcfq a b) i.toNat (i - 1 - k).toNat).1
  rw [e2, ← e]
  exact ⟨by rw [h.1, h.2, zwp_c], h.1⟩
theorem zcfR_e (h : zcfR a b i k s t) (hk : k = -1) (hi : 0 ≤ i) : s = zwp (zcfF (zcfq a b) 1 0 (i.toNat + 1)).1 ∧ t = zwp (zcfF (zcfq a b) 0 1 (i.toNat + 1)).1 := by
  have e0 : (i - 1 - k).toNat = i.toNat := by omega
  unfold zcfR at h
  rw [e0] at h
  rw [zcfFG1, zcfFG0]
  exact h
end ZCR
theorem zcf_ex {a b : Int} : ∀ (m : Nat) (x y n : Int), zcfI a b x y n → 0 ≤ y → y.toNat < m → ∃ N, zcfN a b N := by
  intro m
  induction m with
  | zero => intro x y n _ _ h; exact absurd h (Nat.not_lt_zero _)
  | succ m ih =>
    intro x y n h hy hm
    by_cases c : y = 0
    · exact ⟨n, zcfI_n h c⟩
    · have h1 := Int.emod_nonneg x c
      have h2 := Int.emod_lt_of_pos x (show 0 < y by omega)
      exact ih y (x % y) (n + 1) (zcfI_s h c) h1 (by omega)
theorem zcfV_u {a b k i v v' : Int} (hk : k = 1 ∨ k = 2 ∨ k = 3) (h : zcfV a b k i v) (h' : zcfV a b k i v') : v = v' := by
  rcases hk with q | q | q
  · rw [h.1 q, h'.1 q]
  · rw [h.2.1 q, h'.2.1 q]
  · rw [h.2.2 q, h'.2.2 q]
theorem zcfD_u {a b w v v' : Int} (h : zcfD a b w v) (h' : zcfD a b w v') : v = v' := by
  by_cases g : zcfg a b
  · have d := h.1 g
    have d' := h'.1 g
    by_cases c : w = 0
    · exact zcfN_u (d.1 c) (d'.1 c)
    · by_cases c2 : 100 ≤ w ∧ w ≤ 399
      · obtain ⟨N, hN⟩ := zcf_ex (b.toNat + 1) a b 0 zcfI_0 (by unfold zcfg at g; omega) (by omega)
        by_cases c3 : N ≤ w % 100
        · rw [(d.2.1 c2).2 N hN c3, (d'.2.1 c2).2 N hN c3]
        · exact zcfV_u (by omega) ((d.2.1 c2).1 N hN (by omega)) ((d'.2.1 c2).1 N hN (by omega))
      · rw [d.2.2 ⟨c, c2⟩, d'.2.2 ⟨c, c2⟩]
  · rw [h.2 g, h'.2 g]

abbrev q2_X8_quotients (h : zM) (p1 : Int) (p2 : Int) : Option zV → zM → Prop := zqi fun v h' => h = h' ∧ (0 ≤ v ∧ v ≤ 64) ∧ (zcfN p1 p2 v)
set_option maxRecDepth 100000 in
set_option maxHeartbeats 4000000 in
theorem s2_X8_quotients (l : Launch) (h : zM) (p1 : Int) (p2 : Int) (s0 : okC h) (b_p1 : 1 ≤ p1 ∧ p1 ≤ 9999) (b_p2 : 1 ≤ p2 ∧ p2 ≤ 9999) : zT shC l yX8_quotients cX8_quotients 7 (some .int) (rmL 1) 0 0 [.inl p1, .inl p2] h (q2_X8_quotients h p1 p2) := by
  refine zT_of (by decide +kernel) (L0 := [some (.inl p1), some (.inl p2), none, none, none, none, none]) rfl (Nat.le_of_ble_eq_true rfl) ?_
  refine zj_iload_n (zdk ttX8_quotients 0 rfl rfl) rfl ?_
  refine zj_istore_n (L' := [some (.inl p1), some (.inl p2), some (.inl p1), none, none, none, none]) (zdk ttX8_quotients 1 rfl rfl) (by decide) rfl ?_
  refine zj_iload_n (zdk ttX8_quotients 2 rfl rfl) rfl ?_
  refine zj_istore_n (L' := [some (.inl p1), some (.inl p2), some (.inl p1), some (.inl p2), none, none, none]) (zdk ttX8_quotients 3 rfl rfl) (by decide) rfl ?_
  refine zj_iconst (zdk ttX8_quotients 4 rfl rfl) ?_
  refine zj_istore (L' := [some (.inl p1), some (.inl p2), some (.inl p1), some (.inl p2), some (.inl 0), none, none]) (zdk ttX8_quotients 5 rfl rfl) (by decide) rfl ?_
  refine zj_iconst (zdk ttX8_quotients 6 rfl rfl) ?_
  refine zj_istore (L' := [some (.inl p1), some (.inl p2), some (.inl p1), some (.inl p2), some (.inl 0), some (.inl 0), none]) (zdk ttX8_quotients 7 rfl rfl) (by decide) rfl ?_
  have lp8 : ∀ (n : Nat) (x1 x2 x3 x4 : Int), (1 ≤ x1 ∧ x1 ≤ 9999) → (0 ≤ x2 ∧ x2 ≤ 9999) → (0 ≤ x3 ∧ x3 ≤ 64) → (0 ≤ x4 ∧ x4 ≤ 64) → (zcfI p1 p2 x1 x2 x4) → (zfq x1 x2 x4) → (x3 = x4) → (65 - x3).toNat < n → zJ shC l yX8_quotients cX8_quotients 7 (some .int) (rmL 1) 0 0 (q2_X8_quotients h p1 p2) 0 0 10 [some (.inl p1), some (.inl p2), some (.inl x1), some (.inl x2), some (.inl x3), some (.inl x4), none] [] h := by
    intro n
    induction n with
    | zero => intro x1 x2 x3 x4 b9 b10 b11 b12 u13 u14 u15 m16; exact absurd m16 (Nat.not_lt_zero _)
    | succ n ih17 =>
      intro x1 x2 x3 x4 b9 b10 b11 b12 u13 u14 u15 m16
      refine zj_iload (zdk ttX8_quotients 8 rfl rfl) rfl ?_
      refine zj_bipush (zdk ttX8_quotients 9 rfl rfl) (by decide) ?_
      refine zj_icmp_ge (t := 40) (zdk ttX8_quotients 10 rfl rfl) (by decide) (by omega) (by decide) (fun c18 => ?_) (fun c18 => ?_)
      · refine zj_iload (zdk ttX8_quotients 24 rfl rfl) rfl ?_
        exact zj_iret rfl (zdk ttX8_quotients 25 rfl rfl) (Nat.le_refl _) (Nat.le_refl _) ⟨x3, rfl, rfl, by omega, by have e9 : x3 = x4 := (by omega); rw [e9]; exact zcfI_n u13 (Classical.byContradiction fun z9 => absurd (zfq_n u14 (by omega)) (by omega))⟩
      · refine zj_iload_n (zdk ttX8_quotients 11 rfl rfl) rfl ?_
        refine zj_if_eq (t := 40) (zdk ttX8_quotients 12 rfl rfl) (by decide) (by omega) (fun c19 => ?_) (fun c19 => ?_)
        · refine zj_iload (zdk ttX8_quotients 24 rfl rfl) rfl ?_
          exact zj_iret rfl (zdk ttX8_quotients 25 rfl rfl) (Nat.le_refl _) (Nat.le_refl _) ⟨x3, rfl, rfl, by omega, by have e9 : x3 = x4 := (by omega); rw [e9]; exact zcfI_n u13 (Classical.byContradiction fun z9 => absurd (zfq_n u14 (by omega)) (by omega))⟩
        · refine zj_iload_n (zdk ttX8_quotients 13 rfl rfl) rfl ?_
          refine zj_iload_n (zdk ttX8_quotients 14 rfl rfl) rfl ?_
          refine zj_iremP (zdk ttX8_quotients 15 rfl rfl) (by omega) (by omega) ?_
          have b20 := zmod_b (x := x1) (b := x2) (by omega) (by omega)
          refine zj_istore (L' := [some (.inl p1), some (.inl p2), some (.inl x1), some (.inl x2), some (.inl x3), some (.inl x4), some (.inl (x1 % x2))]) (zdk ttX8_quotients 16 rfl rfl) (by decide) rfl ?_
          refine zj_iload_n (zdk ttX8_quotients 17 rfl rfl) rfl ?_
          refine zj_istore_n (L' := [some (.inl p1), some (.inl p2), some (.inl x2), some (.inl x2), some (.inl x3), some (.inl x4), some (.inl (x1 % x2))]) (zdk ttX8_quotients 18 rfl rfl) (by decide) rfl ?_
          refine zj_iload (zdk ttX8_quotients 19 rfl rfl) rfl ?_
          refine zj_istore_n (L' := [some (.inl p1), some (.inl p2), some (.inl x2), some (.inl (x1 % x2)), some (.inl x3), some (.inl x4), some (.inl (x1 % x2))]) (zdk ttX8_quotients 20 rfl rfl) (by decide) rfl ?_
          refine zj_iinc (L' := [some (.inl p1), some (.inl p2), some (.inl x2), some (.inl (x1 % x2)), some (.inl (x3 + 1)), some (.inl x4), some (.inl (x1 % x2))]) (zdk ttX8_quotients 21 rfl rfl) rfl (by decide) rfl ?_
          refine zj_iinc (L' := [some (.inl p1), some (.inl p2), some (.inl x2), some (.inl (x1 % x2)), some (.inl (x3 + 1)), some (.inl (x4 + 1)), some (.inl (x1 % x2))]) (zdk ttX8_quotients 22 rfl rfl) rfl (by decide) rfl ?_
          refine zj_goto (t := 10) (zdk ttX8_quotients 23 rfl rfl) (by decide) ?_
          refine zj_kill (k := 6) (L' := [some (.inl p1), some (.inl p2), some (.inl x2), some (.inl (x1 % x2)), some (.inl (x3 + 1)), some (.inl (x4 + 1)), none]) rfl ?_
          exact ih17  x2 (x1 % x2) (x3 + 1) (x4 + 1) (by omega) (by omega) (by omega) (by omega) (zcfI_s u13 (by omega)) (zfq_s u14 (by omega) (by omega)) (by omega) (by omega)
  exact lp8 _ p1 p2 0 0 (by omega) (by omega) (by omega) (by omega) zcfI_0 ⟨by omega, by omega, Or.inl rfl⟩ (by omega) (Nat.lt_succ_self _)

abbrev q2_X8_partOf (h : zM) (p1 : Int) (p2 : Int) (p3 : Int) (p4 : Int) : Option zV → zM → Prop := zqi fun v h' => h = h' ∧ ((-2147483648) ≤ v ∧ v ≤ 2147483647) ∧ (zcfP p1 p2 p3 p4 v)
set_option maxRecDepth 100000 in
set_option maxHeartbeats 4000000 in
theorem s2_X8_partOf (l : Launch) (h : zM) (p1 : Int) (p2 : Int) (p3 : Int) (p4 : Int) (s0 : okC h) (b_p1 : 1 ≤ p1 ∧ p1 ≤ 9999) (b_p2 : 1 ≤ p2 ∧ p2 ≤ 9999) (b_p3 : 1 ≤ p3 ∧ p3 ≤ 3) (b_p4 : 0 ≤ p4 ∧ p4 ≤ 99) : zT shC l yX8_partOf cX8_partOf 15 (some .int) (rmL 1) 0 0 [.inl p1, .inl p2, .inl p3, .inl p4] h (q2_X8_partOf h p1 p2 p3 p4) := by
  refine zT_of (by decide +kernel) (L0 := [some (.inl p1), some (.inl p2), some (.inl p3), some (.inl p4), none, none, none, none, none, none, none, none, none, none, none]) rfl (Nat.le_of_ble_eq_true rfl) ?_
  refine zj_iload_n (zdk ttX8_partOf 0 rfl rfl) rfl ?_
  refine zj_istore (L' := [some (.inl p1), some (.inl p2), some (.inl p3), some (.inl p4), some (.inl p1), none, none, none, none, none, none, none, none, none, none]) (zdk ttX8_partOf 1 rfl rfl) (by decide) rfl ?_
  refine zj_iload_n (zdk ttX8_partOf 2 rfl rfl) rfl ?_
  refine zj_istore (L' := [some (.inl p1), some (.inl p2), some (.inl p3), some (.inl p4), some (.inl p1), some (.inl p2), none, none, none, none, none, none, none, none, none]) (zdk ttX8_partOf 3 rfl rfl) (by decide) rfl ?_
  refine zj_iconst (zdk ttX8_partOf 4 rfl rfl) ?_
  refine zj_istore (L' := [some (.inl p1), some (.inl p2), some (.inl p3), some (.inl p4), some (.inl p1), some (.inl p2), some (.inl 1), none, none, none, none, none, none, none, none]) (zdk ttX8_partOf 5 rfl rfl) (by decide) rfl ?_
  refine zj_iconst (zdk ttX8_partOf 6 rfl rfl) ?_
  refine zj_istore (L' := [some (.inl p1), some (.inl p2), some (.inl p3), some (.inl p4), some (.inl p1), some (.inl p2), some (.inl 1), some (.inl 0), none, none, none, none, none, none, none]) (zdk ttX8_partOf 7 rfl rfl) (by decide) rfl ?_
  refine zj_iconst (zdk ttX8_partOf 8 rfl rfl) ?_
  refine zj_istore (L' := [some (.inl p1), some (.inl p2), some (.inl p3), some (.inl p4), some (.inl p1), some (.inl p2), some (.inl 1), some (.inl 0), some (.inl 0), none, none, none, none, none, none]) (zdk ttX8_partOf 9 rfl rfl) (by decide) rfl ?_
  refine zj_iconst (zdk ttX8_partOf 10 rfl rfl) ?_
  refine zj_istore (L' := [some (.inl p1), some (.inl p2), some (.inl p3), some (.inl p4), some (.inl p1), some (.inl p2), some (.inl 1), some (.inl 0), some (.inl 0), some (.inl 1), none, none, none, none, none]) (zdk ttX8_partOf 11 rfl rfl) (by decide) rfl ?_
  refine zj_iconst (zdk ttX8_partOf 12 rfl rfl) ?_
  refine zj_istore (L' := [some (.inl p1), some (.inl p2), some (.inl p3), some (.inl p4), some (.inl p1), some (.inl p2), some (.inl 1), some (.inl 0), some (.inl 0), some (.inl 1), some (.inl 0), none, none, none, none]) (zdk ttX8_partOf 13 rfl rfl) (by decide) rfl ?_
  have lp57 : ∀ (n : Nat) (x1 x2 x3 x4 x5 x6 x7 : Int), (1 ≤ x1 ∧ x1 ≤ 9999) → (0 ≤ x2 ∧ x2 ≤ 9999) → (-2147483648 ≤ x3 ∧ x3 ≤ 2147483647) → (-2147483648 ≤ x4 ∧ x4 ≤ 2147483647) → (-2147483648 ≤ x5 ∧ x5 ≤ 2147483647) → (-2147483648 ≤ x6 ∧ x6 ≤ 2147483647) → (0 ≤ x7 ∧ x7 ≤ 99) → (zcfI p1 p2 x1 x2 x7) → (zcfW p1 p2 1 0 x7 x3 x4) → (zcfW p1 p2 0 1 x7 x5 x6) → (x7 ≤ p4) → (100 - x7).toNat < n → zJ shC l yX8_partOf cX8_partOf 15 (some .int) (rmL 1) 0 0 (q2_X8_partOf h p1 p2 p3 p4) 0 0 21 [some (.inl p1), some (.inl p2), some (.inl p3), some (.inl p4), some (.inl x1), some (.inl x2), some (.inl x3), some (.inl x4), some (.inl x5), some (.inl x6), some (.inl x7), none, none, none, none] [] h := by
    intro n
    induction n with
    | zero => intro x1 x2 x3 x4 x5 x6 x7 b58 b59 b60 b61 b62 b63 b64 u65 u66 u67 u68 m69; exact absurd m69 (Nat.not_lt_zero _)
    | succ n ih70 =>
      intro x1 x2 x3 x4 x5 x6 x7 b58 b59 b60 b61 b62 b63 b64 u65 u66 u67 u68 m69
      refine zj_iload (zdk ttX8_partOf 14 rfl rfl) rfl ?_
      refine zj_iload_n (zdk ttX8_partOf 15 rfl rfl) rfl ?_
      refine zj_icmp_gt (t := 125) (zdk ttX8_partOf 16 rfl rfl) (by decide) (by omega) (by omega) (fun c71 => ?_) (fun c71 => ?_)
      · refine zj_iconst (zdk ttX8_partOf 68 rfl rfl) ?_
        exact zj_iret rfl (zdk ttX8_partOf 69 rfl rfl) (Nat.le_refl _) (Nat.le_refl _) ⟨(-1), rfl, rfl, by omega, by first | (exfalso; omega) | exact zcfP_n u65 (by omega) (by omega) | exact zcfP_v u65 (by omega) (by omega) (by first | exact zcfV_1 u65 (by omega) (by omega) | exact zcfV_2 u65 u66 (by omega) (by omega) | exact zcfV_3 u65 u67 (by omega) (by omega))⟩
      · refine zj_iload (zdk ttX8_partOf 17 rfl rfl) rfl ?_
        refine zj_if_eq (t := 125) (zdk ttX8_partOf 18 rfl rfl) (by decide) (by omega) (fun c72 => ?_) (fun c72 => ?_)
        · refine zj_iconst (zdk ttX8_partOf 68 rfl rfl) ?_
          exact zj_iret rfl (zdk ttX8_partOf 69 rfl rfl) (Nat.le_refl _) (Nat.le_refl _) ⟨(-1), rfl, rfl, by omega, by first | (exfalso; omega) | exact zcfP_n u65 (by omega) (by omega) | exact zcfP_v u65 (by omega) (by omega) (by first | exact zcfV_1 u65 (by omega) (by omega) | exact zcfV_2 u65 u66 (by omega) (by omega) | exact zcfV_3 u65 u67 (by omega) (by omega))⟩
        · refine zj_iload (zdk ttX8_partOf 19 rfl rfl) rfl ?_
          refine zj_iload (zdk ttX8_partOf 20 rfl rfl) rfl ?_
          refine zj_idivP (zdk ttX8_partOf 21 rfl rfl) (by omega) (by omega) ?_
          have b73 := zdiv_b (x := x1) (b := x2) (by omega) (by omega)
          refine zj_istore (L' := [some (.inl p1), some (.inl p2), some (.inl p3), some (.inl p4), some (.inl x1), some (.inl x2), some (.inl x3), some (.inl x4), some (.inl x5), some (.inl x6), some (.inl x7), some (.inl (x1 / x2)), none, none, none]) (zdk ttX8_partOf 22 rfl rfl) (by decide) rfl ?_
          refine zj_iload (zdk ttX8_partOf 23 rfl rfl) rfl ?_
          refine zj_iload (zdk ttX8_partOf 24 rfl rfl) rfl ?_
          refine zj_iremP (zdk ttX8_partOf 25 rfl rfl) (by omega) (by omega) ?_
          have b74 := zmod_b (x := x1) (b := x2) (by omega) (by omega)
          refine zj_istore (L' := [some (.inl p1), some (.inl p2), some (.inl p3), some (.inl p4), some (.inl x1), some (.inl x2), some (.inl x3), some (.inl x4), some (.inl x5), some (.inl x6), some (.inl x7), some (.inl (x1 / x2)), some (.inl (x1 % x2)), none, none]) (zdk ttX8_partOf 26 rfl rfl) (by decide) rfl ?_
          refine zj_iload (zdk ttX8_partOf 27 rfl rfl) rfl ?_
          refine zj_istore (L' := [some (.inl p1), some (.inl p2), some (.inl p3), some (.inl p4), some (.inl x2), some (.inl x2), some (.inl x3), some (.inl x4), some (.inl x5), some (.inl x6), some (.inl x7), some (.inl (x1 / x2)), some (.inl (x1 % x2)), none, none]) (zdk ttX8_partOf 28 rfl rfl) (by decide) rfl ?_
          refine zj_iload (zdk ttX8_partOf 29 rfl rfl) rfl ?_
          refine zj_istore (L' := [some (.inl p1), some (.inl p2), some (.inl p3), some (.inl p4), some (.inl x2), some (.inl (x1 % x2)), some (.inl x3), some (.inl x4), some (.inl x5), some (.inl x6), some (.inl x7), some (.inl (x1 / x2)), some (.inl (x1 % x2)), none, none]) (zdk ttX8_partOf 30 rfl rfl) (by decide) rfl ?_
          refine zj_iload (zdk ttX8_partOf 31 rfl rfl) rfl ?_
          refine zj_iload (zdk ttX8_partOf 32 rfl rfl) rfl ?_
          refine zj_imul (zdk ttX8_partOf 33 rfl rfl) ?_
          refine zj_wrap ?_
          have b75 := zwp_in ((x1 / x2) * x3)
          refine zj_iload (zdk ttX8_partOf 34 rfl rfl) rfl ?_
          refine zj_iadd (zdk ttX8_partOf 35 rfl rfl) ?_
          refine zj_wrap ?_
          have b76 := zwp_in ((zwp ((x1 / x2) * x3)) + x4)
          refine zj_istore (L' := [some (.inl p1), some (.inl p2), some (.inl p3), some (.inl p4), some (.inl x2), some (.inl (x1 % x2)), some (.inl x3), some (.inl x4), some (.inl x5), some (.inl x6), some (.inl x7), some (.inl (x1 / x2)), some (.inl (x1 % x2)), some (.inl (zwp ((zwp ((x1 / x2) * x3)) + x4))), none]) (zdk ttX8_partOf 36 rfl rfl) (by decide) rfl ?_
          refine zj_iload (zdk ttX8_partOf 37 rfl rfl) rfl ?_
          refine zj_istore (L' := [some (.inl p1), some (.inl p2), some (.inl p3), some (.inl p4), some (.inl x2), some (.inl (x1 % x2)), some (.inl x3), some (.inl x3), some (.inl x5), some (.inl x6), some (.inl x7), some (.inl (x1 / x2)), some (.inl (x1 % x2)), some (.inl (zwp ((zwp ((x1 / x2) * x3)) + x4))), none]) (zdk ttX8_partOf 38 rfl rfl) (by decide) rfl ?_
          refine zj_iload (zdk ttX8_partOf 39 rfl rfl) rfl ?_
          refine zj_istore (L' := [some (.inl p1), some (.inl p2), some (.inl p3), some (.inl p4), some (.inl x2), some (.inl (x1 % x2)), some (.inl (zwp ((zwp ((x1 / x2) * x3)) + x4))), some (.inl x3), some (.inl x5), some (.inl x6), some (.inl x7), some (.inl (x1 / x2)), some (.inl (x1 % x2)), some (.inl (zwp ((zwp ((x1 / x2) * x3)) + x4))), none]) (zdk ttX8_partOf 40 rfl rfl) (by decide) rfl ?_
          refine zj_iload (zdk ttX8_partOf 41 rfl rfl) rfl ?_
          refine zj_iload (zdk ttX8_partOf 42 rfl rfl) rfl ?_
          refine zj_imul (zdk ttX8_partOf 43 rfl rfl) ?_
          refine zj_wrap ?_
          have b77 := zwp_in ((x1 / x2) * x5)
          refine zj_iload (zdk ttX8_partOf 44 rfl rfl) rfl ?_
          refine zj_iadd (zdk ttX8_partOf 45 rfl rfl) ?_
          refine zj_wrap ?_
          have b78 := zwp_in ((zwp ((x1 / x2) * x5)) + x6)
          refine zj_istore (L' := [some (.inl p1), some (.inl p2), some (.inl p3), some (.inl p4), some (.inl x2), some (.inl (x1 % x2)), some (.inl (zwp ((zwp ((x1 / x2) * x3)) + x4))), some (.inl x3), some (.inl x5), some (.inl x6), some (.inl x7), some (.inl (x1 / x2)), some (.inl (x1 % x2)), some (.inl (zwp ((zwp ((x1 / x2) * x3)) + x4))), some (.inl (zwp ((zwp ((x1 / x2) * x5)) + x6)))]) (zdk ttX8_partOf 46 rfl rfl) (by decide) rfl ?_
          refine zj_iload (zdk ttX8_partOf 47 rfl rfl) rfl ?_
          refine zj_istore (L' := [some (.inl p1), some (.inl p2), some (.inl p3), some (.inl p4), some (.inl x2), some (.inl (x1 % x2)), some (.inl (zwp ((zwp ((x1 / x2) * x3)) + x4))), some (.inl x3), some (.inl x5), some (.inl x5), some (.inl x7), some (.inl (x1 / x2)), some (.inl (x1 % x2)), some (.inl (zwp ((zwp ((x1 / x2) * x3)) + x4))), some (.inl (zwp ((zwp ((x1 / x2) * x5)) + x6)))]) (zdk ttX8_partOf 48 rfl rfl) (by decide) rfl ?_
          refine zj_iload (zdk ttX8_partOf 49 rfl rfl) rfl ?_
          refine zj_istore (L' := [some (.inl p1), some (.inl p2), some (.inl p3), some (.inl p4), some (.inl x2), some (.inl (x1 % x2)), some (.inl (zwp ((zwp ((x1 / x2) * x3)) + x4))), some (.inl x3), some (.inl (zwp ((zwp ((x1 / x2) * x5)) + x6))), some (.inl x5), some (.inl x7), some (.inl (x1 / x2)), some (.inl (x1 % x2)), some (.inl (zwp ((zwp ((x1 / x2) * x3)) + x4))), some (.inl (zwp ((zwp ((x1 / x2) * x5)) + x6)))]) (zdk ttX8_partOf 50 rfl rfl) (by decide) rfl ?_
          refine zj_iload (zdk ttX8_partOf 51 rfl rfl) rfl ?_
          refine zj_iload_n (zdk ttX8_partOf 52 rfl rfl) rfl ?_
          refine zj_icmp_ne (t := 119) (zdk ttX8_partOf 53 rfl rfl) (by decide) (by omega) (by omega) (fun c79 => ?_) (fun c79 => ?_)
          · refine zj_iinc (L' := [some (.inl p1), some (.inl p2), some (.inl p3), some (.inl p4), some (.inl x2), some (.inl (x1 % x2)), some (.inl (zwp ((zwp ((x1 / x2) * x3)) + x4))), some (.inl x3), some (.inl (zwp ((zwp ((x1 / x2) * x5)) + x6))), some (.inl x5), some (.inl (x7 + 1)), some (.inl (x1 / x2)), some (.inl (x1 % x2)), some (.inl (zwp ((zwp ((x1 / x2) * x3)) + x4))), some (.inl (zwp ((zwp ((x1 / x2) * x5)) + x6)))]) (zdk ttX8_partOf 66 rfl rfl) rfl (by decide) rfl ?_
            refine zj_goto (t := 21) (zdk ttX8_partOf 67 rfl rfl) (by decide) ?_
            refine zj_kill (k := 11) (L' := [some (.inl p1), some (.inl p2), some (.inl p3), some (.inl p4), some (.inl x2), some (.inl (x1 % x2)), some (.inl (zwp ((zwp ((x1 / x2) * x3)) + x4))), some (.inl x3), some (.inl (zwp ((zwp ((x1 / x2) * x5)) + x6))), some (.inl x5), some (.inl (x7 + 1)), none, some (.inl (x1 % x2)), some (.inl (zwp ((zwp ((x1 / x2) * x3)) + x4))), some (.inl (zwp ((zwp ((x1 / x2) * x5)) + x6)))]) rfl ?_
            refine zj_kill (k := 12) (L' := [some (.inl p1), some (.inl p2), some (.inl p3), some (.inl p4), some (.inl x2), some (.inl (x1 % x2)), some (.inl (zwp ((zwp ((x1 / x2) * x3)) + x4))), some (.inl x3), some (.inl (zwp ((zwp ((x1 / x2) * x5)) + x6))), some (.inl x5), some (.inl (x7 + 1)), none, none, some (.inl (zwp ((zwp ((x1 / x2) * x3)) + x4))), some (.inl (zwp ((zwp ((x1 / x2) * x5)) + x6)))]) rfl ?_
            refine zj_kill (k := 13) (L' := [some (.inl p1), some (.inl p2), some (.inl p3), some (.inl p4), some (.inl x2), some (.inl (x1 % x2)), some (.inl (zwp ((zwp ((x1 / x2) * x3)) + x4))), some (.inl x3), some (.inl (zwp ((zwp ((x1 / x2) * x5)) + x6))), some (.inl x5), some (.inl (x7 + 1)), none, none, none, some (.inl (zwp ((zwp ((x1 / x2) * x5)) + x6)))]) rfl ?_
            refine zj_kill (k := 14) (L' := [some (.inl p1), some (.inl p2), some (.inl p3), some (.inl p4), some (.inl x2), some (.inl (x1 % x2)), some (.inl (zwp ((zwp ((x1 / x2) * x3)) + x4))), some (.inl x3), some (.inl (zwp ((zwp ((x1 / x2) * x5)) + x6))), some (.inl x5), some (.inl (x7 + 1)), none, none, none, none]) rfl ?_
            exact ih70  x2 (x1 % x2) (zwp ((zwp ((x1 / x2) * x3)) + x4)) x3 (zwp ((zwp ((x1 / x2) * x5)) + x6)) x5 (x7 + 1) (by omega) (by omega) (by omega) (by omega) (by omega) (by omega) (by omega) (zcfI_s u65 (by omega)) (zcfW_s u65 u66) (zcfW_s u65 u67) (by omega) (by omega)
          · refine zj_iload_n (zdk ttX8_partOf 54 rfl rfl) rfl ?_
            refine zj_iconst (zdk ttX8_partOf 55 rfl rfl) ?_
            refine zj_icmp_ne (t := 106) (zdk ttX8_partOf 56 rfl rfl) (by decide) (by omega) (by decide) (fun c80 => ?_) (fun c80 => ?_)
            · refine zj_iload_n (zdk ttX8_partOf 59 rfl rfl) rfl ?_
              refine zj_iconst (zdk ttX8_partOf 60 rfl rfl) ?_
              refine zj_icmp_ne (t := 116) (zdk ttX8_partOf 61 rfl rfl) (by decide) (by omega) (by decide) (fun c81 => ?_) (fun c81 => ?_)
              · refine zj_iload (zdk ttX8_partOf 64 rfl rfl) rfl ?_
                exact zj_iret rfl (zdk ttX8_partOf 65 rfl rfl) (Nat.le_refl _) (Nat.le_refl _) ⟨(zwp ((zwp ((x1 / x2) * x5)) + x6)), rfl, rfl, by omega, by first | (exfalso; omega) | exact zcfP_n u65 (by omega) (by omega) | exact zcfP_v u65 (by omega) (by omega) (by first | exact zcfV_1 u65 (by omega) (by omega) | exact zcfV_2 u65 u66 (by omega) (by omega) | exact zcfV_3 u65 u67 (by omega) (by omega))⟩
              · refine zj_iload (zdk ttX8_partOf 62 rfl rfl) rfl ?_
                refine zj_goto (t := 118) (zdk ttX8_partOf 63 rfl rfl) (by decide) ?_
                exact zj_iret rfl (zdk ttX8_partOf 65 rfl rfl) (Nat.le_refl _) (Nat.le_refl _) ⟨(zwp ((zwp ((x1 / x2) * x3)) + x4)), rfl, rfl, by omega, by first | (exfalso; omega) | exact zcfP_n u65 (by omega) (by omega) | exact zcfP_v u65 (by omega) (by omega) (by first | exact zcfV_1 u65 (by omega) (by omega) | exact zcfV_2 u65 u66 (by omega) (by omega) | exact zcfV_3 u65 u67 (by omega) (by omega))⟩
            · refine zj_iload (zdk ttX8_partOf 57 rfl rfl) rfl ?_
              refine zj_goto (t := 118) (zdk ttX8_partOf 58 rfl rfl) (by decide) ?_
              exact zj_iret rfl (zdk ttX8_partOf 65 rfl rfl) (Nat.le_refl _) (Nat.le_refl _) ⟨(x1 / x2), rfl, rfl, by omega, by first | (exfalso; omega) | exact zcfP_n u65 (by omega) (by omega) | exact zcfP_v u65 (by omega) (by omega) (by first | exact zcfV_1 u65 (by omega) (by omega) | exact zcfV_2 u65 u66 (by omega) (by omega) | exact zcfV_3 u65 u67 (by omega) (by omega))⟩
  exact lp57 _ p1 p2 1 0 0 1 0 (by omega) (by omega) (by omega) (by omega) (by omega) (by omega) (by omega) zcfI_0 ⟨(zwp_id (by decide)).symm, (zwp_id (by decide)).symm⟩ ⟨(zwp_id (by decide)).symm, (zwp_id (by decide)).symm⟩ (by omega) (Nat.lt_succ_self _)

abbrev q2_X10_part (h : zM) (p1 : Int) (p2 : Int) (p3 : Int) : Option zV → zM → Prop := zqi fun v h' => ((-2147483648) ≤ v ∧ v ≤ 2147483647) ∧ okC h' ∧ (zcfD p1 p2 p3 v)
set_option maxRecDepth 100000 in
set_option maxHeartbeats 4000000 in
theorem s2_X10_part (l : Launch) (h : zM) (p1 : Int) (p2 : Int) (p3 : Int) (s0 : okC h) (b_p1 : (-2147483648) ≤ p1 ∧ p1 ≤ 2147483647) (b_p2 : (-2147483648) ≤ p2 ∧ p2 ≤ 2147483647) (b_p3 : (-2147483648) ≤ p3 ∧ p3 ≤ 2147483647) : zT shC l yX10_part cX10_part 4 (some .int) (rmL 2) 0 0 [.inr 0, .inl p1, .inl p2, .inl p3] h (q2_X10_part h p1 p2 p3) := by
  refine zT_of (by decide +kernel) (L0 := [some (.inr 0), some (.inl p1), some (.inl p2), some (.inl p3)]) rfl (Nat.le_of_ble_eq_true rfl) ?_
  refine zj_iload_n (zdk ttX10_part 0 rfl rfl) rfl ?_
  refine zj_iconst (zdk ttX10_part 1 rfl rfl) ?_
  refine zj_sipush (zdk ttX10_part 2 rfl rfl) (by decide) ?_
  refine zj_callS (av := [.inl p1, .inl 1, .inl 9999]) (st := []) (zdk ttX10_part 3 rfl rfl) mb_X10_within ms_RX10_77 rfl rfl (Nat.le_of_ble_eq_true rfl) (s_X10_within l h p1 1 9999 s0 (by omega) (by omega) (by omega)) (rm_ok (by decide) (by decide)) (zq_i fun v2 h3 q1 => ?_)
  obtain ⟨rfl, ⟨rfl, b4⟩ | ⟨rfl, b4⟩⟩ := q1
  · refine zj_if_eq (t := 22) (zdk ttX10_part 4 rfl rfl) (by decide) (by decide) (fun c5 => ?_) (fun c5 => ?_)
    · refine zj_iconst (zdk ttX10_part 10 rfl rfl) ?_
      exact zj_iret rfl (zdk ttX10_part 11 rfl rfl) (Nat.le_refl _) (Nat.le_refl _) ⟨(-1), rfl, by omega, s0, by first | exact zcfD_n (by unfold zcfg; omega) (by omega) | exact zcfD_o (by omega) (by omega) | exact zcfD_0 (by unfold zcfg; omega) (by omega) (by assumption) | exact zcfD_p (by unfold zcfg; omega) (by omega) (by assumption)⟩
    · exact absurd c5 (by omega)
  · refine zj_if_eq (t := 22) (zdk ttX10_part 4 rfl rfl) (by decide) (by decide) (fun c6 => ?_) (fun c6 => ?_)
    · exact absurd c6 (by omega)
    · refine zj_iload_n (zdk ttX10_part 5 rfl rfl) rfl ?_
      refine zj_iconst (zdk ttX10_part 6 rfl rfl) ?_
      refine zj_sipush (zdk ttX10_part 7 rfl rfl) (by decide) ?_
      refine zj_callS (av := [.inl p2, .inl 1, .inl 9999]) (st := []) (zdk ttX10_part 8 rfl rfl) mb_X10_within ms_RX10_77 rfl rfl (Nat.le_of_ble_eq_true rfl) (s_X10_within l h p2 1 9999 s0 (by omega) (by omega) (by omega)) (rm_ok (by decide) (by decide)) (zq_i fun v8 h9 q7 => ?_)
      obtain ⟨rfl, ⟨rfl, b10⟩ | ⟨rfl, b10⟩⟩ := q7
      · refine zj_if_ne (t := 24) (zdk ttX10_part 9 rfl rfl) (by decide) (by decide) (fun c11 => ?_) (fun c11 => ?_)
        · exact absurd c11 (by omega)
        · refine zj_iconst (zdk ttX10_part 10 rfl rfl) ?_
          exact zj_iret rfl (zdk ttX10_part 11 rfl rfl) (Nat.le_refl _) (Nat.le_refl _) ⟨(-1), rfl, by omega, s0, by first | exact zcfD_n (by unfold zcfg; omega) (by omega) | exact zcfD_o (by omega) (by omega) | exact zcfD_0 (by unfold zcfg; omega) (by omega) (by assumption) | exact zcfD_p (by unfold zcfg; omega) (by omega) (by assumption)⟩
      · refine zj_if_ne (t := 24) (zdk ttX10_part 9 rfl rfl) (by decide) (by decide) (fun c12 => ?_) (fun c12 => ?_)
        · refine zj_iload_n (zdk ttX10_part 12 rfl rfl) rfl ?_
          refine zj_if_ne (t := 34) (zdk ttX10_part 13 rfl rfl) (by decide) (by omega) (fun c13 => ?_) (fun c13 => ?_)
          · refine zj_iload_n (zdk ttX10_part 18 rfl rfl) rfl ?_
            refine zj_bipush (zdk ttX10_part 19 rfl rfl) (by decide) ?_
            refine zj_sipush (zdk ttX10_part 20 rfl rfl) (by decide) ?_
            refine zj_callS (av := [.inl p3, .inl 100, .inl 399]) (st := []) (zdk ttX10_part 21 rfl rfl) mb_X10_within ms_RX10_77 rfl rfl (Nat.le_of_ble_eq_true rfl) (s_X10_within l h p3 100 399 s0 (by omega) (by omega) (by omega)) (rm_ok (by decide) (by decide)) (zq_i fun v15 h16 q14 => ?_)
            obtain ⟨rfl, ⟨rfl, b17⟩ | ⟨rfl, b17⟩⟩ := q14
            · refine zj_if_eq (t := 62) (zdk ttX10_part 22 rfl rfl) (by decide) (by decide) (fun c18 => ?_) (fun c18 => ?_)
              · refine zj_iconst (zdk ttX10_part 33 rfl rfl) ?_
                exact zj_iret rfl (zdk ttX10_part 34 rfl rfl) (Nat.le_refl _) (Nat.le_refl _) ⟨(-1), rfl, by omega, s0, by first | exact zcfD_n (by unfold zcfg; omega) (by omega) | exact zcfD_o (by omega) (by omega) | exact zcfD_0 (by unfold zcfg; omega) (by omega) (by assumption) | exact zcfD_p (by unfold zcfg; omega) (by omega) (by assumption)⟩
              · exact absurd c18 (by omega)
            · refine zj_if_eq (t := 62) (zdk ttX10_part 22 rfl rfl) (by decide) (by decide) (fun c19 => ?_) (fun c19 => ?_)
              · exact absurd c19 (by omega)
              · refine zj_iload_n (zdk ttX10_part 23 rfl rfl) rfl ?_
                refine zj_iload_n (zdk ttX10_part 24 rfl rfl) rfl ?_
                refine zj_iload_n (zdk ttX10_part 25 rfl rfl) rfl ?_
                refine zj_bipush (zdk ttX10_part 26 rfl rfl) (by decide) ?_
                refine zj_idivP (zdk ttX10_part 27 rfl rfl) (by omega) (by omega) ?_
                refine zj_iload_n (zdk ttX10_part 28 rfl rfl) rfl ?_
                refine zj_bipush (zdk ttX10_part 29 rfl rfl) (by decide) ?_
                refine zj_iremP (zdk ttX10_part 30 rfl rfl) (by omega) (by omega) ?_
                refine zj_callS (av := [.inl p1, .inl p2, .inl (p3 / 100), .inl (p3 % 100)]) (st := []) (zdk ttX10_part 31 rfl rfl) mb_X8_partOf ms_RX10_298 rfl rfl (Nat.le_of_ble_eq_true rfl) (s2_X8_partOf l h p1 p2 (p3 / 100) (p3 % 100) s0 (by omega) (by omega) (by omega) (by omega)) (rm_ok (by decide) (by decide)) (zq_i fun v21 h22 q20 => ?_)
                obtain ⟨rfl, b23, u24⟩ := q20
                refine zj_goto (t := 63) (zdk ttX10_part 32 rfl rfl) (by decide) ?_
                exact zj_iret rfl (zdk ttX10_part 34 rfl rfl) (Nat.le_refl _) (Nat.le_refl _) ⟨v21, rfl, by omega, s0, by first | exact zcfD_n (by unfold zcfg; omega) (by omega) | exact zcfD_o (by omega) (by omega) | exact zcfD_0 (by unfold zcfg; omega) (by omega) (by assumption) | exact zcfD_p (by unfold zcfg; omega) (by omega) (by assumption)⟩
          · refine zj_iload_n (zdk ttX10_part 14 rfl rfl) rfl ?_
            refine zj_iload_n (zdk ttX10_part 15 rfl rfl) rfl ?_
            refine zj_callS (av := [.inl p1, .inl p2]) (st := []) (zdk ttX10_part 16 rfl rfl) mb_X8_quotients ms_RX10_295 rfl rfl (Nat.le_of_ble_eq_true rfl) (s2_X8_quotients l h p1 p2 s0 (by omega) (by omega)) (rm_ok (by decide) (by decide)) (zq_i fun v26 h27 q25 => ?_)
            obtain ⟨rfl, b28, u29⟩ := q25
            exact zj_iret rfl (zdk ttX10_part 17 rfl rfl) (Nat.le_refl _) (Nat.le_refl _) ⟨v26, rfl, by omega, s0, by first | exact zcfD_n (by unfold zcfg; omega) (by omega) | exact zcfD_o (by omega) (by omega) | exact zcfD_0 (by unfold zcfg; omega) (by omega) (by assumption) | exact zcfD_p (by unfold zcfg; omega) (by omega) (by assumption)⟩
        · exact absurd c12 (by omega)

abbrev q2_X11_findsQuotients (h : zM) (p1 : Int) (p2 : Int) : Option zV → zM → Prop := zqi fun v h' => (0 ≤ v ∧ v ≤ 39) ∧ okM h' ∧ zfr [] [29] h h' ∧ (zcfN p1 p2 v) ∧ (∀ m, 0 ≤ m → m < v → h'.2 29 m = zcfq p1 p2 m.toNat)
set_option maxRecDepth 100000 in
set_option maxHeartbeats 4000000 in
theorem s2_X11_findsQuotients (l : Launch) (h : zM) (p1 : Int) (p2 : Int) (s0 : okM h) (b_p1 : 1 ≤ p1 ∧ p1 ≤ 9999) (b_p2 : 1 ≤ p2 ∧ p2 ≤ 9999) : zT shM l yX11_findsQuotients cX11_findsQuotients 7 (some .int) (rmL 1) 0 0 [.inr 0, .inl p1, .inl p2] h (q2_X11_findsQuotients h p1 p2) := by
  refine zT_of (by decide +kernel) (L0 := [some (.inr 0), some (.inl p1), some (.inl p2), none, none, none, none]) rfl (Nat.le_of_ble_eq_true rfl) ?_
  refine zj_iload_n (zdk ttX11_findsQuotients 0 rfl rfl) rfl ?_
  refine zj_istore_n (L' := [some (.inr 0), some (.inl p1), some (.inl p2), some (.inl p1), none, none, none]) (zdk ttX11_findsQuotients 1 rfl rfl) (by decide) rfl ?_
  refine zj_iload_n (zdk ttX11_findsQuotients 2 rfl rfl) rfl ?_
  refine zj_istore (L' := [some (.inr 0), some (.inl p1), some (.inl p2), some (.inl p1), some (.inl p2), none, none]) (zdk ttX11_findsQuotients 3 rfl rfl) (by decide) rfl ?_
  refine zj_iconst (zdk ttX11_findsQuotients 4 rfl rfl) ?_
  refine zj_istore (L' := [some (.inr 0), some (.inl p1), some (.inl p2), some (.inl p1), some (.inl p2), some (.inl 0), none]) (zdk ttX11_findsQuotients 5 rfl rfl) (by decide) rfl ?_
  have lp12 : ∀ (n8 : Nat) (x1 x2 x3 : Int) (h4 : zM), (1 ≤ x1 ∧ x1 ≤ 9999) → (0 ≤ x2 ∧ x2 ≤ 9999) → (0 ≤ x3 ∧ x3 ≤ 39) → okM h4 → zfr [] [29] h h4 → (zfq x1 x2 x3) → (zcfI p1 p2 x1 x2 x3) → (∀ m, 0 ≤ m → m < x3 → h4.2 29 m = zcfq p1 p2 m.toNat) → x2.toNat < n8 → zJ shM l yX11_findsQuotients cX11_findsQuotients 7 (some .int) (rmL 1) 0 0 (q2_X11_findsQuotients h p1 p2) 0 0 8 [some (.inr 0), some (.inl p1), some (.inl p2), some (.inl x1), some (.inl x2), some (.inl x3), none] [] h4 := by
    intro n8
    induction n8 with
    | zero => intro x1 x2 x3 h4 b13 b14 b15 s5 f6 u16 u17 u18 m19; exact absurd m19 (Nat.not_lt_zero _)
    | succ n8 ih20 =>
      intro x1 x2 x3 h4 b13 b14 b15 s5 f6 u16 u17 u18 m19
      refine zj_iload (zdk ttX11_findsQuotients 6 rfl rfl) rfl ?_
      refine zj_if_eq (t := 46) (zdk ttX11_findsQuotients 7 rfl rfl) (by decide) (by omega) (fun c21 => ?_) (fun c21 => ?_)
      · refine zj_iload (zdk ttX11_findsQuotients 28 rfl rfl) rfl ?_
        exact zj_iret rfl (zdk ttX11_findsQuotients 29 rfl rfl) (Nat.le_refl _) (Nat.le_refl _) ⟨x3, rfl, by omega, s5, f6, zcfI_n u17 (by omega), u18⟩
      · have zq1 := zfq_n u16 (by omega)
        have zq2 := zfq_s u16 (by omega) (by omega)
        refine zj_aload_n (zdk ttX11_findsQuotients 8 rfl rfl) rfl (by decide) ?_
        refine zj_getr (r := 29) (zdk ttX11_findsQuotients 9 rfl rfl) zf_RX11_99 rfl (k_M s5) (rfM_51 s5) ?_
        refine zj_iload (zdk ttX11_findsQuotients 10 rfl rfl) rfl ?_
        refine zj_iload_n (zdk ttX11_findsQuotients 11 rfl rfl) rfl ?_
        refine zj_iload (zdk ttX11_findsQuotients 12 rfl rfl) rfl ?_
        refine zj_idivP (zdk ttX11_findsQuotients 13 rfl rfl) (by omega) (by omega) ?_
        have b22 := zdiv_b (x := x1) (b := x2) (by omega) (by omega)
        have b22p := zdiv_p (x := x1) (b := x2) (by omega)
        refine zj_iast (zdk ttX11_findsQuotients 14 rfl rfl) (kaM_29 s5) (by decide) (by omega) (fun h23 e24 => ?_)
        refine zj_iload (zdk ttX11_findsQuotients 15 rfl rfl) rfl ?_
        refine zj_iconst (zdk ttX11_findsQuotients 16 rfl rfl) ?_
        refine zj_iadd (zdk ttX11_findsQuotients 17 rfl rfl) ?_
        refine zj_istore (L' := [some (.inr 0), some (.inl p1), some (.inl p2), some (.inl x1), some (.inl x2), some (.inl (x3 + 1)), none]) (zdk ttX11_findsQuotients 18 rfl rfl) (by decide) rfl ?_
        refine zj_iload_n (zdk ttX11_findsQuotients 19 rfl rfl) rfl ?_
        refine zj_iload (zdk ttX11_findsQuotients 20 rfl rfl) rfl ?_
        refine zj_iremP (zdk ttX11_findsQuotients 21 rfl rfl) (by omega) (by omega) ?_
        have b25 := zmod_b (x := x1) (b := x2) (by omega) (by omega)
        refine zj_istore (L' := [some (.inr 0), some (.inl p1), some (.inl p2), some (.inl x1), some (.inl x2), some (.inl (x3 + 1)), some (.inl (x1 % x2))]) (zdk ttX11_findsQuotients 22 rfl rfl) (by decide) rfl ?_
        refine zj_iload (zdk ttX11_findsQuotients 23 rfl rfl) rfl ?_
        refine zj_istore_n (L' := [some (.inr 0), some (.inl p1), some (.inl p2), some (.inl x2), some (.inl x2), some (.inl (x3 + 1)), some (.inl (x1 % x2))]) (zdk ttX11_findsQuotients 24 rfl rfl) (by decide) rfl ?_
        refine zj_iload (zdk ttX11_findsQuotients 25 rfl rfl) rfl ?_
        refine zj_istore (L' := [some (.inr 0), some (.inl p1), some (.inl p2), some (.inl x2), some (.inl (x1 % x2)), some (.inl (x3 + 1)), some (.inl (x1 % x2))]) (zdk ttX11_findsQuotients 26 rfl rfl) (by decide) rfl ?_
        refine zj_goto (t := 8) (zdk ttX11_findsQuotients 27 rfl rfl) (by decide) ?_
        refine zj_kill (k := 6) (L' := [some (.inr 0), some (.inl p1), some (.inl p2), some (.inl x2), some (.inl (x1 % x2)), some (.inl (x3 + 1)), none]) rfl ?_
        have s26 : okM h23 := awM_29 s5 e24 (by omega) (by unfold nsp; omega)
        have f27 : zfr [] [29] h h23 := zfr_wa f6 e24 rfl
        have z28 : ∀ m, 0 ≤ m → m < x3 + 1 → h23.2 29 m = zcfq p1 p2 m.toNat := by
          intro m9 a9 b9
          by_cases q9 : m9 = x3
          · rw [q9, zwr_v e24]; unfold zcfq; rw [u17.2.1]
          · rw [zwr_r e24 (by omega)]; exact u18 m9 a9 (by omega)
        exact ih20  x2 (x1 % x2) (x3 + 1) h23 (by omega) (by omega) (by omega) s26 f27 zq2 (zcfI_s u17 (by omega)) z28 (by omega)
  exact lp12 _ p1 p2 0 h (by omega) (by omega) (by omega) s0 (zfr_r _ _ _) ⟨by omega, by omega, Or.inl rfl⟩ zcfI_0 (fun m9 a9 b9 => absurd b9 (by omega)) (Nat.lt_succ_self _)

abbrev q2_X11_part (h : zM) (p1 : Int) (p2 : Int) (p3 : Int) : Option zV → zM → Prop := zqi fun v h' => ((-2147483648) ≤ v ∧ v ≤ 2147483647) ∧ okM h' ∧ zfr [0] [29] h h' ∧ (zcfD p1 p2 p3 v)
set_option maxRecDepth 100000 in
set_option maxHeartbeats 4000000 in
theorem s2_X11_part (l : Launch) (h : zM) (p1 : Int) (p2 : Int) (p3 : Int) (s0 : okM h) (b_p1 : (-2147483648) ≤ p1 ∧ p1 ≤ 2147483647) (b_p2 : (-2147483648) ≤ p2 ∧ p2 ≤ 2147483647) (b_p3 : (-2147483648) ≤ p3 ∧ p3 ≤ 2147483647) : zT shM l yX11_part cX11_part 10 (some .int) (rmL 2) 0 0 [.inr 0, .inl p1, .inl p2, .inl p3] h (q2_X11_part h p1 p2 p3) := by
  refine zT_of (by decide +kernel) (L0 := [some (.inr 0), some (.inl p1), some (.inl p2), some (.inl p3), none, none, none, none, none, none]) rfl (Nat.le_of_ble_eq_true rfl) ?_
  refine zj_aload_n (zdk ttX11_part 0 rfl rfl) rfl (by decide) ?_
  refine zj_iconst (zdk ttX11_part 1 rfl rfl) ?_
  refine zj_puti (zdk ttX11_part 2 rfl rfl) zf_RX11_120 rfl (k_M s0) (Or.inl zw_RX11_120) (k2 := 0) rfl (fun h1 e2 => ?_)
  refine zj_aload_n (zdk ttX11_part 3 rfl rfl) rfl (by decide) ?_
  refine zj_iload_n (zdk ttX11_part 4 rfl rfl) rfl ?_
  refine zj_iconst (zdk ttX11_part 5 rfl rfl) ?_
  refine zj_sipush (zdk ttX11_part 6 rfl rfl) (by decide) ?_
  have s3 : okM h1 := fwM_0 s0 e2 (by omega)
  refine zj_callV (av := [.inl p1, .inl 1, .inl 9999]) (st := []) (zdk ttX11_part 7 rfl rfl) mb_X11_isIn mv_RX11_139 (ci := 11) rfl rfl (k_M s3) rfl rfl (Nat.le_of_ble_eq_true rfl) (s_X11_isIn l h1 p1 1 9999 s3 (by omega) (by omega) (by omega)) (rm_ok (by decide) (by decide)) (zq_i fun v5 h6 q4 => ?_)
  obtain ⟨rfl, ⟨rfl, b7⟩ | ⟨rfl, b7⟩⟩ := q4
  · refine zj_if_eq (t := 29) (zdk ttX11_part 8 rfl rfl) (by decide) (by decide) (fun c8 => ?_) (fun c8 => ?_)
    · refine zj_iconst (zdk ttX11_part 15 rfl rfl) ?_
      have f9 : zfr [0] [29] h h1 := zfr_wf (zfr_r _ _ _) e2 rfl
      exact zj_iret rfl (zdk ttX11_part 16 rfl rfl) (Nat.le_refl _) (Nat.le_refl _) ⟨(-1), rfl, by omega, s3, f9, zcfD_n (by unfold zcfg; omega) (by omega)⟩
    · exact absurd c8 (by omega)
  · refine zj_if_eq (t := 29) (zdk ttX11_part 8 rfl rfl) (by decide) (by decide) (fun c10 => ?_) (fun c10 => ?_)
    · exact absurd c10 (by omega)
    · refine zj_aload_n (zdk ttX11_part 9 rfl rfl) rfl (by decide) ?_
      refine zj_iload_n (zdk ttX11_part 10 rfl rfl) rfl ?_
      refine zj_iconst (zdk ttX11_part 11 rfl rfl) ?_
      refine zj_sipush (zdk ttX11_part 12 rfl rfl) (by decide) ?_
      refine zj_callV (av := [.inl p2, .inl 1, .inl 9999]) (st := []) (zdk ttX11_part 13 rfl rfl) mb_X11_isIn mv_RX11_139 (ci := 11) rfl rfl (k_M s3) rfl rfl (Nat.le_of_ble_eq_true rfl) (s_X11_isIn l h1 p2 1 9999 s3 (by omega) (by omega) (by omega)) (rm_ok (by decide) (by decide)) (zq_i fun v12 h13 q11 => ?_)
      obtain ⟨rfl, ⟨rfl, b14⟩ | ⟨rfl, b14⟩⟩ := q11
      · refine zj_if_ne (t := 31) (zdk ttX11_part 14 rfl rfl) (by decide) (by decide) (fun c15 => ?_) (fun c15 => ?_)
        · exact absurd c15 (by omega)
        · refine zj_iconst (zdk ttX11_part 15 rfl rfl) ?_
          have f16 : zfr [0] [29] h h1 := zfr_wf (zfr_r _ _ _) e2 rfl
          exact zj_iret rfl (zdk ttX11_part 16 rfl rfl) (Nat.le_refl _) (Nat.le_refl _) ⟨(-1), rfl, by omega, s3, f16, zcfD_n (by unfold zcfg; omega) (by omega)⟩
      · refine zj_if_ne (t := 31) (zdk ttX11_part 14 rfl rfl) (by decide) (by decide) (fun c17 => ?_) (fun c17 => ?_)
        · refine zj_aload_n (zdk ttX11_part 17 rfl rfl) rfl (by decide) ?_
          refine zj_iload_n (zdk ttX11_part 18 rfl rfl) rfl ?_
          refine zj_iload_n (zdk ttX11_part 19 rfl rfl) rfl ?_
          refine zj_callV (av := [.inl p1, .inl p2]) (st := []) (zdk ttX11_part 20 rfl rfl) mb_X11_findsQuotients mv_RX11_431 (ci := 11) rfl rfl (k_M s3) rfl rfl (Nat.le_of_ble_eq_true rfl) (s2_X11_findsQuotients l h1 p1 p2 s3 (by omega) (by omega)) (rm_ok (by decide) (by decide)) (zq_i fun v19 h20 q18 => ?_)
          obtain ⟨b21, s22, f25, u23, u24⟩ := q18
          refine zj_istore (L' := [some (.inr 0), some (.inl p1), some (.inl p2), some (.inl p3), some (.inl v19), none, none, none, none, none]) (zdk ttX11_part 21 rfl rfl) (by decide) rfl ?_
          refine zj_iload_n (zdk ttX11_part 22 rfl rfl) rfl ?_
          refine zj_if_ne (t := 46) (zdk ttX11_part 23 rfl rfl) (by decide) (by omega) (fun c26 => ?_) (fun c26 => ?_)
          · refine zj_iload_n (zdk ttX11_part 26 rfl rfl) rfl ?_
            refine zj_bipush (zdk ttX11_part 27 rfl rfl) (by decide) ?_
            refine zj_irem (zdk ttX11_part 28 rfl rfl) (by omega) (by decide) (by omega) ?_
            have b27 := ztm_c p3 100 (by decide)
            refine zj_istore (L' := [some (.inr 0), some (.inl p1), some (.inl p2), some (.inl p3), some (.inl v19), some (.inl (p3.tmod 100)), none, none, none, none]) (zdk ttX11_part 29 rfl rfl) (by decide) rfl ?_
            refine zj_aload_n (zdk ttX11_part 30 rfl rfl) rfl (by decide) ?_
            refine zj_iload_n (zdk ttX11_part 31 rfl rfl) rfl ?_
            refine zj_bipush (zdk ttX11_part 32 rfl rfl) (by decide) ?_
            refine zj_sipush (zdk ttX11_part 33 rfl rfl) (by decide) ?_
            refine zj_callV (av := [.inl p3, .inl 100, .inl 399]) (st := []) (zdk ttX11_part 34 rfl rfl) mb_X11_isIn mv_RX11_139 (ci := 11) rfl rfl (k_M s22) rfl rfl (Nat.le_of_ble_eq_true rfl) (s_X11_isIn l h20 p3 100 399 s22 (by omega) (by omega) (by omega)) (rm_ok (by decide) (by decide)) (zq_i fun v29 h30 q28 => ?_)
            obtain ⟨rfl, ⟨rfl, b31⟩ | ⟨rfl, b31⟩⟩ := q28
            · refine zj_if_eq (t := 72) (zdk ttX11_part 35 rfl rfl) (by decide) (by decide) (fun c32 => ?_) (fun c32 => ?_)
              · refine zj_iconst (zdk ttX11_part 39 rfl rfl) ?_
                have f34 : zfr [0] [29] h h1 := zfr_wf (zfr_r _ _ _) e2 rfl
                have f33 : zfr [0] [29] h h20 := zfr_t f34 f25 rfl rfl
                exact zj_iret rfl (zdk ttX11_part 40 rfl rfl) (Nat.le_refl _) (Nat.le_refl _) ⟨(-1), rfl, by omega, s22, f33, by first | exact zcfD_0 (by unfold zcfg; omega) (by omega) u23 | exact zcfD_o (by omega) (by omega) | (have t9 : p3.tmod 100 = p3 % 100 := Int.tmod_eq_emod_of_nonneg (by omega); exact zcfD_p (by unfold zcfg; omega) (by omega) (by rw [← t9]; exact zcfP_m u23 (by omega))) | (have t9 : p3.tmod 100 = p3 % 100 := Int.tmod_eq_emod_of_nonneg (by omega); exact zcfD_p (by unfold zcfg; omega) (by omega) (by rw [← t9]; exact zcfP_w u23 (by omega) ⟨fun _ => u24 _ (by omega) (by omega), fun z => absurd z (by omega), fun z => absurd z (by omega)⟩))⟩
              · exact absurd c32 (by omega)
            · refine zj_if_eq (t := 72) (zdk ttX11_part 35 rfl rfl) (by decide) (by decide) (fun c35 => ?_) (fun c35 => ?_)
              · exact absurd c35 (by omega)
              · refine zj_iload (zdk ttX11_part 36 rfl rfl) rfl ?_
                refine zj_iload (zdk ttX11_part 37 rfl rfl) rfl ?_
                refine zj_icmp_lt (t := 74) (zdk ttX11_part 38 rfl rfl) (by decide) (by omega) (by omega) (fun c36 => ?_) (fun c36 => ?_)
                · refine zj_iload_n (zdk ttX11_part 41 rfl rfl) rfl ?_
                  refine zj_sipush (zdk ttX11_part 42 rfl rfl) (by decide) ?_
                  refine zj_icmp_ge (t := 89) (zdk ttX11_part 43 rfl rfl) (by decide) (by omega) (by decide) (fun c37 => ?_) (fun c37 => ?_)
                  · refine zj_aload_n (zdk ttX11_part 49 rfl rfl) rfl (by decide) ?_
                    refine zj_getr (r := 29) (zdk ttX11_part 50 rfl rfl) zf_RX11_99 rfl (k_M s22) (rfM_51 s22) ?_
                    refine zj_iload (zdk ttX11_part 51 rfl rfl) rfl ?_
                    have b38 : -2147483648 ≤ (h20.2 29 (p3.tmod 100)) ∧ (h20.2 29 (p3.tmod 100)) ≤ 2147483647 := abM_29 s22 (p3.tmod 100)
                    refine zj_iald (v := (h20.2 29 (p3.tmod 100))) (zdk ttX11_part 52 rfl rfl) (kaM_29 s22) (by decide) (by omega) rfl ?_
                    refine zj_istore (L' := [some (.inr 0), some (.inl p1), some (.inl p2), some (.inl p3), some (.inl v19), some (.inl (p3.tmod 100)), some (.inl (h20.2 29 (p3.tmod 100))), none, none, none]) (zdk ttX11_part 53 rfl rfl) (by decide) rfl ?_
                    refine zj_iconst (zdk ttX11_part 54 rfl rfl) ?_
                    refine zj_istore (L' := [some (.inr 0), some (.inl p1), some (.inl p2), some (.inl p3), some (.inl v19), some (.inl (p3.tmod 100)), some (.inl (h20.2 29 (p3.tmod 100))), some (.inl 1), none, none]) (zdk ttX11_part 55 rfl rfl) (by decide) rfl ?_
                    refine zj_iload (zdk ttX11_part 56 rfl rfl) rfl ?_
                    refine zj_iconst (zdk ttX11_part 57 rfl rfl) ?_
                    refine zj_isub (zdk ttX11_part 58 rfl rfl) ?_
                    refine zj_istore (L' := [some (.inr 0), some (.inl p1), some (.inl p2), some (.inl p3), some (.inl v19), some (.inl (p3.tmod 100)), some (.inl (h20.2 29 (p3.tmod 100))), some (.inl 1), some (.inl ((p3.tmod 100) - 1)), none]) (zdk ttX11_part 59 rfl rfl) (by decide) rfl ?_
                    have lp50 : ∀ (n107 : Nat) (x39 x40 x41 : Int), (-2147483648 ≤ x39 ∧ x39 ≤ 2147483647) → (-2147483648 ≤ x40 ∧ x40 ≤ 2147483647) → (-1 ≤ x41 ∧ x41 ≤ 98) → (zcfR p1 p2 (p3.tmod 100) x41 x39 x40) → (x41 ≤ (p3.tmod 100) - 1) → (x41 - -2).toNat < n107 → zJ shM l yX11_part cX11_part 10 (some .int) (rmL 2) 0 0 (q2_X11_part h p1 p2 p3) 0 0 107 [some (.inr 0), some (.inl p1), some (.inl p2), some (.inl p3), some (.inl v19), some (.inl (p3.tmod 100)), some (.inl x39), some (.inl x40), some (.inl x41), none] [] h20 := by
                      intro n107
                      induction n107 with
                      | zero => intro x39 x40 x41 b51 b52 b53 u54 u55 m56; exact absurd m56 (Nat.not_lt_zero _)
                      | succ n107 ih57 =>
                        intro x39 x40 x41 b51 b52 b53 u54 u55 m56
                        refine zj_iload (zdk ttX11_part 60 rfl rfl) rfl ?_
                        refine zj_if_lt (t := 141) (zdk ttX11_part 61 rfl rfl) (by decide) (by omega) (fun c58 => ?_) (fun c58 => ?_)
                        · refine zj_iload_n (zdk ttX11_part 77 rfl rfl) rfl ?_
                          refine zj_sipush (zdk ttX11_part 78 rfl rfl) (by decide) ?_
                          refine zj_icmp_ge (t := 153) (zdk ttX11_part 79 rfl rfl) (by decide) (by omega) (by decide) (fun c59 => ?_) (fun c59 => ?_)
                          · refine zj_iload (zdk ttX11_part 82 rfl rfl) rfl ?_
                            have f61 : zfr [0] [29] h h1 := zfr_wf (zfr_r _ _ _) e2 rfl
                            have f60 : zfr [0] [29] h h20 := zfr_t f61 f25 rfl rfl
                            exact zj_iret rfl (zdk ttX11_part 83 rfl rfl) (Nat.le_refl _) (Nat.le_refl _) ⟨x40, rfl, by omega, s22, f60, by first | exact zcfD_0 (by unfold zcfg; omega) (by omega) u23 | exact zcfD_o (by omega) (by omega) | (have t9 : p3.tmod 100 = p3 % 100 := Int.tmod_eq_emod_of_nonneg (by omega); exact zcfD_p (by unfold zcfg; omega) (by omega) (by rw [← t9]; exact zcfP_m u23 (by omega))) | (have t9 : p3.tmod 100 = p3 % 100 := Int.tmod_eq_emod_of_nonneg (by omega); exact zcfD_p (by unfold zcfg; omega) (by omega) (by rw [← t9]; exact zcfP_w u23 (by omega) ⟨fun z => absurd z (by omega), fun _ => (zcfR_e u54 (by omega) (by omega)).1, fun z => absurd z (by omega)⟩)) | (have t9 : p3.tmod 100 = p3 % 100 := Int.tmod_eq_emod_of_nonneg (by omega); exact zcfD_p (by unfold zcfg; omega) (by omega) (by rw [← t9]; exact zcfP_w u23 (by omega) ⟨fun z => absurd z (by omega), fun z => absurd z (by omega), fun _ => (zcfR_e u54 (by omega) (by omega)).2⟩))⟩
                          · refine zj_iload (zdk ttX11_part 80 rfl rfl) rfl ?_
                            refine zj_goto (t := 155) (zdk ttX11_part 81 rfl rfl) (by decide) ?_
                            have f63 : zfr [0] [29] h h1 := zfr_wf (zfr_r _ _ _) e2 rfl
                            have f62 : zfr [0] [29] h h20 := zfr_t f63 f25 rfl rfl
                            exact zj_iret rfl (zdk ttX11_part 83 rfl rfl) (Nat.le_refl _) (Nat.le_refl _) ⟨x39, rfl, by omega, s22, f62, by first | exact zcfD_0 (by unfold zcfg; omega) (by omega) u23 | exact zcfD_o (by omega) (by omega) | (have t9 : p3.tmod 100 = p3 % 100 := Int.tmod_eq_emod_of_nonneg (by omega); exact zcfD_p (by unfold zcfg; omega) (by omega) (by rw [← t9]; exact zcfP_m u23 (by omega))) | (have t9 : p3.tmod 100 = p3 % 100 := Int.tmod_eq_emod_of_nonneg (by omega); exact zcfD_p (by unfold zcfg; omega) (by omega) (by rw [← t9]; exact zcfP_w u23 (by omega) ⟨fun z => absurd z (by omega), fun _ => (zcfR_e u54 (by omega) (by omega)).1, fun z => absurd z (by omega)⟩)) | (have t9 : p3.tmod 100 = p3 % 100 := Int.tmod_eq_emod_of_nonneg (by omega); exact zcfD_p (by unfold zcfg; omega) (by omega) (by rw [← t9]; exact zcfP_w u23 (by omega) ⟨fun z => absurd z (by omega), fun z => absurd z (by omega), fun _ => (zcfR_e u54 (by omega) (by omega)).2⟩))⟩
                        · refine zj_aload_n (zdk ttX11_part 62 rfl rfl) rfl (by decide) ?_
                          refine zj_getr (r := 29) (zdk ttX11_part 63 rfl rfl) zf_RX11_99 rfl (k_M s22) (rfM_51 s22) ?_
                          refine zj_iload (zdk ttX11_part 64 rfl rfl) rfl ?_
                          have b64 : -2147483648 ≤ (h20.2 29 x41) ∧ (h20.2 29 x41) ≤ 2147483647 := abM_29 s22 x41
                          refine zj_iald (v := (h20.2 29 x41)) (zdk ttX11_part 65 rfl rfl) (kaM_29 s22) (by decide) (by omega) rfl ?_
                          refine zj_iload (zdk ttX11_part 66 rfl rfl) rfl ?_
                          refine zj_imul (zdk ttX11_part 67 rfl rfl) ?_
                          refine zj_wrap ?_
                          have b65 := zwp_in ((h20.2 29 x41) * x39)
                          refine zj_iload (zdk ttX11_part 68 rfl rfl) rfl ?_
                          refine zj_iadd (zdk ttX11_part 69 rfl rfl) ?_
                          refine zj_wrap ?_
                          have b66 := zwp_in ((zwp ((h20.2 29 x41) * x39)) + x40)
                          refine zj_istore (L' := [some (.inr 0), some (.inl p1), some (.inl p2), some (.inl p3), some (.inl v19), some (.inl (p3.tmod 100)), some (.inl x39), some (.inl x40), some (.inl x41), some (.inl (zwp ((zwp ((h20.2 29 x41) * x39)) + x40)))]) (zdk ttX11_part 70 rfl rfl) (by decide) rfl ?_
                          refine zj_iload (zdk ttX11_part 71 rfl rfl) rfl ?_
                          refine zj_istore (L' := [some (.inr 0), some (.inl p1), some (.inl p2), some (.inl p3), some (.inl v19), some (.inl (p3.tmod 100)), some (.inl x39), some (.inl x39), some (.inl x41), some (.inl (zwp ((zwp ((h20.2 29 x41) * x39)) + x40)))]) (zdk ttX11_part 72 rfl rfl) (by decide) rfl ?_
                          refine zj_iload (zdk ttX11_part 73 rfl rfl) rfl ?_
                          refine zj_istore (L' := [some (.inr 0), some (.inl p1), some (.inl p2), some (.inl p3), some (.inl v19), some (.inl (p3.tmod 100)), some (.inl (zwp ((zwp ((h20.2 29 x41) * x39)) + x40))), some (.inl x39), some (.inl x41), some (.inl (zwp ((zwp ((h20.2 29 x41) * x39)) + x40)))]) (zdk ttX11_part 74 rfl rfl) (by decide) rfl ?_
                          refine zj_iinc (L' := [some (.inr 0), some (.inl p1), some (.inl p2), some (.inl p3), some (.inl v19), some (.inl (p3.tmod 100)), some (.inl (zwp ((zwp ((h20.2 29 x41) * x39)) + x40))), some (.inl x39), some (.inl (x41 + (-1))), some (.inl (zwp ((zwp ((h20.2 29 x41) * x39)) + x40)))]) (zdk ttX11_part 75 rfl rfl) rfl (by decide) rfl ?_
                          refine zj_goto (t := 107) (zdk ttX11_part 76 rfl rfl) (by decide) ?_
                          refine zj_kill (k := 9) (L' := [some (.inr 0), some (.inl p1), some (.inl p2), some (.inl p3), some (.inl v19), some (.inl (p3.tmod 100)), some (.inl (zwp ((zwp ((h20.2 29 x41) * x39)) + x40))), some (.inl x39), some (.inl (x41 + (-1))), none]) rfl ?_
                          exact ih57  (zwp ((zwp ((h20.2 29 x41) * x39)) + x40)) x39 (x41 + (-1)) (by omega) (by omega) (by omega) (zcfR_s u54 (by omega) (u24 _ (by omega) (by omega))) (by omega) (by omega)
                    exact lp50 _ (h20.2 29 (p3.tmod 100)) 1 ((p3.tmod 100) - 1) (by omega) (by omega) (by omega) (zcfR_0 (u24 _ (by omega) (by omega)) (by omega)) (by omega) (Nat.lt_succ_self _)
                  · refine zj_aload_n (zdk ttX11_part 44 rfl rfl) rfl (by decide) ?_
                    refine zj_getr (r := 29) (zdk ttX11_part 45 rfl rfl) zf_RX11_99 rfl (k_M s22) (rfM_51 s22) ?_
                    refine zj_iload (zdk ttX11_part 46 rfl rfl) rfl ?_
                    have b67 : -2147483648 ≤ (h20.2 29 (p3.tmod 100)) ∧ (h20.2 29 (p3.tmod 100)) ≤ 2147483647 := abM_29 s22 (p3.tmod 100)
                    refine zj_iald (v := (h20.2 29 (p3.tmod 100))) (zdk ttX11_part 47 rfl rfl) (kaM_29 s22) (by decide) (by omega) rfl ?_
                    have f69 : zfr [0] [29] h h1 := zfr_wf (zfr_r _ _ _) e2 rfl
                    have f68 : zfr [0] [29] h h20 := zfr_t f69 f25 rfl rfl
                    exact zj_iret rfl (zdk ttX11_part 48 rfl rfl) (Nat.le_refl _) (Nat.le_refl _) ⟨(h20.2 29 (p3.tmod 100)), rfl, by omega, s22, f68, by first | exact zcfD_0 (by unfold zcfg; omega) (by omega) u23 | exact zcfD_o (by omega) (by omega) | (have t9 : p3.tmod 100 = p3 % 100 := Int.tmod_eq_emod_of_nonneg (by omega); exact zcfD_p (by unfold zcfg; omega) (by omega) (by rw [← t9]; exact zcfP_m u23 (by omega))) | (have t9 : p3.tmod 100 = p3 % 100 := Int.tmod_eq_emod_of_nonneg (by omega); exact zcfD_p (by unfold zcfg; omega) (by omega) (by rw [← t9]; exact zcfP_w u23 (by omega) ⟨fun _ => u24 _ (by omega) (by omega), fun z => absurd z (by omega), fun z => absurd z (by omega)⟩))⟩
                · refine zj_iconst (zdk ttX11_part 39 rfl rfl) ?_
                  have f71 : zfr [0] [29] h h1 := zfr_wf (zfr_r _ _ _) e2 rfl
                  have f70 : zfr [0] [29] h h20 := zfr_t f71 f25 rfl rfl
                  exact zj_iret rfl (zdk ttX11_part 40 rfl rfl) (Nat.le_refl _) (Nat.le_refl _) ⟨(-1), rfl, by omega, s22, f70, by first | exact zcfD_0 (by unfold zcfg; omega) (by omega) u23 | exact zcfD_o (by omega) (by omega) | (have t9 : p3.tmod 100 = p3 % 100 := Int.tmod_eq_emod_of_nonneg (by omega); exact zcfD_p (by unfold zcfg; omega) (by omega) (by rw [← t9]; exact zcfP_m u23 (by omega))) | (have t9 : p3.tmod 100 = p3 % 100 := Int.tmod_eq_emod_of_nonneg (by omega); exact zcfD_p (by unfold zcfg; omega) (by omega) (by rw [← t9]; exact zcfP_w u23 (by omega) ⟨fun _ => u24 _ (by omega) (by omega), fun z => absurd z (by omega), fun z => absurd z (by omega)⟩))⟩
          · refine zj_iload (zdk ttX11_part 24 rfl rfl) rfl ?_
            have f73 : zfr [0] [29] h h1 := zfr_wf (zfr_r _ _ _) e2 rfl
            have f72 : zfr [0] [29] h h20 := zfr_t f73 f25 rfl rfl
            exact zj_iret rfl (zdk ttX11_part 25 rfl rfl) (Nat.le_refl _) (Nat.le_refl _) ⟨v19, rfl, by omega, s22, f72, by first | exact zcfD_0 (by unfold zcfg; omega) (by omega) u23 | exact zcfD_o (by omega) (by omega) | (have t9 : p3.tmod 100 = p3 % 100 := Int.tmod_eq_emod_of_nonneg (by omega); exact zcfD_p (by unfold zcfg; omega) (by omega) (by rw [← t9]; exact zcfP_m u23 (by omega))) | (have t9 : p3.tmod 100 = p3 % 100 := Int.tmod_eq_emod_of_nonneg (by omega); exact zcfD_p (by unfold zcfg; omega) (by omega) (by rw [← t9]; exact zcfP_w u23 (by omega) ⟨fun _ => u24 _ (by omega) (by omega), fun z => absurd z (by omega), fun z => absurd z (by omega)⟩))⟩
        · exact absurd c17 (by omega)
