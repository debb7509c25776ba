theorem zdiv_p {x b : Int} (hb : 0 < b) : b ≤ x → 1 ≤ x / b := fun h => (Int.le_ediv_iff_mul_le hb).mpr (by omega)
theorem okM_teeth {h h' : zM} {k v : Int} (s : okM h) (e : h' = zwr h 23 k v) (hk : h.2 0 42 ≤ k) (hv : -2147483648 ≤ v ∧ v ≤ 2147483647) : okM h' := by
  subst e
  obtain ⟨s1, s2, s3, s4, s5, s6⟩ := s
  have p42 : 0 ≤ h.2 0 42 ∧ h.2 0 42 ≤ 5 := s2 0 42
  have e9 : ∀ a b, ¬ a = 23 → (zwr h 23 k v).2 a b = h.2 a b := fun a b q => zwr_n (fun z => q z.1)
  refine ⟨s1, fun a b => ?_, fun a j q1 => ?_, ⟨fun j q1 q2 => ?_, fun j q1 q2 => ?_, wfL_ext (e9 9 0 (by decide)) (s2 9 0).2 (fun l _ _ => ⟨e9 11 l (by decide), e9 12 l (by decide), e9 13 l (by decide)⟩) (fun l _ _ => ⟨e9 14 l (by decide), e9 15 l (by decide)⟩) s4.2.2⟩, fun q => ?_, ?_⟩
  · by_cases q : a = 23 ∧ b = k
    · rw [q.1, q.2, zwr_s]; exact hv
    · rw [zwr_n q]; exact s2 a b
  · rw [e9 a j (by omega)]; exact s3 a j q1
  · rw [e9 0 42 (by decide)] at q2
    rw [zwr_n (by omega)]; exact s4.1 j q1 q2
  · rw [e9 18 _ (by decide), e9 18 _ (by decide)]; exact s4.2.1 j q1 q2
  · rw [e9 0 59 (by decide)] at q
    obtain ⟨h0, r1, r2, r3⟩ := s5 q
    exact ⟨h0, fun j t1 t2 => by rw [e9 35 j (by decide)]; exact r1 j t1 t2, r2, r3⟩
  · show (zwr h 23 k v).2 8 149 = 32
    rw [e9 8 149 (by decide)]; exact s6
theorem okM_wheel {h h' : zM} {v : Int} (s : okM h) (e : h' = zwr h 0 42 v) (hv : 0 ≤ v ∧ v ≤ 5) (hw : ∀ k, 0 ≤ k → k < v → 6 ≤ h.2 23 k ∧ h.2 23 k ≤ 99) : okM h' := by
  subst e
  obtain ⟨s1, s2, s3, s4, s5, s6⟩ := s
  have e9 : ∀ a b, ¬ a = 0 → (zwr h 0 42 v).2 a b = h.2 a b := fun a b q => zwr_n (fun z => q z.1)
  refine ⟨s1, fun a b => ?_, fun a j q1 => ?_, ⟨fun j q1 q2 => ?_, fun j q1 q2 => ?_, wfL_ext (e9 9 0 (by decide)) (s2 9 0).2 (fun l _ _ => ⟨e9 11 l (by decide), e9 12 l (by decide), e9 13 l (by decide)⟩) (fun l _ _ => ⟨e9 14 l (by decide), e9 15 l (by decide)⟩) s4.2.2⟩, fun q => ?_, ?_⟩
  · by_cases q : a = 0 ∧ b = 42
    · rw [q.1, q.2, zwr_s]; exact hv
    · rw [zwr_n q]; exact s2 a b
  · rw [e9 a j (by omega)]; exact s3 a j q1
  · rw [zwr_s] at q2
    rw [e9 23 j (by decide)]; exact hw j q1 q2
  · rw [e9 18 _ (by decide), e9 18 _ (by decide)]; exact s4.2.1 j q1 q2
  · rw [zwr_n (by decide)] at q
    obtain ⟨h0, r1, r2, r3⟩ := s5 q
    exact ⟨h0, fun j t1 t2 => by rw [e9 35 j (by decide)]; exact r1 j t1 t2, r2, r3⟩
  · show (zwr h 0 42 v).2 8 149 = 32
    rw [e9 8 149 (by decide)]; exact s6
/-- the quotients are few -/
def zfq (x y n : Int) : Prop := 1 ≤ x ∧ 0 ≤ n ∧ (n = 0 ∨ (y < x ∧ x * y * ((2 ^ n.toNat : Nat) : Int) ≤ 200000000))
theorem zfq_n {x y n : Int} (q : zfq x y n) (hy : 1 ≤ y) : n ≤ 27 := by
  obtain ⟨q1, q2, q3⟩ := q
  rcases q3 with q3 | ⟨q3, q4⟩
  · omega
  · apply Classical.byContradiction
    intro hn
    have h28 : 2 ^ 28 ≤ 2 ^ n.toNat := Nat.pow_le_pow_right (by decide) (by omega)
    have hP : (268435456 : Int) ≤ ((2 ^ n.toNat : Nat) : Int) := by
      have : (268435456 : Nat) ≤ 2 ^ n.toNat := h28
      omega
    have hxy : 1 * 1 ≤ x * y := Int.mul_le_mul q1 hy (by decide) (by omega)
    have := Int.mul_le_mul_of_nonneg_right (c := ((2 ^ n.toNat : Nat) : Int)) hxy (by omega)
    omega
theorem zfq_s {x y n : Int} (q : zfq x y n) (hx : x ≤ 9999) (hy : 1 ≤ y ∧ y ≤ 9999) : zfq y (x % y) (n + 1) := by
  obtain ⟨q1, q2, q3⟩ := q
  have hm0 := Int.emod_nonneg x (show y ≠ 0 by omega)
  have hm1 := Int.emod_lt_of_pos x (show 0 < y by omega)
  refine ⟨hy.1, by omega, Or.inr ⟨hm1, ?_⟩⟩
  rw [show (n + 1).toNat = n.toNat + 1 by omega, Nat.pow_succ, Int.natCast_mul]
  rcases q3 with q3 | ⟨q3, q4⟩
  · subst q3
    have : y * (x % y) ≤ 9999 * 9999 := Int.mul_le_mul hy.2 (by omega) hm0 (by decide)
    simp
    omega
  · have h2 : 2 * (x % y) ≤ x := by
      have hd := Int.mul_ediv_add_emod x y
      have hq : 1 ≤ x / y := (Int.le_ediv_iff_mul_le (by omega)).mpr (by omega)
      have : y * 1 ≤ y * (x / y) := Int.mul_le_mul_of_nonneg_left hq (by omega)
      omega
    have h3 : y * (2 * (x % y)) ≤ y * x := Int.mul_le_mul_of_nonneg_left h2 (by omega)
    have h4 := Int.mul_le_mul_of_nonneg_right (c := ((2 ^ n.toNat : Nat) : Int)) h3 (Int.natCast_nonneg _)
    have e1 : y * (x % y) * (((2 ^ n.toNat : Nat) : Int) * ((2 : Nat) : Int)) = y * (2 * (x % y)) * ((2 ^ n.toNat : Nat) : Int) := by
      rw [show ((2 : Nat) : Int) = 2 from rfl]
      rw [Int.mul_comm ((2 ^ n.toNat : Nat) : Int) 2, ← Int.mul_assoc, Int.mul_assoc y (x % y) 2, Int.mul_comm (x % y) 2]
    have e2 : y * x = x * y := Int.mul_comm y x
    rw [e2] at h4
    omega
/-- orders -/
def zinj (n : Int) (f : Int → Int) : Prop := ∀ a b, 0 ≤ a → a < n → 0 ≤ b → b < n → f a = f b → a = b
theorem zswap_at {i k : Int} {h h1 h2 : zM} {c : Int} (e1 : h1 = zwr h c i (h.2 c k)) (e2 : h2 = zwr h1 c k (h.2 c i)) (j : Int) : ∃ x, h2.2 c j = h.2 c x ∧ ((j = k ∧ x = i) ∨ (¬ j = k ∧ j = i ∧ x = k) ∨ (¬ j = k ∧ ¬ j = i ∧ x = j)) := by
  rw [e2, e1]
  by_cases q1 : j = k
  · exact ⟨i, by rw [q1, zwr_s], Or.inl ⟨q1, rfl⟩⟩
  · by_cases q2 : j = i
    · exact ⟨k, by rw [zwr_n (by omega), q2, zwr_s], Or.inr (Or.inl ⟨q1, q2, rfl⟩)⟩
    · exact ⟨j, by rw [zwr_n (by omega), zwr_n (by omega)], Or.inr (Or.inr ⟨q1, q2, rfl⟩)⟩
theorem zinj_swap {n i k : Int} {h h1 h2 : zM} {c : Int} (q : zinj n (h.2 c)) (e1 : h1 = zwr h c i (h.2 c k)) (e2 : h2 = zwr h1 c k (h.2 c i)) (hi : 0 ≤ i ∧ i < n) (hk : 0 ≤ k ∧ k < n) : zinj n (h2.2 c) := by
  intro a b ha1 ha2 hb1 hb2 he
  obtain ⟨x, x1, x2⟩ := zswap_at e1 e2 a
  obtain ⟨y, y1, y2⟩ := zswap_at e1 e2 b
  rw [x1, y1] at he
  have := q x y (by omega) (by omega) (by omega) (by omega) he
  omega
theorem zm99 {x t : Int} (hx : 0 ≤ x) (ht : t ≤ 99) : x * t ≤ 99 * x := by
  have := Int.mul_le_mul_of_nonneg_left ht hx
  omega
def zord (o : Int → Int) : Int := 7776 * o 0 + 1296 * o 1 + 216 * o 2 + 36 * o 3 + 6 * o 4 + o 5
theorem zord_b {o : Int → Int} (hb : ∀ j, 0 ≤ o j ∧ o j ≤ 5) : 0 ≤ zord o ∧ zord o ≤ 46655 := by
  have h0 := hb 0; have h1 := hb 1; have h2 := hb 2; have h3 := hb 3; have h4 := hb 4; have h5 := hb 5
  unfold zord; omega
theorem zord_lt {o o' : Int → Int} {i : Int} (hb : ∀ j, 0 ≤ o j ∧ o j ≤ 5) (hb' : ∀ j, 0 ≤ o' j ∧ o' j ≤ 5) (hi : 0 ≤ i ∧ i ≤ 5) (he : ∀ j, 0 ≤ j → j < i → o' j = o j) (hl : o i < o' i) : zord o < zord o' := by
  have a0 := hb 0; have a1 := hb 1; have a2 := hb 2; have a3 := hb 3; have a4 := hb 4; have a5 := hb 5
  have b0 := hb' 0; have b1 := hb' 1; have b2 := hb' 2; have b3 := hb' 3; have b4 := hb' 4; have b5 := hb' 5
  have e0 := he 0 (by decide); have e1 := he 1 (by decide); have e2 := he 2 (by decide); have e3 := he 3 (by decide); have e4 := he 4 (by decide)
  unfold zord
  have hh : i = 0 ∨ i = 1 ∨ i = 2 ∨ i = 3 ∨ i = 4 ∨ i = 5 := by omega
  rcases hh with rfl | rfl | rfl | rfl | rfl | rfl <;> omega
/-- the game -/
def zeo (f : Int → Int) (n s hh : Int) : Nat → Int → Int → Int
  | 0, _, lost => if lost = 0 then 0 else -1
  | k + 1, q, lost => if zand (zshr s (q - 1)) 1 = 1 then (if (hh + q) % n = 0 ∨ f ((hh + q) % n) = -1 then 1 else zeo f n s hh k (q + 1) (if f ((hh + q) % n) = 0 then 0 else lost)) else zeo f n s hh k (q + 1) lost
theorem zeo_no {f : Int → Int} {n s hh q lost : Int} (hq : 1 ≤ q ∧ q ≤ 10) (h : ¬ zand (zshr s (q - 1)) 1 = 1) : zeo f n s hh (11 - q).toNat q lost = zeo f n s hh (11 - (q + 1)).toNat (q + 1) lost := by
  rw [show (11 - q).toNat = (11 - (q + 1)).toNat + 1 by omega]
  show (if _ then _ else _) = _
  rw [if_neg h]
theorem zeo_win {f : Int → Int} {n s hh q lost : Int} (hq : 1 ≤ q ∧ q ≤ 10) (h : zand (zshr s (q - 1)) 1 = 1) (hw : (hh + q) % n = 0 ∨ f ((hh + q) % n) = -1) : zeo f n s hh (11 - q).toNat q lost = 1 := by
  rw [show (11 - q).toNat = (11 - (q + 1)).toNat + 1 by omega]
  show (if _ then _ else _) = _
  rw [if_pos h, if_pos hw]
theorem zeo_go {f : Int → Int} {n s hh q lost : Int} (hq : 1 ≤ q ∧ q ≤ 10) (h : zand (zshr s (q - 1)) 1 = 1) (hw : ¬ ((hh + q) % n = 0 ∨ f ((hh + q) % n) = -1)) : zeo f n s hh (11 - q).toNat q lost = zeo f n s hh (11 - (q + 1)).toNat (q + 1) (if f ((hh + q) % n) = 0 then 0 else lost) := by
  rw [show (11 - q).toNat = (11 - (q + 1)).toNat + 1 by omega]
  show (if _ then _ else _) = _
  rw [if_pos h, if_neg hw]
theorem zeo_end {f : Int → Int} {n s hh q lost : Int} (hq : 11 ≤ q) : zeo f n s hh (11 - q).toNat q lost = if lost = 0 then 0 else -1 := by
  rw [show (11 - q).toNat = 0 by omega]
  rfl
def zcnt (f : Int → Int) : Nat → Nat
  | 0 => 0
  | n + 1 => zcnt f n + (if f n = 0 then 1 else 0)
theorem zcnt_same {f g : Int → Int} : ∀ n : Nat, (∀ j : Int, 0 ≤ j → j < n → g j = f j) → zcnt g n = zcnt f n
  | 0, _ => rfl
  | n + 1, h => by
    show zcnt g n + _ = zcnt f n + _
    rw [zcnt_same n (fun j q1 q2 => h j q1 (by omega)), h n (by omega) (by omega)]
theorem zcnt_w {h h' : zM} {c k v : Int} (e : h' = zwr h c k v) (h0 : h.2 c k = 0) (hv : ¬ v = 0) (hk : 0 ≤ k) : ∀ n : Nat, k < n → zcnt (h'.2 c) n + 1 = zcnt (h.2 c) n
  | 0, q => absurd q (by omega)
  | n + 1, q => by
    show zcnt (h'.2 c) n + _ + 1 = zcnt (h.2 c) n + _
    by_cases hn : k = n
    · rw [zcnt_same (f := h.2 c) (g := h'.2 c) n (fun j q1 q2 => by rw [e, zwr_n (by omega)])]
      have e1 : h'.2 c (n : Int) = v := by rw [← hn, e, zwr_s]
      rw [e1, if_neg hv, ← hn, h0, if_pos rfl]
    · have ih := zcnt_w e h0 hv hk n (by omega)
      have e1 : h'.2 c (n : Int) = h.2 c (n : Int) := by rw [e, zwr_n (by omega)]
      rw [e1]
      omega
abbrev tX11_common : List (Nat × Instr × Nat) := [(0, .iload_n 1, 1), (1, .istore_n 3, 1), (2, .iload_n 2, 1), (3, .istore 4, 2), (5, .iload 4, 2), (7, .ifCond .eq 19, 3), (10, .iload_n 3, 1), (11, .iload 4, 2), (13, .irem, 1), (14, .istore 5, 2), (16, .iload 4, 2), (18, .istore_n 3, 1), (19, .iload 5, 2), (21, .istore 4, 2), (23, .goto (-18), 3), (26, .iload_n 3, 1), (27, .ireturn, 1)]
theorem ttX11_common : zdt cX11_common tX11_common = true := by decide +kernel
abbrev q_X11_common (h : zM) (p1 : Int) (p2 : Int) : Option zV → zM → Prop := zqi fun v h' => h = h' ∧ ((-2147483648) ≤ v ∧ v ≤ 2147483647) ∧ (¬ v = 0 ∧ (0 ≤ p1 → 1 ≤ v ∧ v ≤ p2))
set_option maxRecDepth 100000 in
set_option maxHeartbeats 4000000 in
theorem s_X11_common (l : Launch) (h : zM) (p1 : Int) (p2 : Int) (s0 : okM h) (b_p1 : (-2147483648) ≤ p1 ∧ p1 ≤ 2147483647) (b_p2 : 1 ≤ p2 ∧ p2 ≤ 2147483647) : zT shM l yX11_common cX11_common 6 (some .int) (rmL 1) 0 0 [.inr 0, .inl p1, .inl p2] h (q_X11_common h p1 p2) := by
  refine zT_of (by decide +kernel) (L0 := [some (.inr 0), some (.inl p1), some (.inl p2), none, none, none]) rfl (Nat.le_of_ble_eq_true rfl) ?_
  refine zj_iload_n (zdk ttX11_common 0 rfl rfl) rfl ?_
  refine zj_istore_n (L' := [some (.inr 0), some (.inl p1), some (.inl p2), some (.inl p1), none, none]) (zdk ttX11_common 1 rfl rfl) (by decide) rfl ?_
  refine zj_iload_n (zdk ttX11_common 2 rfl rfl) rfl ?_
  refine zj_istore (L' := [some (.inr 0), some (.inl p1), some (.inl p2), some (.inl p1), some (.inl p2), none]) (zdk ttX11_common 3 rfl rfl) (by decide) rfl ?_
  have lp5 : ∀ (n5 : Nat) (x1 x2 : Int), (-2147483648 ≤ x1 ∧ x1 ≤ 2147483647) → (-2147483648 ≤ x2 ∧ x2 ≤ 2147483647) → ((¬ x2 = 0 ∨ ¬ x1 = 0) ∧ (0 ≤ p1 → 0 ≤ x1 ∧ 0 ≤ x2 ∧ (x2 = 0 → 1 ≤ x1 ∧ x1 ≤ p2) ∧ (¬ x2 = 0 → x2 ≤ p2))) → (x2.natAbs : Int).toNat < n5 → zJ shM l yX11_common cX11_common 6 (some .int) (rmL 1) 0 0 (q_X11_common h p1 p2) 0 0 5 [some (.inr 0), some (.inl p1), some (.inl p2), some (.inl x1), some (.inl x2), none] [] h := by
    intro n5
    induction n5 with
    | zero => intro x1 x2 b6 b7 u8 m9; exact absurd m9 (Nat.not_lt_zero _)
    | succ n5 ih10 =>
      intro x1 x2 b6 b7 u8 m9
      refine zj_iload (zdk ttX11_common 4 rfl rfl) rfl ?_
      refine zj_if_eq (t := 26) (zdk ttX11_common 5 rfl rfl) (by decide) (by omega) (fun c11 => ?_) (fun c11 => ?_)
      · refine zj_iload_n (zdk ttX11_common 15 rfl rfl) rfl ?_
        exact zj_iret rfl (zdk ttX11_common 16 rfl rfl) (Nat.le_refl _) (Nat.le_refl _) ⟨x1, rfl, rfl, by omega, by omega⟩
      · refine zj_iload_n (zdk ttX11_common 6 rfl rfl) rfl ?_
        refine zj_iload (zdk ttX11_common 7 rfl rfl) rfl ?_
        refine zj_irem (zdk ttX11_common 8 rfl rfl) (by omega) (by omega) (by omega) ?_
        have b12 := ztm_b x1 x2 (by omega)
        refine zj_istore (L' := [some (.inr 0), some (.inl p1), some (.inl p2), some (.inl x1), some (.inl x2), some (.inl (x1.tmod x2))]) (zdk ttX11_common 9 rfl rfl) (by decide) rfl ?_
        refine zj_iload (zdk ttX11_common 10 rfl rfl) rfl ?_
        refine zj_istore_n (L' := [some (.inr 0), some (.inl p1), some (.inl p2), some (.inl x2), some (.inl x2), some (.inl (x1.tmod x2))]) (zdk ttX11_common 11 rfl rfl) (by decide) rfl ?_
        refine zj_iload (zdk ttX11_common 12 rfl rfl) rfl ?_
        refine zj_istore (L' := [some (.inr 0), some (.inl p1), some (.inl p2), some (.inl x2), some (.inl (x1.tmod x2)), some (.inl (x1.tmod x2))]) (zdk ttX11_common 13 rfl rfl) (by decide) rfl ?_
        refine zj_goto (t := 5) (zdk ttX11_common 14 rfl rfl) (by decide) ?_
        refine zj_kill (k := 5) (L' := [some (.inr 0), some (.inl p1), some (.inl p2), some (.inl x2), some (.inl (x1.tmod x2)), none]) rfl ?_
        exact ih10  x2 (x1.tmod x2) (by omega) (by omega) (by omega) (by omega)
  exact lp5 _ p1 p2 (by omega) (by omega) (by omega) (Nat.lt_succ_self _)

abbrev tX11_wheels : List (Nat × Instr × Nat) := [(0, .aload_n 0, 1), (1, .iconst 0, 1), (2, .putfield 120, 3), (5, .aload_n 0, 1), (6, .iload_n 1, 1), (7, .iconst 0, 1), (8, .iconst 2, 1), (9, .invokevirtual 139, 3), (12, .ifCond .ne 7, 3), (15, .ldc_w 404, 3), (18, .ireturn, 1), (19, .aload_n 0, 1), (20, .getfield 401, 3), (23, .ifCond .ne 5, 3), (26, .iconst 0, 1), (27, .ireturn, 1), (28, .iconst 1, 1), (29, .istore_n 2, 1), (30, .iconst 1, 1), (31, .istore_n 3, 1), (32, .iconst 1, 1), (33, .istore 4, 2), (35, .iconst 1, 1), (36, .istore 5, 2), (38, .iconst 1, 1), (39, .istore 6, 2), (41, .iload 6, 2), (43, .aload_n 0, 1), (44, .getfield 401, 3), (47, .if_icmp .ge 82, 3), (50, .aload_n 0, 1), (51, .getfield 83, 3), (54, .iload 6, 2), (56, .iaload, 1), (57, .iconst 1, 1), (58, .if_icmp .ne 6, 3), (61, .goto 62, 3), (64, .iload_n 2, 1), (65, .aload_n 0, 1), (66, .getfield 80, 3), (69, .iload 6, 2), (71, .iconst 1, 1), (72, .isub, 1), (73, .iaload, 1), (74, .imul, 1), (75, .istore_n 2, 1), (76, .iload_n 3, 1), (77, .aload_n 0, 1), (78, .getfield 80, 3), (81, .iload 6, 2), (83, .iaload, 1), (84, .imul, 1), (85, .istore_n 3, 1), (86, .aload_n 0, 1), (87, .iload_n 2, 1), (88, .iload_n 3, 1), (89, .invokevirtual 405, 3), (92, .istore 7, 2), (94, .iload_n 2, 1), (95, .iload 7, 2), (97, .idiv, 1), (98, .istore_n 2, 1), (99, .iload_n 3, 1), (100, .iload 7, 2), (102, .idiv, 1), (103, .istore_n 3, 1), (104, .iload 4, 2), (106, .ineg, 1), (107, .istore 4, 2), (109, .iload 5, 2), (111, .aload_n 0, 1), (112, .iload 5, 2), (114, .iload_n 3, 1), (115, .invokevirtual 405, 3), (118, .idiv, 1), (119, .iload_n 3, 1), (120, .imul, 1), (121, .istore 5, 2), (123, .iinc 6 1, 3), (126, .goto (-85), 3), (129, .iload_n 1, 1), (130, .ifCond .ne 10, 3), (133, .iload 4, 2), (135, .iload_n 2, 1), (136, .imul, 1), (137, .goto 14, 3), (140, .iload_n 1, 1), (141, .iconst 1, 1), (142, .if_icmp .ne 7, 3), (145, .iload_n 3, 1), (146, .goto 5, 3), (149, .iload 5, 2), (151, .ireturn, 1)]
theorem ttX11_wheels : zdt cX11_wheels tX11_wheels = true := by decide +kernel
abbrev q_X11_wheels (h : zM) (p1 : Int) : Option zV → zM → Prop := zqi fun v h' => ((-2147483648) ≤ v ∧ v ≤ 2147483647) ∧ okM h' ∧ zfr [0] [] h h'
set_option maxRecDepth 100000 in
set_option maxHeartbeats 4000000 in
theorem s_X11_wheels (l : Launch) (h : zM) (p1 : Int) (s0 : okM h) (b_p1 : (-2147483648) ≤ p1 ∧ p1 ≤ 2147483647) : zT shM l yX11_wheels cX11_wheels 8 (some .int) (rmL 2) 0 0 [.inr 0, .inl p1] h (q_X11_wheels h p1) := by
  refine zT_of (by decide +kernel) (L0 := [some (.inr 0), some (.inl p1), none, none, none, none, none, none]) rfl (Nat.le_of_ble_eq_true rfl) ?_
  refine zj_aload_n (zdk ttX11_wheels 0 rfl rfl) rfl (by decide) ?_
  refine zj_iconst (zdk ttX11_wheels 1 rfl rfl) ?_
  refine zj_puti (zdk ttX11_wheels 2 rfl rfl) zf_RX11_120 rfl (k_M s0) (Or.inl zw_RX11_120) (k2 := 0) rfl (fun h1 e2 => ?_)
  refine zj_aload_n (zdk ttX11_wheels 3 rfl rfl) rfl (by decide) ?_
  refine zj_iload_n (zdk ttX11_wheels 4 rfl rfl) rfl ?_
  refine zj_iconst (zdk ttX11_wheels 5 rfl rfl) ?_
  refine zj_iconst (zdk ttX11_wheels 6 rfl rfl) ?_
  have s3 : okM h1 := fwM_0 s0 e2 (by omega)
  refine zj_callV (av := [.inl p1, .inl 0, .inl 2]) (st := []) (zdk ttX11_wheels 7 rfl rfl) mb_X11_isIn mv_RX11_139 (ci := 11) rfl rfl (k_M s3) rfl rfl (Nat.le_of_ble_eq_true rfl) (s_X11_isIn l h1 p1 0 2 s3 (by omega) (by omega) (by omega)) (rm_ok (by decide) (by decide)) (zq_i fun v5 h6 q4 => ?_)
  obtain ⟨rfl, ⟨rfl, b7⟩ | ⟨rfl, b7⟩⟩ := q4
  · refine zj_if_ne (t := 19) (zdk ttX11_wheels 8 rfl rfl) (by decide) (by decide) (fun c8 => ?_) (fun c8 => ?_)
    · exact absurd c8 (by omega)
    · refine zj_ldc_w (z := (-10000000)) (zdk ttX11_wheels 9 rfl rfl) wc_RX11_404 ?_
      have f9 : zfr [0] [] h h1 := zfr_wf (zfr_r _ _ _) e2 rfl
      exact zj_iret rfl (zdk ttX11_wheels 10 rfl rfl) (Nat.le_refl _) (Nat.le_refl _) ⟨(-10000000), rfl, by omega, s3, f9⟩
  · refine zj_if_ne (t := 19) (zdk ttX11_wheels 8 rfl rfl) (by decide) (by decide) (fun c10 => ?_) (fun c10 => ?_)
    · refine zj_aload_n (zdk ttX11_wheels 11 rfl rfl) rfl (by decide) ?_
      have b11 : 0 ≤ (h.2 0 42) ∧ (h.2 0 42) ≤ 5 := fM_42 s0
      refine zj_geti (v := (h.2 0 42)) (zdk ttX11_wheels 12 rfl rfl) zf_RX11_401 rfl (k_M s3) (zwr_r e2 (by first | decide | exact (absurd ·.1 (by decide)) | exact (absurd ·.2 (by decide)) | omega)) ?_
      refine zj_if_ne (t := 28) (zdk ttX11_wheels 13 rfl rfl) (by decide) (by omega) (fun c12 => ?_) (fun c12 => ?_)
      · refine zj_iconst (zdk ttX11_wheels 16 rfl rfl) ?_
        refine zj_istore_n (L' := [some (.inr 0), some (.inl p1), some (.inl 1), none, none, none, none, none]) (zdk ttX11_wheels 17 rfl rfl) (by decide) rfl ?_
        refine zj_iconst (zdk ttX11_wheels 18 rfl rfl) ?_
        refine zj_istore_n (L' := [some (.inr 0), some (.inl p1), some (.inl 1), some (.inl 1), none, none, none, none]) (zdk ttX11_wheels 19 rfl rfl) (by decide) rfl ?_
        refine zj_iconst (zdk ttX11_wheels 20 rfl rfl) ?_
        refine zj_istore (L' := [some (.inr 0), some (.inl p1), some (.inl 1), some (.inl 1), some (.inl 1), none, none, none]) (zdk ttX11_wheels 21 rfl rfl) (by decide) rfl ?_
        refine zj_iconst (zdk ttX11_wheels 22 rfl rfl) ?_
        refine zj_istore (L' := [some (.inr 0), some (.inl p1), some (.inl 1), some (.inl 1), some (.inl 1), some (.inl 1), none, none]) (zdk ttX11_wheels 23 rfl rfl) (by decide) rfl ?_
        refine zj_iconst (zdk ttX11_wheels 24 rfl rfl) ?_
        refine zj_istore (L' := [some (.inr 0), some (.inl p1), some (.inl 1), some (.inl 1), some (.inl 1), some (.inl 1), some (.inl 1), none]) (zdk ttX11_wheels 25 rfl rfl) (by decide) rfl ?_
        have lp45 : ∀ (n41 : Nat) (x13 x14 x15 x16 x17 : Int), (0 ≤ x13 ∧ x13 ≤ 96059601) → (1 ≤ x14 ∧ x14 ≤ 96059601) → (-1 ≤ x15 ∧ x15 ≤ 1) → (-2147483648 ≤ x16 ∧ x16 ≤ 2147483647) → (1 ≤ x17 ∧ x17 ≤ 5) → ((x17 = 1 → x13 ≤ 1) ∧ (x17 = 2 → x13 ≤ 99) ∧ (x17 = 3 → x13 ≤ 9801) ∧ (x17 = 4 → x13 ≤ 970299)) → ((x17 = 1 → x14 ≤ 1) ∧ (x17 = 2 → x14 ≤ 99) ∧ (x17 = 3 → x14 ≤ 9801) ∧ (x17 = 4 → x14 ≤ 970299)) → (6 - x17).toNat < n41 → zJ shM l yX11_wheels cX11_wheels 8 (some .int) (rmL 2) 0 0 (q_X11_wheels h p1) 0 0 41 [some (.inr 0), some (.inl p1), some (.inl x13), some (.inl x14), some (.inl x15), some (.inl x16), some (.inl x17), none] [] h1 := by
          intro n41
          induction n41 with
          | zero => intro x13 x14 x15 x16 x17 b46 b47 b48 b49 b50 u51 u52 m53; exact absurd m53 (Nat.not_lt_zero _)
          | succ n41 ih54 =>
            intro x13 x14 x15 x16 x17 b46 b47 b48 b49 b50 u51 u52 m53
            refine zj_iload (zdk ttX11_wheels 26 rfl rfl) rfl ?_
            refine zj_aload_n (zdk ttX11_wheels 27 rfl rfl) rfl (by decide) ?_
            refine zj_geti (v := (h.2 0 42)) (zdk ttX11_wheels 28 rfl rfl) zf_RX11_401 rfl (k_M s3) (zwr_r e2 (by first | decide | exact (absurd ·.1 (by decide)) | exact (absurd ·.2 (by decide)) | omega)) ?_
            refine zj_icmp_ge (t := 129) (zdk ttX11_wheels 29 rfl rfl) (by decide) (by omega) (by omega) (fun c55 => ?_) (fun c55 => ?_)
            · refine zj_iload_n (zdk ttX11_wheels 80 rfl rfl) rfl ?_
              refine zj_if_ne (t := 140) (zdk ttX11_wheels 81 rfl rfl) (by decide) (by omega) (fun c56 => ?_) (fun c56 => ?_)
              · refine zj_iload_n (zdk ttX11_wheels 86 rfl rfl) rfl ?_
                refine zj_iconst (zdk ttX11_wheels 87 rfl rfl) ?_
                refine zj_icmp_ne (t := 149) (zdk ttX11_wheels 88 rfl rfl) (by decide) (by omega) (by decide) (fun c57 => ?_) (fun c57 => ?_)
                · refine zj_iload (zdk ttX11_wheels 91 rfl rfl) rfl ?_
                  have f58 : zfr [0] [] h h1 := zfr_wf (zfr_r _ _ _) e2 rfl
                  exact zj_iret rfl (zdk ttX11_wheels 92 rfl rfl) (Nat.le_refl _) (Nat.le_refl _) ⟨x16, rfl, by omega, s3, f58⟩
                · refine zj_iload_n (zdk ttX11_wheels 89 rfl rfl) rfl ?_
                  refine zj_goto (t := 151) (zdk ttX11_wheels 90 rfl rfl) (by decide) ?_
                  have f59 : zfr [0] [] h h1 := zfr_wf (zfr_r _ _ _) e2 rfl
                  exact zj_iret rfl (zdk ttX11_wheels 92 rfl rfl) (Nat.le_refl _) (Nat.le_refl _) ⟨x14, rfl, by omega, s3, f59⟩
              · refine zj_iload (zdk ttX11_wheels 82 rfl rfl) rfl ?_
                refine zj_iload_n (zdk ttX11_wheels 83 rfl rfl) rfl ?_
                refine zj_imul (zdk ttX11_wheels 84 rfl rfl) ?_
                have b60 : -96059601 ≤ (x15 * x13) ∧ (x15 * x13) ≤ 96059601 := zmul_b (a := -1) (b := 1) (c := 0) (d := 96059601) (by omega) (by omega) (by decide)
                refine zj_goto (t := 151) (zdk ttX11_wheels 85 rfl rfl) (by decide) ?_
                have f61 : zfr [0] [] h h1 := zfr_wf (zfr_r _ _ _) e2 rfl
                exact zj_iret rfl (zdk ttX11_wheels 92 rfl rfl) (Nat.le_refl _) (Nat.le_refl _) ⟨(x15 * x13), rfl, by omega, s3, f61⟩
            · have b62 : 0 ≤ x13 ∧ x13 ≤ 970299 := by omega
              have b63 : 1 ≤ x14 ∧ x14 ≤ 970299 := by omega
              refine zj_aload_n (zdk ttX11_wheels 30 rfl rfl) rfl (by decide) ?_
              refine zj_getr (r := 24) (zdk ttX11_wheels 31 rfl rfl) zf_RX11_83 rfl (k_M s3) (rfM_44 s3) ?_
              refine zj_iload (zdk ttX11_wheels 32 rfl rfl) rfl ?_
              have b64 : -2147483648 ≤ (h.2 24 x17) ∧ (h.2 24 x17) ≤ 2147483647 := abM_24 s0 x17
              refine zj_iald (v := (h.2 24 x17)) (zdk ttX11_wheels 33 rfl rfl) (kaM_24 s3) (by decide) (by omega) (zwr_r e2 (by first | decide | exact (absurd ·.1 (by decide)) | exact (absurd ·.2 (by decide)) | omega)) ?_
              refine zj_iconst (zdk ttX11_wheels 34 rfl rfl) ?_
              refine zj_icmp_ne (t := 64) (zdk ttX11_wheels 35 rfl rfl) (by decide) (by omega) (by decide) (fun c65 => ?_) (fun c65 => ?_)
              · refine zj_iload_n (zdk ttX11_wheels 37 rfl rfl) rfl ?_
                refine zj_aload_n (zdk ttX11_wheels 38 rfl rfl) rfl (by decide) ?_
                refine zj_getr (r := 23) (zdk ttX11_wheels 39 rfl rfl) zf_RX11_80 rfl (k_M s3) (rfM_43 s3) ?_
                refine zj_iload (zdk ttX11_wheels 40 rfl rfl) rfl ?_
                refine zj_iconst (zdk ttX11_wheels 41 rfl rfl) ?_
                refine zj_isub (zdk ttX11_wheels 42 rfl rfl) ?_
                have b66 : 6 ≤ (h.2 23 (x17 - 1)) ∧ (h.2 23 (x17 - 1)) ≤ 99 := s0.2.2.2.1.1 (x17 - 1) (by omega) (by omega)
                refine zj_iald (v := (h.2 23 (x17 - 1))) (zdk ttX11_wheels 43 rfl rfl) (kaM_23 s3) (by decide) (by omega) (zwr_r e2 (by first | decide | exact (absurd ·.1 (by decide)) | exact (absurd ·.2 (by decide)) | omega)) ?_
                have b67 := zm99 (x := x13) (t := (h.2 23 (x17 - 1))) (by omega) (by omega)
                refine zj_imul (zdk ttX11_wheels 44 rfl rfl) ?_
                have b68 : 0 ≤ (x13 * (h.2 23 (x17 - 1))) ∧ (x13 * (h.2 23 (x17 - 1))) ≤ 96059601 := zmul_b (a := 0) (b := 970299) (c := 6) (d := 99) (by omega) (by omega) (by decide)
                refine zj_istore_n (L' := [some (.inr 0), some (.inl p1), some (.inl (x13 * (h.2 23 (x17 - 1)))), some (.inl x14), some (.inl x15), some (.inl x16), some (.inl x17), none]) (zdk ttX11_wheels 45 rfl rfl) (by decide) rfl ?_
                refine zj_iload_n (zdk ttX11_wheels 46 rfl rfl) rfl ?_
                refine zj_aload_n (zdk ttX11_wheels 47 rfl rfl) rfl (by decide) ?_
                refine zj_getr (r := 23) (zdk ttX11_wheels 48 rfl rfl) zf_RX11_80 rfl (k_M s3) (rfM_43 s3) ?_
                refine zj_iload (zdk ttX11_wheels 49 rfl rfl) rfl ?_
                have b69 : 6 ≤ (h.2 23 x17) ∧ (h.2 23 x17) ≤ 99 := s0.2.2.2.1.1 x17 (by omega) (by omega)
                refine zj_iald (v := (h.2 23 x17)) (zdk ttX11_wheels 50 rfl rfl) (kaM_23 s3) (by decide) (by omega) (zwr_r e2 (by first | decide | exact (absurd ·.1 (by decide)) | exact (absurd ·.2 (by decide)) | omega)) ?_
                have b70 := zm99 (x := x14) (t := (h.2 23 x17)) (by omega) (by omega)
                refine zj_imul (zdk ttX11_wheels 51 rfl rfl) ?_
                have b71 : 6 ≤ (x14 * (h.2 23 x17)) ∧ (x14 * (h.2 23 x17)) ≤ 96059601 := zmul_b (a := 1) (b := 970299) (c := 6) (d := 99) (by omega) (by omega) (by decide)
                refine zj_istore_n (L' := [some (.inr 0), some (.inl p1), some (.inl (x13 * (h.2 23 (x17 - 1)))), some (.inl (x14 * (h.2 23 x17))), some (.inl x15), some (.inl x16), some (.inl x17), none]) (zdk ttX11_wheels 52 rfl rfl) (by decide) rfl ?_
                refine zj_aload_n (zdk ttX11_wheels 53 rfl rfl) rfl (by decide) ?_
                refine zj_iload_n (zdk ttX11_wheels 54 rfl rfl) rfl ?_
                refine zj_iload_n (zdk ttX11_wheels 55 rfl rfl) rfl ?_
                refine zj_callV (av := [.inl (x13 * (h.2 23 (x17 - 1))), .inl (x14 * (h.2 23 x17))]) (st := []) (zdk ttX11_wheels 56 rfl rfl) mb_X11_common mv_RX11_405 (ci := 11) rfl rfl (k_M s3) rfl rfl (Nat.le_of_ble_eq_true rfl) (s_X11_common l h1 (x13 * (h.2 23 (x17 - 1))) (x14 * (h.2 23 x17)) s3 (by omega) (by omega)) (rm_ok (by decide) (by decide)) (zq_i fun v73 h74 q72 => ?_)
                obtain ⟨rfl, b75, u76⟩ := q72
                have b77 : 1 ≤ v73 ∧ v73 ≤ 96059601 := by omega
                refine zj_istore (L' := [some (.inr 0), some (.inl p1), some (.inl (x13 * (h.2 23 (x17 - 1)))), some (.inl (x14 * (h.2 23 x17))), some (.inl x15), some (.inl x16), some (.inl x17), some (.inl v73)]) (zdk ttX11_wheels 57 rfl rfl) (by decide) rfl ?_
                refine zj_iload_n (zdk ttX11_wheels 58 rfl rfl) rfl ?_
                refine zj_iload (zdk ttX11_wheels 59 rfl rfl) rfl ?_
                refine zj_idivP (zdk ttX11_wheels 60 rfl rfl) (by omega) (by omega) ?_
                have b78 := zdiv_b (x := (x13 * (h.2 23 (x17 - 1)))) (b := v73) (by omega) (by omega)
                have b78p := zdiv_p (x := (x13 * (h.2 23 (x17 - 1)))) (b := v73) (by omega)
                refine zj_istore_n (L' := [some (.inr 0), some (.inl p1), some (.inl ((x13 * (h.2 23 (x17 - 1))) / v73)), some (.inl (x14 * (h.2 23 x17))), some (.inl x15), some (.inl x16), some (.inl x17), some (.inl v73)]) (zdk ttX11_wheels 61 rfl rfl) (by decide) rfl ?_
                refine zj_iload_n (zdk ttX11_wheels 62 rfl rfl) rfl ?_
                refine zj_iload (zdk ttX11_wheels 63 rfl rfl) rfl ?_
                refine zj_idivP (zdk ttX11_wheels 64 rfl rfl) (by omega) (by omega) ?_
                have b79 := zdiv_b (x := (x14 * (h.2 23 x17))) (b := v73) (by omega) (by omega)
                have b79p := zdiv_p (x := (x14 * (h.2 23 x17))) (b := v73) (by omega)
                refine zj_istore_n (L' := [some (.inr 0), some (.inl p1), some (.inl ((x13 * (h.2 23 (x17 - 1))) / v73)), some (.inl ((x14 * (h.2 23 x17)) / v73)), some (.inl x15), some (.inl x16), some (.inl x17), some (.inl v73)]) (zdk ttX11_wheels 65 rfl rfl) (by decide) rfl ?_
                refine zj_iload (zdk ttX11_wheels 66 rfl rfl) rfl ?_
                refine zj_ineg (zdk ttX11_wheels 67 rfl rfl) ?_
                refine zj_istore (L' := [some (.inr 0), some (.inl p1), some (.inl ((x13 * (h.2 23 (x17 - 1))) / v73)), some (.inl ((x14 * (h.2 23 x17)) / v73)), some (.inl (-x15)), some (.inl x16), some (.inl x17), some (.inl v73)]) (zdk ttX11_wheels 68 rfl rfl) (by decide) rfl ?_
                refine zj_iload (zdk ttX11_wheels 69 rfl rfl) rfl ?_
                refine zj_aload_n (zdk ttX11_wheels 70 rfl rfl) rfl (by decide) ?_
                refine zj_iload (zdk ttX11_wheels 71 rfl rfl) rfl ?_
                refine zj_iload_n (zdk ttX11_wheels 72 rfl rfl) rfl ?_
                refine zj_callV (av := [.inl x16, .inl ((x14 * (h.2 23 x17)) / v73)]) (st := [.inl x16]) (zdk ttX11_wheels 73 rfl rfl) mb_X11_common mv_RX11_405 (ci := 11) rfl rfl (k_M s3) rfl rfl (Nat.le_of_ble_eq_true rfl) (s_X11_common l h1 x16 ((x14 * (h.2 23 x17)) / v73) s3 (by omega) (by omega)) (rm_ok (by decide) (by decide)) (zq_i fun v81 h82 q80 => ?_)
                obtain ⟨rfl, b83, u84⟩ := q80
                refine zj_idiv (zdk ttX11_wheels 74 rfl rfl) (by omega) (by omega) (by omega) ?_
                have b85 := ztd_b x16 v81
                refine zj_wrap ?_
                have b86 := zwp_in (x16.tdiv v81)
                refine zj_iload_n (zdk ttX11_wheels 75 rfl rfl) rfl ?_
                refine zj_imul (zdk ttX11_wheels 76 rfl rfl) ?_
                refine zj_wrap ?_
                have b87 := zwp_in ((zwp (x16.tdiv v81)) * ((x14 * (h.2 23 x17)) / v73))
                refine zj_istore (L' := [some (.inr 0), some (.inl p1), some (.inl ((x13 * (h.2 23 (x17 - 1))) / v73)), some (.inl ((x14 * (h.2 23 x17)) / v73)), some (.inl (-x15)), some (.inl (zwp ((zwp (x16.tdiv v81)) * ((x14 * (h.2 23 x17)) / v73)))), some (.inl x17), some (.inl v73)]) (zdk ttX11_wheels 77 rfl rfl) (by decide) rfl ?_
                refine zj_iinc (L' := [some (.inr 0), some (.inl p1), some (.inl ((x13 * (h.2 23 (x17 - 1))) / v73)), some (.inl ((x14 * (h.2 23 x17)) / v73)), some (.inl (-x15)), some (.inl (zwp ((zwp (x16.tdiv v81)) * ((x14 * (h.2 23 x17)) / v73)))), some (.inl (x17 + 1)), some (.inl v73)]) (zdk ttX11_wheels 78 rfl rfl) rfl (by decide) rfl ?_
                refine zj_goto (t := 41) (zdk ttX11_wheels 79 rfl rfl) (by decide) ?_
                refine zj_kill (k := 7) (L' := [some (.inr 0), some (.inl p1), some (.inl ((x13 * (h.2 23 (x17 - 1))) / v73)), some (.inl ((x14 * (h.2 23 x17)) / v73)), some (.inl (-x15)), some (.inl (zwp ((zwp (x16.tdiv v81)) * ((x14 * (h.2 23 x17)) / v73)))), some (.inl (x17 + 1)), none]) rfl ?_
                exact ih54  ((x13 * (h.2 23 (x17 - 1))) / v73) ((x14 * (h.2 23 x17)) / v73) (-x15) (zwp ((zwp (x16.tdiv v81)) * ((x14 * (h.2 23 x17)) / v73))) (x17 + 1) (by omega) (by omega) (by omega) (by omega) (by omega) (by omega) (by omega) (by omega)
              · refine zj_goto (t := 123) (zdk ttX11_wheels 36 rfl rfl) (by decide) ?_
                refine zj_iinc (L' := [some (.inr 0), some (.inl p1), some (.inl x13), some (.inl x14), some (.inl x15), some (.inl x16), some (.inl (x17 + 1)), none]) (zdk ttX11_wheels 78 rfl rfl) rfl (by decide) rfl ?_
                refine zj_goto (t := 41) (zdk ttX11_wheels 79 rfl rfl) (by decide) ?_
                exact ih54  x13 x14 x15 x16 (x17 + 1) (by omega) (by omega) (by omega) (by omega) (by omega) (by omega) (by omega) (by omega)
        exact lp45 _ 1 1 1 1 1 (by omega) (by omega) (by omega) (by omega) (by omega) (by omega) (by omega) (Nat.lt_succ_self _)
      · refine zj_iconst (zdk ttX11_wheels 14 rfl rfl) ?_
        have f88 : zfr [0] [] h h1 := zfr_wf (zfr_r _ _ _) e2 rfl
        exact zj_iret rfl (zdk ttX11_wheels 15 rfl rfl) (Nat.le_refl _) (Nat.le_refl _) ⟨0, rfl, by omega, s3, f88⟩
    · exact absurd c10 (by omega)

abbrev tX11_wheel : List (Nat × Instr × Nat) := [(0, .aload_n 0, 1), (1, .iconst 0, 1), (2, .putfield 120, 3), (5, .iload_n 1, 1), (6, .iconst (-1), 1), (7, .if_icmp .ne 10, 3), (10, .aload_n 0, 1), (11, .iconst 0, 1), (12, .putfield 401, 3), (15, .iconst 0, 1), (16, .ireturn, 1), (17, .aload_n 0, 1), (18, .iload_n 1, 1), (19, .bipush 6, 2), (21, .bipush 99, 2), (23, .invokevirtual 139, 3), (26, .ifCond .eq 11, 3), (29, .aload_n 0, 1), (30, .getfield 401, 3), (33, .iconst 5, 1), (34, .if_icmp .ne 5, 3), (37, .iconst (-1), 1), (38, .ireturn, 1), (39, .aload_n 0, 1), (40, .getfield 80, 3), (43, .aload_n 0, 1), (44, .getfield 401, 3), (47, .iload_n 1, 1), (48, .iastore, 1), (49, .aload_n 0, 1), (50, .getfield 83, 3), (53, .aload_n 0, 1), (54, .getfield 401, 3), (57, .iload_n 2, 1), (58, .ifCond .eq 7, 3), (61, .iconst 1, 1), (62, .goto 4, 3), (65, .iconst 0, 1), (66, .iastore, 1), (67, .aload_n 0, 1), (68, .aload_n 0, 1), (69, .getfield 401, 3), (72, .iconst 1, 1), (73, .iadd, 1), (74, .putfield 401, 3), (77, .aload_n 0, 1), (78, .getfield 401, 3), (81, .ireturn, 1)]
theorem ttX11_wheel : zdt cX11_wheel tX11_wheel = true := by decide +kernel
abbrev q_X11_wheel (h : zM) (p1 : Int) (p2 : Int) : Option zV → zM → Prop := zqi fun v h' => ((-2147483648) ≤ v ∧ v ≤ 2147483647) ∧ okM h' ∧ zfr [0, 42] [23, 24] h h'
set_option maxRecDepth 100000 in
set_option maxHeartbeats 4000000 in
theorem s_X11_wheel (l : Launch) (h : zM) (p1 : Int) (p2 : Int) (s0 : okM h) (b_p1 : (-2147483648) ≤ p1 ∧ p1 ≤ 2147483647) (b_p2 : 0 ≤ p2 ∧ p2 ≤ 1) : zT shM l yX11_wheel cX11_wheel 3 (some .int) (rmL 2) 0 0 [.inr 0, .inl p1, .inl p2] h (q_X11_wheel h p1 p2) := by
  refine zT_of (by decide +kernel) (L0 := [some (.inr 0), some (.inl p1), some (.inl p2)]) rfl (Nat.le_of_ble_eq_true rfl) ?_
  refine zj_aload_n (zdk ttX11_wheel 0 rfl rfl) rfl (by decide) ?_
  refine zj_iconst (zdk ttX11_wheel 1 rfl rfl) ?_
  refine zj_puti (zdk ttX11_wheel 2 rfl rfl) zf_RX11_120 rfl (k_M s0) (Or.inl zw_RX11_120) (k2 := 0) rfl (fun h1 e2 => ?_)
  refine zj_iload_n (zdk ttX11_wheel 3 rfl rfl) rfl ?_
  refine zj_iconst (zdk ttX11_wheel 4 rfl rfl) ?_
  refine zj_icmp_ne (t := 17) (zdk ttX11_wheel 5 rfl rfl) (by decide) (by omega) (by decide) (fun c3 => ?_) (fun c3 => ?_)
  · refine zj_aload_n (zdk ttX11_wheel 11 rfl rfl) rfl (by decide) ?_
    refine zj_iload_n (zdk ttX11_wheel 12 rfl rfl) rfl ?_
    refine zj_bipush (zdk ttX11_wheel 13 rfl rfl) (by decide) ?_
    refine zj_bipush (zdk ttX11_wheel 14 rfl rfl) (by decide) ?_
    have s4 : okM h1 := fwM_0 s0 e2 (by omega)
    refine zj_callV (av := [.inl p1, .inl 6, .inl 99]) (st := []) (zdk ttX11_wheel 15 rfl rfl) mb_X11_isIn mv_RX11_139 (ci := 11) rfl rfl (k_M s4) rfl rfl (Nat.le_of_ble_eq_true rfl) (s_X11_isIn l h1 p1 6 99 s4 (by omega) (by omega) (by omega)) (rm_ok (by decide) (by decide)) (zq_i fun v6 h7 q5 => ?_)
    obtain ⟨rfl, ⟨rfl, b8⟩ | ⟨rfl, b8⟩⟩ := q5
    · refine zj_if_eq (t := 37) (zdk ttX11_wheel 16 rfl rfl) (by decide) (by decide) (fun c9 => ?_) (fun c9 => ?_)
      · refine zj_iconst (zdk ttX11_wheel 21 rfl rfl) ?_
        have f10 : zfr [0, 42] [23, 24] h h1 := zfr_wf (zfr_r _ _ _) e2 rfl
        exact zj_iret rfl (zdk ttX11_wheel 22 rfl rfl) (Nat.le_refl _) (Nat.le_refl _) ⟨(-1), rfl, by omega, s4, f10⟩
      · exact absurd c9 (by omega)
    · refine zj_if_eq (t := 37) (zdk ttX11_wheel 16 rfl rfl) (by decide) (by decide) (fun c11 => ?_) (fun c11 => ?_)
      · exact absurd c11 (by omega)
      · refine zj_aload_n (zdk ttX11_wheel 17 rfl rfl) rfl (by decide) ?_
        have b12 : 0 ≤ (h.2 0 42) ∧ (h.2 0 42) ≤ 5 := fM_42 s0
        refine zj_geti (v := (h.2 0 42)) (zdk ttX11_wheel 18 rfl rfl) zf_RX11_401 rfl (k_M s4) (zwr_r e2 (by first | decide | exact (absurd ·.1 (by decide)) | exact (absurd ·.2 (by decide)) | omega)) ?_
        refine zj_iconst (zdk ttX11_wheel 19 rfl rfl) ?_
        refine zj_icmp_ne (t := 39) (zdk ttX11_wheel 20 rfl rfl) (by decide) (by omega) (by decide) (fun c13 => ?_) (fun c13 => ?_)
        · refine zj_aload_n (zdk ttX11_wheel 23 rfl rfl) rfl (by decide) ?_
          refine zj_getr (r := 23) (zdk ttX11_wheel 24 rfl rfl) zf_RX11_80 rfl (k_M s4) (rfM_43 s4) ?_
          refine zj_aload_n (zdk ttX11_wheel 25 rfl rfl) rfl (by decide) ?_
          refine zj_geti (v := (h.2 0 42)) (zdk ttX11_wheel 26 rfl rfl) zf_RX11_401 rfl (k_M s4) (zwr_r e2 (by first | decide | exact (absurd ·.1 (by decide)) | exact (absurd ·.2 (by decide)) | omega)) ?_
          refine zj_iload_n (zdk ttX11_wheel 27 rfl rfl) rfl ?_
          refine zj_iast (zdk ttX11_wheel 28 rfl rfl) (kaM_23 s4) (by decide) (by omega) (fun h14 e15 => ?_)
          refine zj_aload_n (zdk ttX11_wheel 29 rfl rfl) rfl (by decide) ?_
          have b17 : h1.2 0 42 = (h.2 0 42) := (zwr_r e2 (by first | decide | exact (absurd ·.1 (by decide)) | exact (absurd ·.2 (by decide)) | omega))
          have s16 : okM h14 := okM_teeth s4 e15 (by omega) (by omega)
          refine zj_getr (r := 24) (zdk ttX11_wheel 30 rfl rfl) zf_RX11_83 rfl (k_M s16) (rfM_44 s16) ?_
          refine zj_aload_n (zdk ttX11_wheel 31 rfl rfl) rfl (by decide) ?_
          refine zj_geti (v := (h.2 0 42)) (zdk ttX11_wheel 32 rfl rfl) zf_RX11_401 rfl (k_M s16) ((zwr_r e15 (by first | decide | exact (absurd ·.1 (by decide)) | exact (absurd ·.2 (by decide)) | omega)).trans (zwr_r e2 (by first | decide | exact (absurd ·.1 (by decide)) | exact (absurd ·.2 (by decide)) | omega))) ?_
          refine zj_iload_n (zdk ttX11_wheel 33 rfl rfl) rfl ?_
          refine zj_if_eq (t := 65) (zdk ttX11_wheel 34 rfl rfl) (by decide) (by omega) (fun c18 => ?_) (fun c18 => ?_)
          · refine zj_iconst (zdk ttX11_wheel 37 rfl rfl) ?_
            refine zj_iast (zdk ttX11_wheel 38 rfl rfl) (kaM_24 s16) (by decide) (by omega) (fun h19 e20 => ?_)
            refine zj_aload_n (zdk ttX11_wheel 39 rfl rfl) rfl (by decide) ?_
            refine zj_aload_n (zdk ttX11_wheel 40 rfl rfl) rfl (by decide) ?_
            have s21 : okM h19 := awM_24 s16 e20 (by omega) (by unfold nsp; omega)
            refine zj_geti (v := (h.2 0 42)) (zdk ttX11_wheel 41 rfl rfl) zf_RX11_401 rfl (k_M s21) (((zwr_r e20 (by first | decide | exact (absurd ·.1 (by decide)) | exact (absurd ·.2 (by decide)) | omega)).trans (zwr_r e15 (by first | decide | exact (absurd ·.1 (by decide)) | exact (absurd ·.2 (by decide)) | omega))).trans (zwr_r e2 (by first | decide | exact (absurd ·.1 (by decide)) | exact (absurd ·.2 (by decide)) | omega))) ?_
            refine zj_iconst (zdk ttX11_wheel 42 rfl rfl) ?_
            refine zj_iadd (zdk ttX11_wheel 43 rfl rfl) ?_
            refine zj_puti (zdk ttX11_wheel 44 rfl rfl) zf_RX11_401 rfl (k_M s21) (Or.inl zw_RX11_401) (k2 := 42) rfl (fun h22 e23 => ?_)
            refine zj_aload_n (zdk ttX11_wheel 45 rfl rfl) rfl (by decide) ?_
            have z25 : 0 ≤ h1.2 0 42 ∧ h1.2 0 42 ≤ 5 := s4.2.1 0 42
            have z25e : h1.2 0 42 = (h.2 0 42) := by first | rfl | exact (zwr_r e2 (by first | decide | exact (absurd ·.1 (by decide)) | exact (absurd ·.2 (by decide)) | omega))
            have z25c : ∀ k, 0 ≤ k → k < ((h.2 0 42) + 1) → 6 ≤ h19.2 23 k ∧ h19.2 23 k ≤ 99 := by
              intro k q1 q2
              rw [zwr_r e20 (by first | decide | exact (absurd ·.1 (by decide)) | exact (absurd ·.2 (by decide)) | omega)]
              by_cases q : k = (h.2 0 42)
              · rw [q, zwr_v e15]; omega
              · rw [zwr_r e15 (by first | decide | exact (absurd ·.1 (by decide)) | exact (absurd ·.2 (by decide)) | omega)]; exact s4.2.2.2.1.1 k q1 (by omega)
            have s24 : okM h22 := okM_wheel s21 e23 (by omega) z25c
            refine zj_geti (v := ((h.2 0 42) + 1)) (zdk ttX11_wheel 46 rfl rfl) zf_RX11_401 rfl (k_M s24) (zwr_v e23) ?_
            have f29 : zfr [0, 42] [23, 24] h h1 := zfr_wf (zfr_r _ _ _) e2 rfl
            have f28 : zfr [0, 42] [23, 24] h h14 := zfr_wa f29 e15 rfl
            have f27 : zfr [0, 42] [23, 24] h h19 := zfr_wa f28 e20 rfl
            have f26 : zfr [0, 42] [23, 24] h h22 := zfr_wf f27 e23 rfl
            exact zj_iret rfl (zdk ttX11_wheel 47 rfl rfl) (Nat.le_refl _) (Nat.le_refl _) ⟨((h.2 0 42) + 1), rfl, by omega, s24, f26⟩
          · refine zj_iconst (zdk ttX11_wheel 35 rfl rfl) ?_
            refine zj_goto (t := 66) (zdk ttX11_wheel 36 rfl rfl) (by decide) ?_
            refine zj_iast (zdk ttX11_wheel 38 rfl rfl) (kaM_24 s16) (by decide) (by omega) (fun h30 e31 => ?_)
            refine zj_aload_n (zdk ttX11_wheel 39 rfl rfl) rfl (by decide) ?_
            refine zj_aload_n (zdk ttX11_wheel 40 rfl rfl) rfl (by decide) ?_
            have s32 : okM h30 := awM_24 s16 e31 (by omega) (by unfold nsp; omega)
            refine zj_geti (v := (h.2 0 42)) (zdk ttX11_wheel 41 rfl rfl) zf_RX11_401 rfl (k_M s32) (((zwr_r e31 (by first | decide | exact (absurd ·.1 (by decide)) | exact (absurd ·.2 (by decide)) | omega)).trans (zwr_r e15 (by first | decide | exact (absurd ·.1 (by decide)) | exact (absurd ·.2 (by decide)) | omega))).trans (zwr_r e2 (by first | decide | exact (absurd ·.1 (by decide)) | exact (absurd ·.2 (by decide)) | omega))) ?_
            refine zj_iconst (zdk ttX11_wheel 42 rfl rfl) ?_
            refine zj_iadd (zdk ttX11_wheel 43 rfl rfl) ?_
            refine zj_puti (zdk ttX11_wheel 44 rfl rfl) zf_RX11_401 rfl (k_M s32) (Or.inl zw_RX11_401) (k2 := 42) rfl (fun h33 e34 => ?_)
            refine zj_aload_n (zdk ttX11_wheel 45 rfl rfl) rfl (by decide) ?_
            have z36 : 0 ≤ h1.2 0 42 ∧ h1.2 0 42 ≤ 5 := s4.2.1 0 42
            have z36e : h1.2 0 42 = (h.2 0 42) := by first | rfl | exact (zwr_r e2 (by first | decide | exact (absurd ·.1 (by decide)) | exact (absurd ·.2 (by decide)) | omega))
            have z36c : ∀ k, 0 ≤ k → k < ((h.2 0 42) + 1) → 6 ≤ h30.2 23 k ∧ h30.2 23 k ≤ 99 := by
              intro k q1 q2
              rw [zwr_r e31 (by first | decide | exact (absurd ·.1 (by decide)) | exact (absurd ·.2 (by decide)) | omega)]
              by_cases q : k = (h.2 0 42)
              · rw [q, zwr_v e15]; omega
              · rw [zwr_r e15 (by first | decide | exact (absurd ·.1 (by decide)) | exact (absurd ·.2 (by decide)) | omega)]; exact s4.2.2.2.1.1 k q1 (by omega)
            have s35 : okM h33 := okM_wheel s32 e34 (by omega) z36c
            refine zj_geti (v := ((h.2 0 42) + 1)) (zdk ttX11_wheel 46 rfl rfl) zf_RX11_401 rfl (k_M s35) (zwr_v e34) ?_
            have f40 : zfr [0, 42] [23, 24] h h1 := zfr_wf (zfr_r _ _ _) e2 rfl
            have f39 : zfr [0, 42] [23, 24] h h14 := zfr_wa f40 e15 rfl
            have f38 : zfr [0, 42] [23, 24] h h30 := zfr_wa f39 e31 rfl
            have f37 : zfr [0, 42] [23, 24] h h33 := zfr_wf f38 e34 rfl
            exact zj_iret rfl (zdk ttX11_wheel 47 rfl rfl) (Nat.le_refl _) (Nat.le_refl _) ⟨((h.2 0 42) + 1), rfl, by omega, s35, f37⟩
        · refine zj_iconst (zdk ttX11_wheel 21 rfl rfl) ?_
          have f41 : zfr [0, 42] [23, 24] h h1 := zfr_wf (zfr_r _ _ _) e2 rfl
          exact zj_iret rfl (zdk ttX11_wheel 22 rfl rfl) (Nat.le_refl _) (Nat.le_refl _) ⟨(-1), rfl, by omega, s4, f41⟩
  · refine zj_aload_n (zdk ttX11_wheel 6 rfl rfl) rfl (by decide) ?_
    refine zj_iconst (zdk ttX11_wheel 7 rfl rfl) ?_
    have s42 : okM h1 := fwM_0 s0 e2 (by omega)
    refine zj_puti (zdk ttX11_wheel 8 rfl rfl) zf_RX11_401 rfl (k_M s42) (Or.inl zw_RX11_401) (k2 := 42) rfl (fun h43 e44 => ?_)
    refine zj_iconst (zdk ttX11_wheel 9 rfl rfl) ?_
    have s45 : okM h43 := okM_wheel s42 e44 (by decide) (fun k q1 q2 => absurd q1 (by omega))
    have f47 : zfr [0, 42] [23, 24] h h1 := zfr_wf (zfr_r _ _ _) e2 rfl
    have f46 : zfr [0, 42] [23, 24] h h43 := zfr_wf f47 e44 rfl
    exact zj_iret rfl (zdk ttX11_wheel 10 rfl rfl) (Nat.le_refl _) (Nat.le_refl _) ⟨0, rfl, by omega, s45, f46⟩

abbrev tX11_findsQuotients : List (Nat × Instr × Nat) := [(0, .iload_n 1, 1), (1, .istore_n 3, 1), (2, .iload_n 2, 1), (3, .istore 4, 2), (5, .iconst 0, 1), (6, .istore 5, 2), (8, .iload 4, 2), (10, .ifCond .eq 36, 3), (13, .aload_n 0, 1), (14, .getfield 99, 3), (17, .iload 5, 2), (19, .iload_n 3, 1), (20, .iload 4, 2), (22, .idiv, 1), (23, .iastore, 1), (24, .iload 5, 2), (26, .iconst 1, 1), (27, .iadd, 1), (28, .istore 5, 2), (30, .iload_n 3, 1), (31, .iload 4, 2), (33, .irem, 1), (34, .istore 6, 2), (36, .iload 4, 2), (38, .istore_n 3, 1), (39, .iload 6, 2), (41, .istore 4, 2), (43, .goto (-35), 3), (46, .iload 5, 2), (48, .ireturn, 1)]
theorem ttX11_findsQuotients : zdt cX11_findsQuotients tX11_findsQuotients = true := by decide +kernel
abbrev q_X11_findsQuotients (h : zM) (p1 : Int) (p2 : Int) : Option zV → zM → Prop := zqi fun v h' => (0 ≤ v ∧ v ≤ 39) ∧ okM h' ∧ zfr [] [29] h h'
set_option maxRecDepth 100000 in
set_option maxHeartbeats 4000000 in
theorem s_X11_findsQuotients (l : Launch) (h : zM) (p1 : Int) (p2 : Int) (s0 : okM h) (b_p1 : 1 ≤ p1 ∧ p1 ≤ 9999) (b_p2 : 1 ≤ p2 ∧ p2 ≤ 9999) : zT shM l yX11_findsQuotients cX11_findsQuotients 7 (some .int) (rmL 1) 0 0 [.inr 0, .inl p1, .inl p2] h (q_X11_findsQuotients h p1 p2) := by
  refine zT_of (by decide +kernel) (L0 := [some (.inr 0), some (.inl p1), some (.inl p2), none, none, none, none]) rfl (Nat.le_of_ble_eq_true rfl) ?_
  refine zj_iload_n (zdk ttX11_findsQuotients 0 rfl rfl) rfl ?_
  refine zj_istore_n (L' := [some (.inr 0), some (.inl p1), some (.inl p2), some (.inl p1), none, none, none]) (zdk ttX11_findsQuotients 1 rfl rfl) (by decide) rfl ?_
  refine zj_iload_n (zdk ttX11_findsQuotients 2 rfl rfl) rfl ?_
  refine zj_istore (L' := [some (.inr 0), some (.inl p1), some (.inl p2), some (.inl p1), some (.inl p2), none, none]) (zdk ttX11_findsQuotients 3 rfl rfl) (by decide) rfl ?_
  refine zj_iconst (zdk ttX11_findsQuotients 4 rfl rfl) ?_
  refine zj_istore (L' := [some (.inr 0), some (.inl p1), some (.inl p2), some (.inl p1), some (.inl p2), some (.inl 0), none]) (zdk ttX11_findsQuotients 5 rfl rfl) (by decide) rfl ?_
  have lp12 : ∀ (n8 : Nat) (x1 x2 x3 : Int) (h4 : zM), (1 ≤ x1 ∧ x1 ≤ 9999) → (0 ≤ x2 ∧ x2 ≤ 9999) → (0 ≤ x3 ∧ x3 ≤ 39) → okM h4 → zfr [] [29] h h4 → (zfq x1 x2 x3) → x2.toNat < n8 → zJ shM l yX11_findsQuotients cX11_findsQuotients 7 (some .int) (rmL 1) 0 0 (q_X11_findsQuotients h p1 p2) 0 0 8 [some (.inr 0), some (.inl p1), some (.inl p2), some (.inl x1), some (.inl x2), some (.inl x3), none] [] h4 := by
    intro n8
    induction n8 with
    | zero => intro x1 x2 x3 h4 b13 b14 b15 s5 f6 u16 m17; exact absurd m17 (Nat.not_lt_zero _)
    | succ n8 ih18 =>
      intro x1 x2 x3 h4 b13 b14 b15 s5 f6 u16 m17
      refine zj_iload (zdk ttX11_findsQuotients 6 rfl rfl) rfl ?_
      refine zj_if_eq (t := 46) (zdk ttX11_findsQuotients 7 rfl rfl) (by decide) (by omega) (fun c19 => ?_) (fun c19 => ?_)
      · refine zj_iload (zdk ttX11_findsQuotients 28 rfl rfl) rfl ?_
        exact zj_iret rfl (zdk ttX11_findsQuotients 29 rfl rfl) (Nat.le_refl _) (Nat.le_refl _) ⟨x3, rfl, by omega, s5, f6⟩
      · have zq1 := zfq_n u16 (by omega)
        have zq2 := zfq_s u16 (by omega) (by omega)
        refine zj_aload_n (zdk ttX11_findsQuotients 8 rfl rfl) rfl (by decide) ?_
        refine zj_getr (r := 29) (zdk ttX11_findsQuotients 9 rfl rfl) zf_RX11_99 rfl (k_M s5) (rfM_51 s5) ?_
        refine zj_iload (zdk ttX11_findsQuotients 10 rfl rfl) rfl ?_
        refine zj_iload_n (zdk ttX11_findsQuotients 11 rfl rfl) rfl ?_
        refine zj_iload (zdk ttX11_findsQuotients 12 rfl rfl) rfl ?_
        refine zj_idivP (zdk ttX11_findsQuotients 13 rfl rfl) (by omega) (by omega) ?_
        have b20 := zdiv_b (x := x1) (b := x2) (by omega) (by omega)
        have b20p := zdiv_p (x := x1) (b := x2) (by omega)
        refine zj_iast (zdk ttX11_findsQuotients 14 rfl rfl) (kaM_29 s5) (by decide) (by omega) (fun h21 e22 => ?_)
        refine zj_iload (zdk ttX11_findsQuotients 15 rfl rfl) rfl ?_
        refine zj_iconst (zdk ttX11_findsQuotients 16 rfl rfl) ?_
        refine zj_iadd (zdk ttX11_findsQuotients 17 rfl rfl) ?_
        refine zj_istore (L' := [some (.inr 0), some (.inl p1), some (.inl p2), some (.inl x1), some (.inl x2), some (.inl (x3 + 1)), none]) (zdk ttX11_findsQuotients 18 rfl rfl) (by decide) rfl ?_
        refine zj_iload_n (zdk ttX11_findsQuotients 19 rfl rfl) rfl ?_
        refine zj_iload (zdk ttX11_findsQuotients 20 rfl rfl) rfl ?_
        refine zj_iremP (zdk ttX11_findsQuotients 21 rfl rfl) (by omega) (by omega) ?_
        have b23 := zmod_b (x := x1) (b := x2) (by omega) (by omega)
        refine zj_istore (L' := [some (.inr 0), some (.inl p1), some (.inl p2), some (.inl x1), some (.inl x2), some (.inl (x3 + 1)), some (.inl (x1 % x2))]) (zdk ttX11_findsQuotients 22 rfl rfl) (by decide) rfl ?_
        refine zj_iload (zdk ttX11_findsQuotients 23 rfl rfl) rfl ?_
        refine zj_istore_n (L' := [some (.inr 0), some (.inl p1), some (.inl p2), some (.inl x2), some (.inl x2), some (.inl (x3 + 1)), some (.inl (x1 % x2))]) (zdk ttX11_findsQuotients 24 rfl rfl) (by decide) rfl ?_
        refine zj_iload (zdk ttX11_findsQuotients 25 rfl rfl) rfl ?_
        refine zj_istore (L' := [some (.inr 0), some (.inl p1), some (.inl p2), some (.inl x2), some (.inl (x1 % x2)), some (.inl (x3 + 1)), some (.inl (x1 % x2))]) (zdk ttX11_findsQuotients 26 rfl rfl) (by decide) rfl ?_
        refine zj_goto (t := 8) (zdk ttX11_findsQuotients 27 rfl rfl) (by decide) ?_
        refine zj_kill (k := 6) (L' := [some (.inr 0), some (.inl p1), some (.inl p2), some (.inl x2), some (.inl (x1 % x2)), some (.inl (x3 + 1)), none]) rfl ?_
        have s24 : okM h21 := awM_29 s5 e22 (by omega) (by unfold nsp; omega)
        have f25 : zfr [] [29] h h21 := zfr_wa f6 e22 rfl
        exact ih18  x2 (x1 % x2) (x3 + 1) h21 (by omega) (by omega) (by omega) s24 f25 zq2 (by omega)
  exact lp12 _ p1 p2 0 h (by omega) (by omega) (by omega) s0 (zfr_r _ _ _) ⟨by omega, by omega, Or.inl rfl⟩ (Nat.lt_succ_self _)

abbrev tX11_part : List (Nat × Instr × Nat) := [(0, .aload_n 0, 1), (1, .iconst 0, 1), (2, .putfield 120, 3), (5, .aload_n 0, 1), (6, .iload_n 1, 1), (7, .iconst 1, 1), (8, .sipush 9999, 3), (11, .invokevirtual 139, 3), (14, .ifCond .eq 15, 3), (17, .aload_n 0, 1), (18, .iload_n 2, 1), (19, .iconst 1, 1), (20, .sipush 9999, 3), (23, .invokevirtual 139, 3), (26, .ifCond .ne 5, 3), (29, .iconst (-1), 1), (30, .ireturn, 1), (31, .aload_n 0, 1), (32, .iload_n 1, 1), (33, .iload_n 2, 1), (34, .invokevirtual 431, 3), (37, .istore 4, 2), (39, .iload_n 3, 1), (40, .ifCond .ne 6, 3), (43, .iload 4, 2), (45, .ireturn, 1), (46, .iload_n 3, 1), (47, .bipush 100, 2), (49, .irem, 1), (50, .istore 5, 2), (52, .aload_n 0, 1), (53, .iload_n 3, 1), (54, .bipush 100, 2), (56, .sipush 399, 3), (59, .invokevirtual 139, 3), (62, .ifCond .eq 10, 3), (65, .iload 5, 2), (67, .iload 4, 2), (69, .if_icmp .lt 5, 3), (72, .iconst (-1), 1), (73, .ireturn, 1), (74, .iload_n 3, 1), (75, .sipush 200, 3), (78, .if_icmp .ge 11, 3), (81, .aload_n 0, 1), (82, .getfield 99, 3), (85, .iload 5, 2), (87, .iaload, 1), (88, .ireturn, 1), (89, .aload_n 0, 1), (90, .getfield 99, 3), (93, .iload 5, 2), (95, .iaload, 1), (96, .istore 6, 2), (98, .iconst 1, 1), (99, .istore 7, 2), (101, .iload 5, 2), (103, .iconst 1, 1), (104, .isub, 1), (105, .istore 8, 2), (107, .iload 8, 2), (109, .ifCond .lt 32, 3), (112, .aload_n 0, 1), (113, .getfield 99, 3), (116, .iload 8, 2), (118, .iaload, 1), (119, .iload 6, 2), (121, .imul, 1), (122, .iload 7, 2), (124, .iadd, 1), (125, .istore 9, 2), (127, .iload 6, 2), (129, .istore 7, 2), (131, .iload 9, 2), (133, .istore 6, 2), (135, .iinc 8 (-1), 3), (138, .goto (-31), 3), (141, .iload_n 3, 1), (142, .sipush 300, 3), (145, .if_icmp .ge 8, 3), (148, .iload 6, 2), (150, .goto 5, 3), (153, .iload 7, 2), (155, .ireturn, 1)]
theorem ttX11_part : zdt cX11_part tX11_part = true := by decide +kernel
abbrev q_X11_part (h : zM) (p1 : Int) (p2 : Int) (p3 : Int) : Option zV → zM → Prop := zqi fun v h' => ((-2147483648) ≤ v ∧ v ≤ 2147483647) ∧ okM h' ∧ zfr [0] [29] h h'
set_option maxRecDepth 100000 in
set_option maxHeartbeats 4000000 in
theorem s_X11_part (l : Launch) (h : zM) (p1 : Int) (p2 : Int) (p3 : Int) (s0 : okM h) (b_p1 : (-2147483648) ≤ p1 ∧ p1 ≤ 2147483647) (b_p2 : (-2147483648) ≤ p2 ∧ p2 ≤ 2147483647) (b_p3 : (-2147483648) ≤ p3 ∧ p3 ≤ 2147483647) : zT shM l yX11_part cX11_part 10 (some .int) (rmL 2) 0 0 [.inr 0, .inl p1, .inl p2, .inl p3] h (q_X11_part h p1 p2 p3) := by
  refine zT_of (by decide +kernel) (L0 := [some (.inr 0), some (.inl p1), some (.inl p2), some (.inl p3), none, none, none, none, none, none]) rfl (Nat.le_of_ble_eq_true rfl) ?_
  refine zj_aload_n (zdk ttX11_part 0 rfl rfl) rfl (by decide) ?_
  refine zj_iconst (zdk ttX11_part 1 rfl rfl) ?_
  refine zj_puti (zdk ttX11_part 2 rfl rfl) zf_RX11_120 rfl (k_M s0) (Or.inl zw_RX11_120) (k2 := 0) rfl (fun h1 e2 => ?_)
  refine zj_aload_n (zdk ttX11_part 3 rfl rfl) rfl (by decide) ?_
  refine zj_iload_n (zdk ttX11_part 4 rfl rfl) rfl ?_
  refine zj_iconst (zdk ttX11_part 5 rfl rfl) ?_
  refine zj_sipush (zdk ttX11_part 6 rfl rfl) (by decide) ?_
  have s3 : okM h1 := fwM_0 s0 e2 (by omega)
  refine zj_callV (av := [.inl p1, .inl 1, .inl 9999]) (st := []) (zdk ttX11_part 7 rfl rfl) mb_X11_isIn mv_RX11_139 (ci := 11) rfl rfl (k_M s3) rfl rfl (Nat.le_of_ble_eq_true rfl) (s_X11_isIn l h1 p1 1 9999 s3 (by omega) (by omega) (by omega)) (rm_ok (by decide) (by decide)) (zq_i fun v5 h6 q4 => ?_)
  obtain ⟨rfl, ⟨rfl, b7⟩ | ⟨rfl, b7⟩⟩ := q4
  · refine zj_if_eq (t := 29) (zdk ttX11_part 8 rfl rfl) (by decide) (by decide) (fun c8 => ?_) (fun c8 => ?_)
    · refine zj_iconst (zdk ttX11_part 15 rfl rfl) ?_
      have f9 : zfr [0] [29] h h1 := zfr_wf (zfr_r _ _ _) e2 rfl
      exact zj_iret rfl (zdk ttX11_part 16 rfl rfl) (Nat.le_refl _) (Nat.le_refl _) ⟨(-1), rfl, by omega, s3, f9⟩
    · exact absurd c8 (by omega)
  · refine zj_if_eq (t := 29) (zdk ttX11_part 8 rfl rfl) (by decide) (by decide) (fun c10 => ?_) (fun c10 => ?_)
    · exact absurd c10 (by omega)
    · refine zj_aload_n (zdk ttX11_part 9 rfl rfl) rfl (by decide) ?_
      refine zj_iload_n (zdk ttX11_part 10 rfl rfl) rfl ?_
      refine zj_iconst (zdk ttX11_part 11 rfl rfl) ?_
      refine zj_sipush (zdk ttX11_part 12 rfl rfl) (by decide) ?_
      refine zj_callV (av := [.inl p2, .inl 1, .inl 9999]) (st := []) (zdk ttX11_part 13 rfl rfl) mb_X11_isIn mv_RX11_139 (ci := 11) rfl rfl (k_M s3) rfl rfl (Nat.le_of_ble_eq_true rfl) (s_X11_isIn l h1 p2 1 9999 s3 (by omega) (by omega) (by omega)) (rm_ok (by decide) (by decide)) (zq_i fun v12 h13 q11 => ?_)
      obtain ⟨rfl, ⟨rfl, b14⟩ | ⟨rfl, b14⟩⟩ := q11
      · refine zj_if_ne (t := 31) (zdk ttX11_part 14 rfl rfl) (by decide) (by decide) (fun c15 => ?_) (fun c15 => ?_)
        · exact absurd c15 (by omega)
        · refine zj_iconst (zdk ttX11_part 15 rfl rfl) ?_
          have f16 : zfr [0] [29] h h1 := zfr_wf (zfr_r _ _ _) e2 rfl
          exact zj_iret rfl (zdk ttX11_part 16 rfl rfl) (Nat.le_refl _) (Nat.le_refl _) ⟨(-1), rfl, by omega, s3, f16⟩
      · refine zj_if_ne (t := 31) (zdk ttX11_part 14 rfl rfl) (by decide) (by decide) (fun c17 => ?_) (fun c17 => ?_)
        · refine zj_aload_n (zdk ttX11_part 17 rfl rfl) rfl (by decide) ?_
          refine zj_iload_n (zdk ttX11_part 18 rfl rfl) rfl ?_
          refine zj_iload_n (zdk ttX11_part 19 rfl rfl) rfl ?_
          refine zj_callV (av := [.inl p1, .inl p2]) (st := []) (zdk ttX11_part 20 rfl rfl) mb_X11_findsQuotients mv_RX11_431 (ci := 11) rfl rfl (k_M s3) rfl rfl (Nat.le_of_ble_eq_true rfl) (s_X11_findsQuotients l h1 p1 p2 s3 (by omega) (by omega)) (rm_ok (by decide) (by decide)) (zq_i fun v19 h20 q18 => ?_)
          obtain ⟨b21, s22, f23⟩ := q18
          refine zj_istore (L' := [some (.inr 0), some (.inl p1), some (.inl p2), some (.inl p3), some (.inl v19), none, none, none, none, none]) (zdk ttX11_part 21 rfl rfl) (by decide) rfl ?_
          refine zj_iload_n (zdk ttX11_part 22 rfl rfl) rfl ?_
          refine zj_if_ne (t := 46) (zdk ttX11_part 23 rfl rfl) (by decide) (by omega) (fun c24 => ?_) (fun c24 => ?_)
          · refine zj_iload_n (zdk ttX11_part 26 rfl rfl) rfl ?_
            refine zj_bipush (zdk ttX11_part 27 rfl rfl) (by decide) ?_
            refine zj_irem (zdk ttX11_part 28 rfl rfl) (by omega) (by decide) (by omega) ?_
            have b25 := ztm_c p3 100 (by decide)
            refine zj_istore (L' := [some (.inr 0), some (.inl p1), some (.inl p2), some (.inl p3), some (.inl v19), some (.inl (p3.tmod 100)), none, none, none, none]) (zdk ttX11_part 29 rfl rfl) (by decide) rfl ?_
            refine zj_aload_n (zdk ttX11_part 30 rfl rfl) rfl (by decide) ?_
            refine zj_iload_n (zdk ttX11_part 31 rfl rfl) rfl ?_
            refine zj_bipush (zdk ttX11_part 32 rfl rfl) (by decide) ?_
            refine zj_sipush (zdk ttX11_part 33 rfl rfl) (by decide) ?_
            refine zj_callV (av := [.inl p3, .inl 100, .inl 399]) (st := []) (zdk ttX11_part 34 rfl rfl) mb_X11_isIn mv_RX11_139 (ci := 11) rfl rfl (k_M s22) rfl rfl (Nat.le_of_ble_eq_true rfl) (s_X11_isIn l h20 p3 100 399 s22 (by omega) (by omega) (by omega)) (rm_ok (by decide) (by decide)) (zq_i fun v27 h28 q26 => ?_)
            obtain ⟨rfl, ⟨rfl, b29⟩ | ⟨rfl, b29⟩⟩ := q26
            · refine zj_if_eq (t := 72) (zdk ttX11_part 35 rfl rfl) (by decide) (by decide) (fun c30 => ?_) (fun c30 => ?_)
              · refine zj_iconst (zdk ttX11_part 39 rfl rfl) ?_
                have f32 : zfr [0] [29] h h1 := zfr_wf (zfr_r _ _ _) e2 rfl
                have f31 : zfr [0] [29] h h20 := zfr_t f32 f23 rfl rfl
                exact zj_iret rfl (zdk ttX11_part 40 rfl rfl) (Nat.le_refl _) (Nat.le_refl _) ⟨(-1), rfl, by omega, s22, f31⟩
              · exact absurd c30 (by omega)
            · refine zj_if_eq (t := 72) (zdk ttX11_part 35 rfl rfl) (by decide) (by decide) (fun c33 => ?_) (fun c33 => ?_)
              · exact absurd c33 (by omega)
              · refine zj_iload (zdk ttX11_part 36 rfl rfl) rfl ?_
                refine zj_iload (zdk ttX11_part 37 rfl rfl) rfl ?_
                refine zj_icmp_lt (t := 74) (zdk ttX11_part 38 rfl rfl) (by decide) (by omega) (by omega) (fun c34 => ?_) (fun c34 => ?_)
                · refine zj_iload_n (zdk ttX11_part 41 rfl rfl) rfl ?_
                  refine zj_sipush (zdk ttX11_part 42 rfl rfl) (by decide) ?_
                  refine zj_icmp_ge (t := 89) (zdk ttX11_part 43 rfl rfl) (by decide) (by omega) (by decide) (fun c35 => ?_) (fun c35 => ?_)
                  · refine zj_aload_n (zdk ttX11_part 49 rfl rfl) rfl (by decide) ?_
                    refine zj_getr (r := 29) (zdk ttX11_part 50 rfl rfl) zf_RX11_99 rfl (k_M s22) (rfM_51 s22) ?_
                    refine zj_iload (zdk ttX11_part 51 rfl rfl) rfl ?_
                    have b36 : -2147483648 ≤ (h20.2 29 (p3.tmod 100)) ∧ (h20.2 29 (p3.tmod 100)) ≤ 2147483647 := abM_29 s22 (p3.tmod 100)
                    refine zj_iald (v := (h20.2 29 (p3.tmod 100))) (zdk ttX11_part 52 rfl rfl) (kaM_29 s22) (by decide) (by omega) rfl ?_
                    refine zj_istore (L' := [some (.inr 0), some (.inl p1), some (.inl p2), some (.inl p3), some (.inl v19), some (.inl (p3.tmod 100)), some (.inl (h20.2 29 (p3.tmod 100))), none, none, none]) (zdk ttX11_part 53 rfl rfl) (by decide) rfl ?_
                    refine zj_iconst (zdk ttX11_part 54 rfl rfl) ?_
                    refine zj_istore (L' := [some (.inr 0), some (.inl p1), some (.inl p2), some (.inl p3), some (.inl v19), some (.inl (p3.tmod 100)), some (.inl (h20.2 29 (p3.tmod 100))), some (.inl 1), none, none]) (zdk ttX11_part 55 rfl rfl) (by decide) rfl ?_
                    refine zj_iload (zdk ttX11_part 56 rfl rfl) rfl ?_
                    refine zj_iconst (zdk ttX11_part 57 rfl rfl) ?_
                    refine zj_isub (zdk ttX11_part 58 rfl rfl) ?_
                    refine zj_istore (L' := [some (.inr 0), some (.inl p1), some (.inl p2), some (.inl p3), some (.inl v19), some (.inl (p3.tmod 100)), some (.inl (h20.2 29 (p3.tmod 100))), some (.inl 1), some (.inl ((p3.tmod 100) - 1)), none]) (zdk ttX11_part 59 rfl rfl) (by decide) rfl ?_
                    have lp48 : ∀ (n107 : Nat) (x37 x38 x39 : Int), (-2147483648 ≤ x37 ∧ x37 ≤ 2147483647) → (-2147483648 ≤ x38 ∧ x38 ≤ 2147483647) → (-100 ≤ x39 ∧ x39 ≤ 37) → (x39 - -101).toNat < n107 → zJ shM l yX11_part cX11_part 10 (some .int) (rmL 2) 0 0 (q_X11_part h p1 p2 p3) 0 0 107 [some (.inr 0), some (.inl p1), some (.inl p2), some (.inl p3), some (.inl v19), some (.inl (p3.tmod 100)), some (.inl x37), some (.inl x38), some (.inl x39), none] [] h20 := by
                      intro n107
                      induction n107 with
                      | zero => intro x37 x38 x39 b49 b50 b51 m52; exact absurd m52 (Nat.not_lt_zero _)
                      | succ n107 ih53 =>
                        intro x37 x38 x39 b49 b50 b51 m52
                        refine zj_iload (zdk ttX11_part 60 rfl rfl) rfl ?_
                        refine zj_if_lt (t := 141) (zdk ttX11_part 61 rfl rfl) (by decide) (by omega) (fun c54 => ?_) (fun c54 => ?_)
                        · refine zj_iload_n (zdk ttX11_part 77 rfl rfl) rfl ?_
                          refine zj_sipush (zdk ttX11_part 78 rfl rfl) (by decide) ?_
                          refine zj_icmp_ge (t := 153) (zdk ttX11_part 79 rfl rfl) (by decide) (by omega) (by decide) (fun c55 => ?_) (fun c55 => ?_)
                          · refine zj_iload (zdk ttX11_part 82 rfl rfl) rfl ?_
                            have f57 : zfr [0] [29] h h1 := zfr_wf (zfr_r _ _ _) e2 rfl
                            have f56 : zfr [0] [29] h h20 := zfr_t f57 f23 rfl rfl
                            exact zj_iret rfl (zdk ttX11_part 83 rfl rfl) (Nat.le_refl _) (Nat.le_refl _) ⟨x38, rfl, by omega, s22, f56⟩
                          · refine zj_iload (zdk ttX11_part 80 rfl rfl) rfl ?_
                            refine zj_goto (t := 155) (zdk ttX11_part 81 rfl rfl) (by decide) ?_
                            have f59 : zfr [0] [29] h h1 := zfr_wf (zfr_r _ _ _) e2 rfl
                            have f58 : zfr [0] [29] h h20 := zfr_t f59 f23 rfl rfl
                            exact zj_iret rfl (zdk ttX11_part 83 rfl rfl) (Nat.le_refl _) (Nat.le_refl _) ⟨x37, rfl, by omega, s22, f58⟩
                        · refine zj_aload_n (zdk ttX11_part 62 rfl rfl) rfl (by decide) ?_
                          refine zj_getr (r := 29) (zdk ttX11_part 63 rfl rfl) zf_RX11_99 rfl (k_M s22) (rfM_51 s22) ?_
                          refine zj_iload (zdk ttX11_part 64 rfl rfl) rfl ?_
                          have b60 : -2147483648 ≤ (h20.2 29 x39) ∧ (h20.2 29 x39) ≤ 2147483647 := abM_29 s22 x39
                          refine zj_iald (v := (h20.2 29 x39)) (zdk ttX11_part 65 rfl rfl) (kaM_29 s22) (by decide) (by omega) rfl ?_
                          refine zj_iload (zdk ttX11_part 66 rfl rfl) rfl ?_
                          refine zj_imul (zdk ttX11_part 67 rfl rfl) ?_
                          refine zj_wrap ?_
                          have b61 := zwp_in ((h20.2 29 x39) * x37)
                          refine zj_iload (zdk ttX11_part 68 rfl rfl) rfl ?_
                          refine zj_iadd (zdk ttX11_part 69 rfl rfl) ?_
                          refine zj_wrap ?_
                          have b62 := zwp_in ((zwp ((h20.2 29 x39) * x37)) + x38)
                          refine zj_istore (L' := [some (.inr 0), some (.inl p1), some (.inl p2), some (.inl p3), some (.inl v19), some (.inl (p3.tmod 100)), some (.inl x37), some (.inl x38), some (.inl x39), some (.inl (zwp ((zwp ((h20.2 29 x39) * x37)) + x38)))]) (zdk ttX11_part 70 rfl rfl) (by decide) rfl ?_
                          refine zj_iload (zdk ttX11_part 71 rfl rfl) rfl ?_
                          refine zj_istore (L' := [some (.inr 0), some (.inl p1), some (.inl p2), some (.inl p3), some (.inl v19), some (.inl (p3.tmod 100)), some (.inl x37), some (.inl x37), some (.inl x39), some (.inl (zwp ((zwp ((h20.2 29 x39) * x37)) + x38)))]) (zdk ttX11_part 72 rfl rfl) (by decide) rfl ?_
                          refine zj_iload (zdk ttX11_part 73 rfl rfl) rfl ?_
                          refine zj_istore (L' := [some (.inr 0), some (.inl p1), some (.inl p2), some (.inl p3), some (.inl v19), some (.inl (p3.tmod 100)), some (.inl (zwp ((zwp ((h20.2 29 x39) * x37)) + x38))), some (.inl x37), some (.inl x39), some (.inl (zwp ((zwp ((h20.2 29 x39) * x37)) + x38)))]) (zdk ttX11_part 74 rfl rfl) (by decide) rfl ?_
                          refine zj_iinc (L' := [some (.inr 0), some (.inl p1), some (.inl p2), some (.inl p3), some (.inl v19), some (.inl (p3.tmod 100)), some (.inl (zwp ((zwp ((h20.2 29 x39) * x37)) + x38))), some (.inl x37), some (.inl (x39 + (-1))), some (.inl (zwp ((zwp ((h20.2 29 x39) * x37)) + x38)))]) (zdk ttX11_part 75 rfl rfl) rfl (by decide) rfl ?_
                          refine zj_goto (t := 107) (zdk ttX11_part 76 rfl rfl) (by decide) ?_
                          refine zj_kill (k := 9) (L' := [some (.inr 0), some (.inl p1), some (.inl p2), some (.inl p3), some (.inl v19), some (.inl (p3.tmod 100)), some (.inl (zwp ((zwp ((h20.2 29 x39) * x37)) + x38))), some (.inl x37), some (.inl (x39 + (-1))), none]) rfl ?_
                          exact ih53  (zwp ((zwp ((h20.2 29 x39) * x37)) + x38)) x37 (x39 + (-1)) (by omega) (by omega) (by omega) (by omega)
                    exact lp48 _ (h20.2 29 (p3.tmod 100)) 1 ((p3.tmod 100) - 1) (by omega) (by omega) (by omega) (Nat.lt_succ_self _)
                  · refine zj_aload_n (zdk ttX11_part 44 rfl rfl) rfl (by decide) ?_
                    refine zj_getr (r := 29) (zdk ttX11_part 45 rfl rfl) zf_RX11_99 rfl (k_M s22) (rfM_51 s22) ?_
                    refine zj_iload (zdk ttX11_part 46 rfl rfl) rfl ?_
                    have b63 : -2147483648 ≤ (h20.2 29 (p3.tmod 100)) ∧ (h20.2 29 (p3.tmod 100)) ≤ 2147483647 := abM_29 s22 (p3.tmod 100)
                    refine zj_iald (v := (h20.2 29 (p3.tmod 100))) (zdk ttX11_part 47 rfl rfl) (kaM_29 s22) (by decide) (by omega) rfl ?_
                    have f65 : zfr [0] [29] h h1 := zfr_wf (zfr_r _ _ _) e2 rfl
                    have f64 : zfr [0] [29] h h20 := zfr_t f65 f23 rfl rfl
                    exact zj_iret rfl (zdk ttX11_part 48 rfl rfl) (Nat.le_refl _) (Nat.le_refl _) ⟨(h20.2 29 (p3.tmod 100)), rfl, by omega, s22, f64⟩
                · refine zj_iconst (zdk ttX11_part 39 rfl rfl) ?_
                  have f67 : zfr [0] [29] h h1 := zfr_wf (zfr_r _ _ _) e2 rfl
                  have f66 : zfr [0] [29] h h20 := zfr_t f67 f23 rfl rfl
                  exact zj_iret rfl (zdk ttX11_part 40 rfl rfl) (Nat.le_refl _) (Nat.le_refl _) ⟨(-1), rfl, by omega, s22, f66⟩
          · refine zj_iload (zdk ttX11_part 24 rfl rfl) rfl ?_
            have f69 : zfr [0] [29] h h1 := zfr_wf (zfr_r _ _ _) e2 rfl
            have f68 : zfr [0] [29] h h20 := zfr_t f69 f23 rfl rfl
            exact zj_iret rfl (zdk ttX11_part 25 rfl rfl) (Nat.le_refl _) (Nat.le_refl _) ⟨v19, rfl, by omega, s22, f68⟩
        · exact absurd c17 (by omega)

abbrev tX11_types : List (Nat × Instr × Nat) := [(0, .bipush 24, 2), (2, .istore_n 2, 1), (3, .iload_n 2, 1), (4, .ifCond .lt 35, 3), (7, .aload_n 0, 1), (8, .getfield 28, 3), (11, .aload_n 0, 1), (12, .getfield 149, 3), (15, .iload_n 1, 1), (16, .iload_n 2, 1), (17, .ishr, 1), (18, .sipush 255, 3), (21, .iand, 1), (22, .iastore, 1), (23, .aload_n 0, 1), (24, .aload_n 0, 1), (25, .getfield 149, 3), (28, .iconst 1, 1), (29, .iadd, 1), (30, .putfield 149, 3), (33, .iinc 2 (-8), 3), (36, .goto (-33), 3), (39, .return_, 1)]
theorem ttX11_types : zdt cX11_types tX11_types = true := by decide +kernel
abbrev tX11_feed : List (Nat × Instr × Nat) := [(0, .aload_n 0, 1), (1, .iconst 0, 1), (2, .putfield 120, 3), (5, .aload_n 0, 1), (6, .getfield 149, 3), (9, .sipush 380, 3), (12, .if_icmp .le 5, 3), (15, .iconst (-1), 1), (16, .ireturn, 1), (17, .aload_n 0, 1), (18, .iload_n 1, 1), (19, .invokevirtual 152, 3), (22, .aload_n 0, 1), (23, .iload_n 2, 1), (24, .invokevirtual 152, 3), (27, .aload_n 0, 1), (28, .iload_n 3, 1), (29, .invokevirtual 152, 3), (32, .aload_n 0, 1), (33, .iload 4, 2), (35, .invokevirtual 152, 3), (38, .aload_n 0, 1), (39, .iload 5, 2), (41, .invokevirtual 152, 3), (44, .aload_n 0, 1), (45, .getfield 149, 3), (48, .ireturn, 1)]
theorem ttX11_feed : zdt cX11_feed tX11_feed = true := by decide +kernel
