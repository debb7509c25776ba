abbrev tJ9_floorMod_7cf53 : List (Nat × Instr × Nat) := [(0, .iload_n 0, 1), (1, .iload_n 1, 1), (2, .irem, 1), (3, .istore_n 2, 1), (4, .iload_n 0, 1), (5, .iload_n 1, 1), (6, .ixor, 1), (7, .ifCond .ge 11, 3), (10, .iload_n 2, 1), (11, .ifCond .eq 7, 3), (14, .iload_n 2, 1), (15, .iload_n 1, 1), (16, .iadd, 1), (17, .ireturn, 1), (18, .iload_n 2, 1), (19, .ireturn, 1)]
theorem ttJ9_floorMod_7cf53 : zdt cJ9_floorMod_7cf53 tJ9_floorMod_7cf53 = true := by decide +kernel

abbrev tJ9_floorDiv_7cf53 : List (Nat × Instr × Nat) := [(0, .iload_n 0, 1), (1, .iload_n 1, 1), (2, .idiv, 1), (3, .istore_n 2, 1), (4, .iload_n 0, 1), (5, .iload_n 1, 1), (6, .ixor, 1), (7, .ifCond .ge 14, 3), (10, .iload_n 2, 1), (11, .iload_n 1, 1), (12, .imul, 1), (13, .iload_n 0, 1), (14, .if_icmp .eq 7, 3), (17, .iload_n 2, 1), (18, .iconst 1, 1), (19, .isub, 1), (20, .ireturn, 1), (21, .iload_n 2, 1), (22, .ireturn, 1)]
theorem ttJ9_floorDiv_7cf53 : zdt cJ9_floorDiv_7cf53 tJ9_floorDiv_7cf53 = true := by decide +kernel

abbrev tJ6_bitCount_0f7a4 : List (Nat × Instr × Nat) := [(0, .iload_n 0, 1), (1, .iload_n 0, 1), (2, .iconst 1, 1), (3, .iushr, 1), (4, .ldc_w 265, 3), (7, .iand, 1), (8, .isub, 1), (9, .istore_n 0, 1), (10, .iload_n 0, 1), (11, .ldc_w 266, 3), (14, .iand, 1), (15, .iload_n 0, 1), (16, .iconst 2, 1), (17, .iushr, 1), (18, .ldc_w 266, 3), (21, .iand, 1), (22, .iadd, 1), (23, .istore_n 0, 1), (24, .iload_n 0, 1), (25, .iload_n 0, 1), (26, .iconst 4, 1), (27, .iushr, 1), (28, .iadd, 1), (29, .ldc_w 267, 3), (32, .iand, 1), (33, .istore_n 0, 1), (34, .iload_n 0, 1), (35, .iload_n 0, 1), (36, .bipush 8, 2), (38, .iushr, 1), (39, .iadd, 1), (40, .istore_n 0, 1), (41, .iload_n 0, 1), (42, .iload_n 0, 1), (43, .bipush 16, 2), (45, .iushr, 1), (46, .iadd, 1), (47, .istore_n 0, 1), (48, .iload_n 0, 1), (49, .bipush 63, 2), (51, .iand, 1), (52, .ireturn, 1)]
theorem ttJ6_bitCount_0f7a4 : zdt cJ6_bitCount_0f7a4 tJ6_bitCount_0f7a4 = true := by decide +kernel

abbrev tJ7_rangeCheck_23922 : List (Nat × Instr × Nat) := [(0, .iload_n 1, 1), (1, .iload_n 2, 1), (2, .if_icmp .le 44, 3), (5, .new 43, 3), (8, .dup, 1), (9, .new 45, 3), (12, .dup, 1), (13, .invokespecial 47, 3), (16, .ldc 48, 2), (18, .invokevirtual 50, 3), (21, .iload_n 1, 1), (22, .invokevirtual 54, 3), (25, .ldc 57, 2), (27, .invokevirtual 50, 3), (30, .iload_n 2, 1), (31, .invokevirtual 54, 3), (34, .ldc 59, 2), (36, .invokevirtual 50, 3), (39, .invokevirtual 61, 3), (42, .invokespecial 65, 3), (45, .athrow, 1), (46, .iload_n 1, 1), (47, .ifCond .ge 12, 3), (50, .new 68, 3), (53, .dup, 1), (54, .iload_n 1, 1), (55, .invokespecial 70, 3), (58, .athrow, 1), (59, .iload_n 2, 1), (60, .iload_n 0, 1), (61, .if_icmp .le 12, 3), (64, .new 68, 3), (67, .dup, 1), (68, .iload_n 2, 1), (69, .invokespecial 70, 3), (72, .athrow, 1), (73, .return_, 1)]
theorem ttJ7_rangeCheck_23922 : zdt cJ7_rangeCheck_23922 tJ7_rangeCheck_23922 = true := by decide +kernel

abbrev tJ7_fill_53178 : List (Nat × Instr × Nat) := [(0, .iconst 0, 1), (1, .istore_n 2, 1), (2, .aload_n 0, 1), (3, .arraylength, 1), (4, .istore_n 3, 1), (5, .iload_n 2, 1), (6, .iload_n 3, 1), (7, .if_icmp .ge 13, 3), (10, .aload_n 0, 1), (11, .iload_n 2, 1), (12, .iload_n 1, 1), (13, .iastore, 1), (14, .iinc 2 1, 3), (17, .goto (-12), 3), (20, .return_, 1)]
theorem ttJ7_fill_53178 : zdt cJ7_fill_53178 tJ7_fill_53178 = true := by decide +kernel

abbrev tJ7_fill_fda19 : List (Nat × Instr × Nat) := [(0, .aload_n 0, 1), (1, .arraylength, 1), (2, .iload_n 1, 1), (3, .iload_n 2, 1), (4, .invokestatic 13, 3), (7, .iload_n 1, 1), (8, .istore 4, 2), (10, .iload 4, 2), (12, .iload_n 2, 1), (13, .if_icmp .ge 14, 3), (16, .aload_n 0, 1), (17, .iload 4, 2), (19, .iload_n 3, 1), (20, .iastore, 1), (21, .iinc 4 1, 3), (24, .goto (-14), 3), (27, .return_, 1)]
theorem ttJ7_fill_fda19 : zdt cJ7_fill_fda19 tJ7_fill_fda19 = true := by decide +kernel

theorem zxor_sg {x y : Int} (hx : zin x) (hy : 0 ≤ y ∧ y ≤ 2147483647) : zxor x y < 0 ↔ x < 0 := by
  have key : ∀ z : Int32, z.toInt < 0 ↔ z.toBitVec.msb = true := fun z => by
    show z.toBitVec.toInt < 0 ↔ _
    rw [BitVec.msb_eq_toInt]; simp
  have h1 := key (Int32.ofInt x)
  have h2 := key (Int32.ofInt y)
  rw [zin_i hx] at h1
  rw [zin_i (by omega)] at h2
  show (zxor_ (Int32.ofInt x) (Int32.ofInt y)).toInt < 0 ↔ _
  rw [key]
  show (Int32.ofInt x ^^^ Int32.ofInt y).toBitVec.msb = true ↔ _
  rw [Int32.toBitVec_xor, BitVec.msb_xor, h1]
  have h3 : (Int32.ofInt y).toBitVec.msb = false := by
    cases hb : (Int32.ofInt y).toBitVec.msb
    · rfl
    · have := h2.mpr hb; omega
  rw [h3, Bool.xor_false]
theorem zneg_em {x y : Int} (hx : x < 0) (hy : 0 < y) : (x.tmod y = 0 → x % y = 0 ∧ x / y = x.tdiv y) ∧ (¬ x.tmod y = 0 → x % y = x.tmod y + y ∧ x / y = x.tdiv y - 1) := by
  have h1 := Int.mul_tdiv_add_tmod x y
  have h2 := (ztm_b x y (by omega)).1 hy
  have h3 := (ztm_b x y (by omega)).2.2.2 (by omega)
  refine ⟨fun q => ?_, fun q => ?_⟩
  · have := (Int.ediv_emod_unique hy (a := x) (q := x.tdiv y) (r := 0)).mpr ⟨by omega, by omega, by omega⟩
    exact ⟨this.2, this.1⟩
  · have e : y * (x.tdiv y - 1) = y * x.tdiv y - y := by rw [Int.mul_sub, Int.mul_one]
    have := (Int.ediv_emod_unique hy (a := x) (q := x.tdiv y - 1) (r := x.tmod y + y)).mpr ⟨by rw [e]; omega, by omega, by omega⟩
    exact ⟨this.2, this.1⟩
theorem s_J9_floorMod_7cf53 (sh : zSh) (l : Launch) (h : zM) (x y : Int) (hx : zin x) (hy : 0 < y ∧ y ≤ 2147483647) : zT sh l yJ9_floorMod_7cf53 cJ9_floorMod_7cf53 3 (some .int) (rmL 0) 0 0 [.inl x, .inl y] h (zqi fun v h' => h = h' ∧ v = x % y) := by
  refine zT_of (by decide +kernel) (L0 := [some (.inl x), some (.inl y), none]) rfl (Nat.le_of_ble_eq_true rfl) ?_
  refine zj_iload_n (zdk ttJ9_floorMod_7cf53 0 rfl rfl) rfl ?_
  refine zj_iload_n (zdk ttJ9_floorMod_7cf53 1 rfl rfl) rfl ?_
  refine zj_irem (zdk ttJ9_floorMod_7cf53 2 rfl rfl) hx (by omega) (by omega) ?_
  have hm := ztm_b x y (by omega)
  refine zj_istore_n (L' := [some (.inl x), some (.inl y), some (.inl (x.tmod y))]) (zdk ttJ9_floorMod_7cf53 3 rfl rfl) (by decide) rfl ?_
  refine zj_iload_n (zdk ttJ9_floorMod_7cf53 4 rfl rfl) rfl ?_
  refine zj_iload_n (zdk ttJ9_floorMod_7cf53 5 rfl rfl) rfl ?_
  refine zj_ixor (zdk ttJ9_floorMod_7cf53 6 rfl rfl) ?_
  have hs := zxor_sg hx (y := y) (by omega)
  refine zj_if_ge (t := 18) (zdk ttJ9_floorMod_7cf53 7 rfl rfl) (by decide) (zxor_in x y) (fun c => ?_) (fun c => ?_)
  · refine zj_iload_n (zdk ttJ9_floorMod_7cf53 14 rfl rfl) rfl ?_
    exact zj_iret rfl (zdk ttJ9_floorMod_7cf53 15 rfl rfl) (Nat.le_refl _) (Nat.le_refl _) ⟨x.tmod y, rfl, rfl, Int.tmod_eq_emod_of_nonneg (by omega)⟩
  · have hn := zneg_em (x := x) (y := y) (by omega) (by omega)
    refine zj_iload_n (zdk ttJ9_floorMod_7cf53 8 rfl rfl) rfl ?_
    refine zj_if_eq (t := 18) (zdk ttJ9_floorMod_7cf53 9 rfl rfl) (by decide) (by omega) (fun c2 => ?_) (fun c2 => ?_)
    · refine zj_iload_n (zdk ttJ9_floorMod_7cf53 14 rfl rfl) rfl ?_
      exact zj_iret rfl (zdk ttJ9_floorMod_7cf53 15 rfl rfl) (Nat.le_refl _) (Nat.le_refl _) ⟨x.tmod y, rfl, rfl, by rw [(hn.1 c2).1, c2]⟩
    · refine zj_iload_n (zdk ttJ9_floorMod_7cf53 10 rfl rfl) rfl ?_
      refine zj_iload_n (zdk ttJ9_floorMod_7cf53 11 rfl rfl) rfl ?_
      refine zj_iadd (zdk ttJ9_floorMod_7cf53 12 rfl rfl) ?_
      exact zj_iret rfl (zdk ttJ9_floorMod_7cf53 13 rfl rfl) (Nat.le_refl _) (Nat.le_refl _) ⟨x.tmod y + y, rfl, rfl, (hn.2 c2).1.symm⟩
theorem s_J9_floorDiv_7cf53 (sh : zSh) (l : Launch) (h : zM) (x y : Int) (hx : zin x) (hy : 0 < y ∧ y ≤ 2147483647) : zT sh l yJ9_floorDiv_7cf53 cJ9_floorDiv_7cf53 3 (some .int) (rmL 0) 0 0 [.inl x, .inl y] h (zqi fun v h' => h = h' ∧ v = x / y) := by
  refine zT_of (by decide +kernel) (L0 := [some (.inl x), some (.inl y), none]) rfl (Nat.le_of_ble_eq_true rfl) ?_
  refine zj_iload_n (zdk ttJ9_floorDiv_7cf53 0 rfl rfl) rfl ?_
  refine zj_iload_n (zdk ttJ9_floorDiv_7cf53 1 rfl rfl) rfl ?_
  refine zj_idiv (zdk ttJ9_floorDiv_7cf53 2 rfl rfl) hx (by omega) (by omega) ?_
  have hm := ztm_b x y (by omega)
  have ht := ztd_b x y
  have hp := Int.mul_tdiv_add_tmod x y
  refine zj_istore_n (L' := [some (.inl x), some (.inl y), some (.inl (x.tdiv y))]) (zdk ttJ9_floorDiv_7cf53 3 rfl rfl) (by decide) rfl ?_
  refine zj_iload_n (zdk ttJ9_floorDiv_7cf53 4 rfl rfl) rfl ?_
  refine zj_iload_n (zdk ttJ9_floorDiv_7cf53 5 rfl rfl) rfl ?_
  refine zj_ixor (zdk ttJ9_floorDiv_7cf53 6 rfl rfl) ?_
  have hs := zxor_sg hx (y := y) (by omega)
  refine zj_if_ge (t := 21) (zdk ttJ9_floorDiv_7cf53 7 rfl rfl) (by decide) (zxor_in x y) (fun c => ?_) (fun c => ?_)
  · refine zj_iload_n (zdk ttJ9_floorDiv_7cf53 17 rfl rfl) rfl ?_
    exact zj_iret rfl (zdk ttJ9_floorDiv_7cf53 18 rfl rfl) (Nat.le_refl _) (Nat.le_refl _) ⟨x.tdiv y, rfl, rfl, Int.tdiv_eq_ediv_of_nonneg (by omega)⟩
  · have hn := zneg_em (x := x) (y := y) (by omega) (by omega)
    refine zj_iload_n (zdk ttJ9_floorDiv_7cf53 8 rfl rfl) rfl ?_
    refine zj_iload_n (zdk ttJ9_floorDiv_7cf53 9 rfl rfl) rfl ?_
    refine zj_imul (zdk ttJ9_floorDiv_7cf53 10 rfl rfl) ?_
    refine zj_iload_n (zdk ttJ9_floorDiv_7cf53 11 rfl rfl) rfl ?_
    rw [Int.mul_comm] at hp
    refine zj_icmp_eq (t := 21) (zdk ttJ9_floorDiv_7cf53 12 rfl rfl) (by decide) (by omega) hx (fun c2 => ?_) (fun c2 => ?_)
    · refine zj_iload_n (zdk ttJ9_floorDiv_7cf53 17 rfl rfl) rfl ?_
      exact zj_iret rfl (zdk ttJ9_floorDiv_7cf53 18 rfl rfl) (Nat.le_refl _) (Nat.le_refl _) ⟨x.tdiv y, rfl, rfl, (hn.1 (by omega)).2.symm⟩
    · refine zj_iload_n (zdk ttJ9_floorDiv_7cf53 13 rfl rfl) rfl ?_
      refine zj_iconst (zdk ttJ9_floorDiv_7cf53 14 rfl rfl) ?_
      refine zj_isub (zdk ttJ9_floorDiv_7cf53 15 rfl rfl) ?_
      exact zj_iret rfl (zdk ttJ9_floorDiv_7cf53 16 rfl rfl) (Nat.le_refl _) (Nat.le_refl _) ⟨x.tdiv y - 1, rfl, rfl, (hn.2 (by omega)).2.symm⟩
theorem s_J7_rangeCheck_23922 (sh : zSh) (l : Launch) (h : zM) (n a b : Int) (hn : zin n) (ha : 0 ≤ a ∧ a ≤ b) (hb : b ≤ n) : zT sh l yJ7_rangeCheck_23922 cJ7_rangeCheck_23922 3 none (rmL 0) 0 0 [.inl n, .inl a, .inl b] h (zqv fun h' => h' = h) := by
  refine zT_of (by decide +kernel) (L0 := [some (.inl n), some (.inl a), some (.inl b)]) rfl (Nat.le_of_ble_eq_true rfl) ?_
  refine zj_iload_n (zdk ttJ7_rangeCheck_23922 0 rfl rfl) rfl ?_
  refine zj_iload_n (zdk ttJ7_rangeCheck_23922 1 rfl rfl) rfl ?_
  refine zj_icmp_le (t := 46) (zdk ttJ7_rangeCheck_23922 2 rfl rfl) (by decide) (by omega) (by omega) (fun c => ?_) (fun c => absurd ha.2 c)
  refine zj_iload_n (zdk ttJ7_rangeCheck_23922 21 rfl rfl) rfl ?_
  refine zj_if_ge (t := 59) (zdk ttJ7_rangeCheck_23922 22 rfl rfl) (by decide) (by omega) (fun c => ?_) (fun c => absurd ha.1 c)
  refine zj_iload_n (zdk ttJ7_rangeCheck_23922 28 rfl rfl) rfl ?_
  refine zj_iload_n (zdk ttJ7_rangeCheck_23922 29 rfl rfl) rfl ?_
  refine zj_icmp_le (t := 73) (zdk ttJ7_rangeCheck_23922 30 rfl rfl) (by decide) (by omega) (by omega) (fun c => ?_) (fun c => absurd hb c)
  exact zj_vret rfl (zdk ttJ7_rangeCheck_23922 36 rfl rfl) (Nat.le_refl _) (Nat.le_refl _) ⟨rfl, rfl⟩
def zfill (h : zM) (c a b v : Int) : zM := (h.1, fun x y => if x = c ∧ a ≤ y ∧ y < b then v else h.2 x y)
theorem zfill_0 (h : zM) (c a v : Int) : zfill h c a a v = h := by
  unfold zfill
  have : (fun x y => if x = c ∧ a ≤ y ∧ y < a then v else h.2 x y) = h.2 := by
    funext x y
    rw [if_neg (by omega)]
  rw [this]
theorem zfill_s {h : zM} {c a i v : Int} (hi : a ≤ i) : zwr (zfill h c a i v) c i v = zfill h c a (i + 1) v := by
  unfold zfill zwr
  congr 1
  funext x y
  dsimp only
  by_cases q : x = c ∧ y = i
  · rw [if_pos q, if_pos (by omega)]
  · rw [if_neg q]
    by_cases q2 : x = c ∧ a ≤ y ∧ y < i
    · rw [if_pos q2, if_pos (by omega)]
    · rw [if_neg q2, if_neg (by omega)]
theorem s_J7_fill_fda19 (sh : zSh) (l : Launch) (h : zM) (c0 a b v : Int) {N : Nat} (hs : sh c0 = .inr (0, N) ∧ 0 ≤ c0 ∧ c0 < h.1) (hN : N < 2147483648) (ha : 0 ≤ a ∧ a ≤ b) (hb : b ≤ N) : zT sh l yJ7_fill_fda19 cJ7_fill_fda19 5 none (rmL 1) 0 0 [.inr c0, .inl a, .inl b, .inl v] h (zqv fun h' => h' = zfill h c0 a b v) := by
  refine zT_of (by decide +kernel) (L0 := [some (.inr c0), some (.inl a), some (.inl b), some (.inl v), none]) rfl (Nat.le_of_ble_eq_true rfl) ?_
  refine zj_aload_n (zdk ttJ7_fill_fda19 0 rfl rfl) rfl (by omega) ?_
  refine zj_alen (zdk ttJ7_fill_fda19 1 rfl rfl) hs ?_
  refine zj_iload_n (zdk ttJ7_fill_fda19 2 rfl rfl) rfl ?_
  refine zj_iload_n (zdk ttJ7_fill_fda19 3 rfl rfl) rfl ?_
  refine zj_callS (av := [.inl N, .inl a, .inl b]) (st := []) (zdk ttJ7_fill_fda19 4 rfl rfl) mb_J7_rangeCheck_23922 ms_RJ7_13 rfl rfl (Nat.le_of_ble_eq_true rfl) (s_J7_rangeCheck_23922 sh l h N a b (by omega) ha hb) (rm_ok (by decide) (by decide)) (zq_v fun h1 q => ?_)
  subst q
  refine zj_iload_n (zdk ttJ7_fill_fda19 5 rfl rfl) rfl ?_
  refine zj_istore (L' := [some (.inr c0), some (.inl a), some (.inl b), some (.inl v), some (.inl a)]) (zdk ttJ7_fill_fda19 6 rfl rfl) (by decide) rfl ?_
  have lp : ∀ (n : Nat) (i : Int) (g : zM), a ≤ i ∧ i ≤ b → g = zfill h1 c0 a i v → (b - i).toNat < n → zJ sh l yJ7_fill_fda19 cJ7_fill_fda19 5 none (rmL 1) 0 0 (zqv fun h' => h' = zfill h1 c0 a b v) 0 0 10 [some (.inr c0), some (.inl a), some (.inl b), some (.inl v), some (.inl i)] [] g := by
    intro n
    induction n with
    | zero => intro i g q1 q2 q3; exact absurd q3 (Nat.not_lt_zero _)
    | succ n ih =>
      intro i g q1 q2 q3
      have hg : g.1 = h1.1 := by rw [q2]; rfl
      refine zj_iload (zdk ttJ7_fill_fda19 7 rfl rfl) rfl ?_
      refine zj_iload_n (zdk ttJ7_fill_fda19 8 rfl rfl) rfl ?_
      refine zj_icmp_ge (t := 27) (zdk ttJ7_fill_fda19 9 rfl rfl) (by decide) (by omega) (by omega) (fun c => ?_) (fun c => ?_)
      · exact zj_vret rfl (zdk ttJ7_fill_fda19 16 rfl rfl) (Nat.le_refl _) (Nat.le_refl _) ⟨rfl, by rw [q2]; congr 1; omega⟩
      · refine zj_aload_n (zdk ttJ7_fill_fda19 10 rfl rfl) rfl (by omega) ?_
        refine zj_iload (zdk ttJ7_fill_fda19 11 rfl rfl) rfl ?_
        refine zj_iload_n (zdk ttJ7_fill_fda19 12 rfl rfl) rfl ?_
        refine zj_iast (zdk ttJ7_fill_fda19 13 rfl rfl) ⟨hs.1, hs.2.1, by rw [hg]; exact hs.2.2⟩ hN (by omega) (fun g2 e => ?_)
        refine zj_iinc (L' := [some (.inr c0), some (.inl a), some (.inl b), some (.inl v), some (.inl (i + 1))]) (zdk ttJ7_fill_fda19 14 rfl rfl) rfl (by decide) rfl ?_
        refine zj_goto (t := 10) (zdk ttJ7_fill_fda19 15 rfl rfl) (by decide) ?_
        exact ih (i + 1) g2 (by omega) (by rw [e, q2, zfill_s q1.1]) (by omega)
  exact lp _ a h1 (by omega) (zfill_0 h1 c0 a v).symm (Nat.lt_succ_self _)
theorem s_J7_fill_53178 (sh : zSh) (l : Launch) (h : zM) (c0 v : Int) {N : Nat} (hs : sh c0 = .inr (0, N) ∧ 0 ≤ c0 ∧ c0 < h.1) (hN : N < 2147483648) : zT sh l yJ7_fill_53178 cJ7_fill_53178 4 none (rmL 0) 0 0 [.inr c0, .inl v] h (zqv fun h' => h' = zfill h c0 0 N v) := by
  refine zT_of (by decide +kernel) (L0 := [some (.inr c0), some (.inl v), none, none]) rfl (Nat.le_of_ble_eq_true rfl) ?_
  refine zj_iconst (zdk ttJ7_fill_53178 0 rfl rfl) ?_
  refine zj_istore_n (L' := [some (.inr c0), some (.inl v), some (.inl 0), none]) (zdk ttJ7_fill_53178 1 rfl rfl) (by decide) rfl ?_
  refine zj_aload_n (zdk ttJ7_fill_53178 2 rfl rfl) rfl (by omega) ?_
  refine zj_alen (zdk ttJ7_fill_53178 3 rfl rfl) hs ?_
  refine zj_istore_n (L' := [some (.inr c0), some (.inl v), some (.inl 0), some (.inl N)]) (zdk ttJ7_fill_53178 4 rfl rfl) (by decide) rfl ?_
  have lp : ∀ (n : Nat) (i : Int) (g : zM), 0 ≤ i ∧ i ≤ N → g = zfill h c0 0 i v → (N - i).toNat < n → zJ sh l yJ7_fill_53178 cJ7_fill_53178 4 none (rmL 0) 0 0 (zqv fun h' => h' = zfill h c0 0 N v) 0 0 5 [some (.inr c0), some (.inl v), some (.inl i), some (.inl N)] [] g := by
    intro n
    induction n with
    | zero => intro i g q1 q2 q3; exact absurd q3 (Nat.not_lt_zero _)
    | succ n ih =>
      intro i g q1 q2 q3
      have hg : g.1 = h.1 := by rw [q2]; rfl
      refine zj_iload_n (zdk ttJ7_fill_53178 5 rfl rfl) rfl ?_
      refine zj_iload_n (zdk ttJ7_fill_53178 6 rfl rfl) rfl ?_
      refine zj_icmp_ge (t := 20) (zdk ttJ7_fill_53178 7 rfl rfl) (by decide) (by omega) (by omega) (fun c => ?_) (fun c => ?_)
      · exact zj_vret rfl (zdk ttJ7_fill_53178 14 rfl rfl) (Nat.le_refl _) (Nat.le_refl _) ⟨rfl, by rw [q2]; congr 1; omega⟩
      · refine zj_aload_n (zdk ttJ7_fill_53178 8 rfl rfl) rfl (by omega) ?_
        refine zj_iload_n (zdk ttJ7_fill_53178 9 rfl rfl) rfl ?_
        refine zj_iload_n (zdk ttJ7_fill_53178 10 rfl rfl) rfl ?_
        refine zj_iast (zdk ttJ7_fill_53178 11 rfl rfl) ⟨hs.1, hs.2.1, by rw [hg]; exact hs.2.2⟩ hN (by omega) (fun g2 e => ?_)
        refine zj_iinc (L' := [some (.inr c0), some (.inl v), some (.inl (i + 1)), some (.inl N)]) (zdk ttJ7_fill_53178 12 rfl rfl) rfl (by decide) rfl ?_
        refine zj_goto (t := 5) (zdk ttJ7_fill_53178 13 rfl rfl) (by decide) ?_
        exact ih (i + 1) g2 (by omega) (by rw [e, q2, zfill_s q1.1]) (by omega)
  exact lp _ 0 h (by omega) (zfill_0 h c0 0 v).symm (Nat.lt_succ_self _)
theorem s_J6_bitCount_0f7a4 (sh : zSh) (l : Launch) (h : zM) (x : Int) : zT sh l yJ6_bitCount_0f7a4 cJ6_bitCount_0f7a4 1 (some .int) (rmL 0) 0 0 [.inl x] h (zqi fun v h' => h = h' ∧ 0 ≤ v ∧ v ≤ 63) := by
  refine zT_of (by decide +kernel) (L0 := [some (.inl x)]) rfl (Nat.le_of_ble_eq_true rfl) ?_
  refine zj_iload_n (zdk ttJ6_bitCount_0f7a4 0 rfl rfl) rfl ?_
  refine zj_iload_n (zdk ttJ6_bitCount_0f7a4 1 rfl rfl) rfl ?_
  refine zj_iconst (zdk ttJ6_bitCount_0f7a4 2 rfl rfl) ?_
  refine zj_iushr (zdk ttJ6_bitCount_0f7a4 3 rfl rfl) ?_
  refine zj_ldc_w (z := 1431655765) (zdk ttJ6_bitCount_0f7a4 4 rfl rfl) wc_RJ6_265 ?_
  refine zj_iand (zdk ttJ6_bitCount_0f7a4 5 rfl rfl) ?_
  refine zj_isub (zdk ttJ6_bitCount_0f7a4 6 rfl rfl) ?_
  refine zj_istore_n (L' := [some (.inl (x - (zand (zushr x 1) 1431655765)))]) (zdk ttJ6_bitCount_0f7a4 7 rfl rfl) (by decide) rfl ?_
  generalize (x - (zand (zushr x 1) 1431655765)) = x8
  refine zj_iload_n (zdk ttJ6_bitCount_0f7a4 8 rfl rfl) rfl ?_
  refine zj_ldc_w (z := 858993459) (zdk ttJ6_bitCount_0f7a4 9 rfl rfl) wc_RJ6_266 ?_
  refine zj_iand (zdk ttJ6_bitCount_0f7a4 10 rfl rfl) ?_
  refine zj_iload_n (zdk ttJ6_bitCount_0f7a4 11 rfl rfl) rfl ?_
  refine zj_iconst (zdk ttJ6_bitCount_0f7a4 12 rfl rfl) ?_
  refine zj_iushr (zdk ttJ6_bitCount_0f7a4 13 rfl rfl) ?_
  refine zj_ldc_w (z := 858993459) (zdk ttJ6_bitCount_0f7a4 14 rfl rfl) wc_RJ6_266 ?_
  refine zj_iand (zdk ttJ6_bitCount_0f7a4 15 rfl rfl) ?_
  refine zj_iadd (zdk ttJ6_bitCount_0f7a4 16 rfl rfl) ?_
  refine zj_istore_n (L' := [some (.inl ((zand x8 858993459) + (zand (zushr x8 2) 858993459)))]) (zdk ttJ6_bitCount_0f7a4 17 rfl rfl) (by decide) rfl ?_
  generalize ((zand x8 858993459) + (zand (zushr x8 2) 858993459)) = x19
  refine zj_iload_n (zdk ttJ6_bitCount_0f7a4 18 rfl rfl) rfl ?_
  refine zj_iload_n (zdk ttJ6_bitCount_0f7a4 19 rfl rfl) rfl ?_
  refine zj_iconst (zdk ttJ6_bitCount_0f7a4 20 rfl rfl) ?_
  refine zj_iushr (zdk ttJ6_bitCount_0f7a4 21 rfl rfl) ?_
  refine zj_iadd (zdk ttJ6_bitCount_0f7a4 22 rfl rfl) ?_
  refine zj_ldc_w (z := 252645135) (zdk ttJ6_bitCount_0f7a4 23 rfl rfl) wc_RJ6_267 ?_
  refine zj_iand (zdk ttJ6_bitCount_0f7a4 24 rfl rfl) ?_
  refine zj_istore_n (L' := [some (.inl (zand (x19 + (zushr x19 4)) 252645135))]) (zdk ttJ6_bitCount_0f7a4 25 rfl rfl) (by decide) rfl ?_
  generalize (zand (x19 + (zushr x19 4)) 252645135) = x28
  refine zj_iload_n (zdk ttJ6_bitCount_0f7a4 26 rfl rfl) rfl ?_
  refine zj_iload_n (zdk ttJ6_bitCount_0f7a4 27 rfl rfl) rfl ?_
  refine zj_bipush (zdk ttJ6_bitCount_0f7a4 28 rfl rfl) (by decide) ?_
  refine zj_iushr (zdk ttJ6_bitCount_0f7a4 29 rfl rfl) ?_
  refine zj_iadd (zdk ttJ6_bitCount_0f7a4 30 rfl rfl) ?_
  refine zj_istore_n (L' := [some (.inl (x28 + (zushr x28 8)))]) (zdk ttJ6_bitCount_0f7a4 31 rfl rfl) (by decide) rfl ?_
  generalize (x28 + (zushr x28 8)) = x35
  refine zj_iload_n (zdk ttJ6_bitCount_0f7a4 32 rfl rfl) rfl ?_
  refine zj_iload_n (zdk ttJ6_bitCount_0f7a4 33 rfl rfl) rfl ?_
  refine zj_bipush (zdk ttJ6_bitCount_0f7a4 34 rfl rfl) (by decide) ?_
  refine zj_iushr (zdk ttJ6_bitCount_0f7a4 35 rfl rfl) ?_
  refine zj_iadd (zdk ttJ6_bitCount_0f7a4 36 rfl rfl) ?_
  refine zj_istore_n (L' := [some (.inl (x35 + (zushr x35 16)))]) (zdk ttJ6_bitCount_0f7a4 37 rfl rfl) (by decide) rfl ?_
  generalize (x35 + (zushr x35 16)) = x42
  refine zj_iload_n (zdk ttJ6_bitCount_0f7a4 38 rfl rfl) rfl ?_
  refine zj_bipush (zdk ttJ6_bitCount_0f7a4 39 rfl rfl) (by decide) ?_
  refine zj_iand (zdk ttJ6_bitCount_0f7a4 40 rfl rfl) ?_
  exact zj_iret rfl (zdk ttJ6_bitCount_0f7a4 41 rfl rfl) (Nat.le_refl _) (Nat.le_refl _) ⟨(zand x42 63), rfl, rfl, by have := zand_m (d := 64) 6 (by decide) (c := 63) (by decide) (by decide) x42; omega⟩
