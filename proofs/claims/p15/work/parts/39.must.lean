theorem wa_int : Cond.arrayClass .int ∈ zt := zt_a1 111 rfl rfl
theorem wa_bool : Cond.arrayClass .boolean ∈ zt := zt_a2 29 rfl rfl
theorem k140 {h : zM} (s : okC h) (e : h.2 0 10 = 140) : shC 140 = .inr (0, 10000) ∧ (0 : Int) ≤ 140 ∧ (140 : Int) < h.1 := by
  refine ⟨by unfold shC; rw [kka_140]; rfl, by decide, ?_⟩
  rcases s.2.2.2 with q | q
  · omega
  · rw [q.2]; decide
def rmS (d : Nat) : Room := { frames := d, cells := 1, slots := 10000, locals := 80 * d }
theorem rm_okS {d d' nL : Nat} (h1 : d' < d) (h2 : nL ≤ 50) : zRm (rmS d) (rmL d') nL 1 10000 0 0 := ⟨rfl, rfl, ⟨h1, by show 8 + (nL + 11) + 80 * d' ≤ 80 * d; omega⟩, Nat.le_refl _, Nat.le_refl _⟩
theorem rm_okS0 {d d' nL : Nat} (h1 : d' < d) (h2 : nL ≤ 50) : zRm (rmS d) (rmL d') nL 0 0 0 0 := ⟨rfl, rfl, ⟨h1, by show 8 + (nL + 11) + 80 * d' ≤ 80 * d; omega⟩, Nat.zero_le _, Nat.zero_le _⟩
theorem rm_okS1 {d d' nL : Nat} (h1 : d' < d) (h2 : nL ≤ 50) : zRm (rmS d) (rmS d') nL 0 0 1 10000 := ⟨rfl, rfl, ⟨h1, by show 8 + (nL + 11) + 80 * d' ≤ 80 * d; omega⟩, Nat.le_refl _, Nat.le_refl _⟩
theorem rm_mS {d : Nat} (h : 1 ≤ d) : (1 ≤ (rmS d).frames ∧ 40 ≤ (rmS d).locals) ∧ 1 ≤ (rmS d).cells ∧ 10000 ≤ (rmS d).slots := ⟨⟨h, by show 40 ≤ 80 * d; omega⟩, Nat.le_refl _, Nat.le_refl _⟩
/-- the row of sums is made -/
theorem okC_new {h h1 h2 : zM} (s : okC h) (e0 : h.2 0 10 = -1) (e1 : h1 = znew h (fun _ => 0)) (e2 : h2 = zwr h1 0 10 140) : okC h2 ∧ h2.2 0 10 = 140 := by
  have hn : h.1 = 140 := by rcases s.2.2.2 with q | q; exact q.2; omega
  have hnc : (h.1 : Int) = 140 := by omega
  have e3 : ∀ a b, ¬ a = 140 → h1.2 a b = h.2 a b := fun a b q => by rw [e1, znew_n (by omega)]
  have e4 : ∀ b, h1.2 140 b = 0 := fun b => by rw [e1, ← hnc]; exact znew_s
  have e5 : h1.1 = 141 := by rw [e1]; show h.1 + 1 = 141; omega
  subst e2
  refine ⟨⟨by show 140 ≤ h1.1; omega, fun a b => ?_, fun b q1 q2 => ?_, Or.inr ⟨zwr_s _ _ _ _, e5⟩⟩, zwr_s _ _ _ _⟩
  · by_cases q : a = 0 ∧ b = 10
    · rw [q.1, q.2, zwr_s]
      exact PC_k (kk_L0) (show (-1 : Int) ≤ 140 ∧ (140 : Int) ≤ 140 by decide)
    · rw [zwr_n q]
      by_cases q2 : a = 140
      · rw [q2, e4]; exact pa_140 (by decide) b
      · rw [e3 a b q2]; exact s.2.1 a b
  · rw [zwr_n (by omega), e3 114 b (by decide)]; exact s.2.2.1 b q1 q2
theorem zfC_new {h h1 h2 : zM} {W : Int → Int → Prop} (s : okC h) (e0 : h.2 0 10 = -1) (e1 : h1 = znew h (fun _ => 0)) (e2 : h2 = zwr h1 0 10 140) (w1 : W 0 10) (w2 : ∀ j, W 140 j) : zfC W h h2 := by
  have hn : h.1 = 140 := by rcases s.2.2.2 with q | q; exact q.2; omega
  intro a b z
  rw [e2, zwr_n (fun w => z (by rw [w.1, w.2]; exact w1)), e1]
  exact znew_n (fun w => z (by rw [show a = 140 by omega]; exact w2 b))
abbrev tX10_addToSums : List (Nat × Instr × Nat) := [(0, .iload_n 2, 1), (1, .istore 4, 2), (3, .iload 4, 2), (5, .iload_n 1, 1), (6, .if_icmp .lt 48, 3), (9, .aload_n 0, 1), (10, .getfield 63, 3), (13, .iload 4, 2), (15, .iload_n 1, 1), (16, .isub, 1), (17, .iaload, 1), (18, .istore 5, 2), (20, .iload 5, 2), (22, .ldc 252, 2), (24, .if_icmp .eq 24, 3), (27, .aload_n 0, 1), (28, .getfield 63, 3), (31, .iload 4, 2), (33, .aload_n 0, 1), (34, .getfield 63, 3), (37, .iload 4, 2), (39, .iaload, 1), (40, .iload 5, 2), (42, .iload_n 3, 1), (43, .iadd, 1), (44, .invokestatic 348, 3), (47, .iastore, 1), (48, .iinc 4 (-1), 3), (51, .goto (-48), 3), (54, .return_, 1)]
theorem ttX10_addToSums : zdt cX10_addToSums tX10_addToSums = true := by decide +kernel
abbrev w_X10_addToSums (a b : Int) : Prop := a = 140
abbrev tX10_fewestWinding : List (Nat × Instr × Nat) := [(0, .aload_n 0, 1), (1, .getfield 63, 3), (4, .ifnonnull 12, 3), (7, .aload_n 0, 1), (8, .sipush 10000, 3), (11, .newarray .int, 2), (13, .putfield 63, 3), (16, .aload_n 0, 1), (17, .getfield 63, 3), (20, .iconst 0, 1), (21, .iload_n 1, 1), (22, .iconst 1, 1), (23, .iadd, 1), (24, .ldc 252, 2), (26, .invokestatic 342, 3), (29, .aload_n 0, 1), (30, .getfield 63, 3), (33, .iconst 0, 1), (34, .iconst 0, 1), (35, .iastore, 1), (36, .aload_n 0, 1), (37, .getfield 10, 3), (40, .getfield 67, 3), (43, .astore_n 2, 1), (44, .iconst 0, 1), (45, .istore_n 3, 1), (46, .iconst 0, 1), (47, .istore 4, 2), (49, .iload 4, 2), (51, .aload_n 2, 1), (52, .getfield 81, 3), (55, .if_icmp .ge 63, 3), (58, .aload_n 2, 1), (59, .iload 4, 2), (61, .invokevirtual 204, 3), (64, .ifCond .eq 16, 3), (67, .aload_n 0, 1), (68, .getfield 10, 3), (71, .iconst 1, 1), (72, .iload 4, 2), (74, .invokevirtual 213, 3), (77, .goto 4, 3), (80, .iconst 0, 1), (81, .istore 5, 2), (83, .iload 5, 2), (85, .ifCond .le 27, 3), (88, .iload_n 1, 1), (89, .iload_n 3, 1), (90, .iload 5, 2), (92, .iadd, 1), (93, .invokestatic 348, 3), (96, .istore_n 3, 1), (97, .aload_n 0, 1), (98, .iload 5, 2), (100, .iload_n 3, 1), (101, .ldc_w 353, 3), (104, .iconst 1, 1), (105, .iload 4, 2), (107, .ishl, 1), (108, .iadd, 1), (109, .invokevirtual 354, 3), (112, .iinc 4 1, 3), (115, .goto (-66), 3), (118, .aload_n 0, 1), (119, .getfield 63, 3), (122, .iload_n 1, 1), (123, .iaload, 1), (124, .ireturn, 1)]
theorem ttX10_fewestWinding : zdt cX10_fewestWinding tX10_fewestWinding = true := by decide +kernel
abbrev w_X10_fewestWinding (a b : Int) : Prop := (a = 0 ∧ b = 10) ∨ a = 12 ∨ a = 140
abbrev w_X10_fewestWindingt (a b : Int) : Prop := a = 12 ∨ a = 140
abbrev tX10_must : List (Nat × Instr × Nat) := [(0, .iload_n 1, 1), (1, .iconst 0, 1), (2, .sipush 9999, 3), (5, .invokestatic 77, 3), (8, .ifCond .eq 12, 3), (11, .iload_n 2, 1), (12, .iconst 0, 1), (13, .iconst 1, 1), (14, .invokestatic 77, 3), (17, .ifCond .ne 5, 3), (20, .iconst (-1), 1), (21, .ireturn, 1), (22, .aload_n 0, 1), (23, .iload_n 1, 1), (24, .invokevirtual 249, 3), (27, .istore_n 3, 1), (28, .iload_n 3, 1), (29, .ldc 252, 2), (31, .if_icmp .ne 5, 3), (34, .iconst (-1), 1), (35, .ireturn, 1), (36, .iload_n 2, 1), (37, .ifCond .ne 10, 3), (40, .iload_n 3, 1), (41, .bipush 18, 2), (43, .ishr, 1), (44, .goto 7, 3), (47, .iload_n 3, 1), (48, .ldc 253, 2), (50, .iand, 1), (51, .ireturn, 1)]
theorem ttX10_must : zdt cX10_must tX10_must = true := by decide +kernel
abbrev w_X10_must (a b : Int) : Prop := (a = 0 ∧ b = 10) ∨ a = 12 ∨ a = 140
