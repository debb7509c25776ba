theorem wa_int : Cond.arrayClass .int ∈ zt := zt_a1 111 rfl rfl
theorem wa_bool : Cond.arrayClass .boolean ∈ zt := zt_a2 29 rfl rfl
theorem k140 {h : zM} (s : okC h) (e : h.2 0 10 = 140) : shC 140 = .inr (0, 10000) ∧ (0 : Int) ≤ 140 ∧ (140 : Int) < h.1 := by
  refine ⟨by unfold shC; rw [kka_140]; rfl, by decide, ?_⟩
  rcases s.2.2.2 with q | q
  · omega
  · rw [q.2]; decide
def rmS (d : Nat) : Room := { frames := d, cells := 1, slots := 10000, locals := 80 * d }
theorem rm_okS {d d' nL : Nat} (h1 : d' < d) (h2 : nL ≤ 50) : zRm (rmS d) (rmL d') nL 1 10000 0 0 := ⟨rfl, rfl, ⟨h1, by show 8 + (nL + 11) + 80 * d' ≤ 80 * d; omega⟩, Nat.le_refl _, Nat.le_refl _⟩
theorem rm_okS0 {d d' nL : Nat} (h1 : d' < d) (h2 : nL ≤ 50) : zRm (rmS d) (rmL d') nL 0 0 0 0 := ⟨rfl, rfl, ⟨h1, by show 8 + (nL + 11) + 80 * d' ≤ 80 * d; omega⟩, Nat.zero_le _, Nat.zero_le _⟩
theorem rm_okS1 {d d' nL : Nat} (h1 : d' < d) (h2 : nL ≤ 50) : zRm (rmS d) (rmS d') nL 0 0 1 10000 := ⟨rfl, rfl, ⟨h1, by show 8 + (nL + 11) + 80 * d' ≤ 80 * d; omega⟩, Nat.le_refl _, Nat.le_refl _⟩
theorem rm_mS {d : Nat} (h : 1 ≤ d) : (1 ≤ (rmS d).frames ∧ 40 ≤ (rmS d).locals) ∧ 1 ≤ (rmS d).cells ∧ 10000 ≤ (rmS d).slots := ⟨⟨h, by show 40 ≤ 80 * d; omega⟩, Nat.le_refl _, Nat.le_refl _⟩
/-- the row of sums is made -/
theorem okC_new {h h1 h2 : zM} (s : okC h) (e0 : h.2 0 10 = -1) (e1 : h1 = znew h (fun _ => 0)) (e2 : h2 = zwr h1 0 10 140) : okC h2 ∧ h2.2 0 10 = 140 := by
  have hn : h.1 = 140 := by rcases s.2.2.2 with q | q; exact q.2; omega
  have hnc : (h.1 : Int) = 140 := by omega
  have e3 : ∀ a b, ¬ a = 140 → h1.2 a b = h.2 a b := fun a b q => by rw [e1, znew_n (by omega)]
  have e4 : ∀ b, h1.2 140 b = 0 := fun b => by rw [e1, ← hnc]; exact znew_s
  have e5 : h1.1 = 141 := by rw [e1]; show h.1 + 1 = 141; omega
  subst e2
  refine ⟨⟨by show 140 ≤ h1.1; omega, fun a b => ?_, fun b q1 q2 => ?_, Or.inr ⟨zwr_s _ _ _ _, e5⟩⟩, zwr_s _ _ _ _⟩
  · by_cases q : a = 0 ∧ b = 10
    · rw [q.1, q.2, zwr_s]
      exact PC_k (kk_L0) (show (-1 : Int) ≤ 140 ∧ (140 : Int) ≤ 140 by decide)
    · rw [zwr_n q]
      by_cases q2 : a = 140
      · rw [q2, e4]; exact pa_140 (by decide) b
      · rw [e3 a b q2]; exact s.2.1 a b
  · rw [zwr_n (by omega), e3 114 b (by decide)]; exact s.2.2.1 b q1 q2
theorem zfC_new {h h1 h2 : zM} {W : Int → Int → Prop} (s : okC h) (e0 : h.2 0 10 = -1) (e1 : h1 = znew h (fun _ => 0)) (e2 : h2 = zwr h1 0 10 140) (w1 : W 0 10) (w2 : ∀ j, W 140 j) : zfC W h h2 := by
  have hn : h.1 = 140 := by rcases s.2.2.2 with q | q; exact q.2; omega
  intro a b z
  rw [e2, zwr_n (fun w => z (by rw [w.1, w.2]; exact w1)), e1]
  exact znew_n (fun w => z (by rw [show a = 140 by omega]; exact w2 b))
abbrev tX10_addToSums : List (Nat × Instr × Nat) := [(0, .iload_n 2, 1), (1, .istore 4, 2), (3, .iload 4, 2), (5, .iload_n 1, 1), (6, .if_icmp .lt 48, 3), (9, .aload_n 0, 1), (10, .getfield 63, 3), (13, .iload 4, 2), (15, .iload_n 1, 1), (16, .isub, 1), (17, .iaload, 1), (18, .istore 5, 2), (20, .iload 5, 2), (22, .ldc 252, 2), (24, .if_icmp .eq 24, 3), (27, .aload_n 0, 1), (28, .getfield 63, 3), (31, .iload 4, 2), (33, .aload_n 0, 1), (34, .getfield 63, 3), (37, .iload 4, 2), (39, .iaload, 1), (40, .iload 5, 2), (42, .iload_n 3, 1), (43, .iadd, 1), (44, .invokestatic 348, 3), (47, .iastore, 1), (48, .iinc 4 (-1), 3), (51, .goto (-48), 3), (54, .return_, 1)]
theorem ttX10_addToSums : zdt cX10_addToSums tX10_addToSums = true := by decide +kernel
abbrev w_X10_addToSums (a b : Int) : Prop := a = 140
abbrev q_X10_addToSums (h : zM) (p1 : Int) (p2 : Int) (p3 : Int) : Option zV → zM → Prop := zqv fun h' => okC h' ∧ zfC w_X10_addToSums h h'
set_option maxRecDepth 100000 in
set_option maxHeartbeats 4000000 in
theorem s_X10_addToSums (l : Launch) (h : zM) (p1 : Int) (p2 : Int) (p3 : Int) (s0 : okC h) (b_p1 : 1 ≤ p1 ∧ p1 ≤ 1000) (b_p2 : 0 ≤ p2 ∧ p2 ≤ 9999) (b_p3 : (-2147483648) ≤ p3 ∧ p3 ≤ 2147483647) (u_0 : h.2 0 10 = 140) : zT shC l yX10_addToSums cX10_addToSums 6 none (rmL 3) 0 0 [.inr 0, .inl p1, .inl p2, .inl p3] h (q_X10_addToSums h p1 p2 p3) := by
  have k10 := u_0
  refine zT_of (by decide +kernel) (L0 := [some (.inr 0), some (.inl p1), some (.inl p2), some (.inl p3), none, none]) rfl (Nat.le_of_ble_eq_true rfl) ?_
  refine zj_iload_n (zdk ttX10_addToSums 0 rfl rfl) rfl ?_
  refine zj_istore (L' := [some (.inr 0), some (.inl p1), some (.inl p2), some (.inl p3), some (.inl p2), none]) (zdk ttX10_addToSums 1 rfl rfl) (by decide) rfl ?_
  have lp13 : ∀ (n : Nat) (x1 : Int) (h2 : zM), (-1 ≤ x1 ∧ x1 ≤ 9999) → okC h2 → zfC w_X10_addToSums h h2 → (x1 - -2).toNat < n → zJ shC l yX10_addToSums cX10_addToSums 6 none (rmL 3) 0 0 (q_X10_addToSums h p1 p2 p3) 0 0 3 [some (.inr 0), some (.inl p1), some (.inl p2), some (.inl p3), some (.inl x1), none] [] h2 := by
    intro n
    induction n with
    | zero => intro x1 h2 b14 s3 f4 m15; exact absurd m15 (Nat.not_lt_zero _)
    | succ n ih16 =>
      intro x1 h2 b14 s3 f4 m15
      refine zj_iload (zdk ttX10_addToSums 2 rfl rfl) rfl ?_
      refine zj_iload_n (zdk ttX10_addToSums 3 rfl rfl) rfl ?_
      refine zj_icmp_lt (t := 54) (zdk ttX10_addToSums 4 rfl rfl) (by decide) (by omega) (by omega) (fun c17 => ?_) (fun c17 => ?_)
      · exact zj_vret rfl (zdk ttX10_addToSums 29 rfl rfl) (Nat.le_refl _) (Nat.le_refl _) ⟨rfl, s3, f4⟩
      · refine zj_aload_n (zdk ttX10_addToSums 5 rfl rfl) rfl (by decide) ?_
        refine zj_getr (r := 140) (zdk ttX10_addToSums 6 rfl rfl) zf_RX10_63 rfl (k_L0 s3) ((zfC_a f4 (fun z9 => by unfold w_X10_addToSums at z9; first | (revert z9; decide) | omega)).trans k10) ?_
        refine zj_iload (zdk ttX10_addToSums 7 rfl rfl) rfl ?_
        refine zj_iload_n (zdk ttX10_addToSums 8 rfl rfl) rfl ?_
        refine zj_isub (zdk ttX10_addToSums 9 rfl rfl) ?_
        have b18 : -2147483648 ≤ (h2.2 140 (x1 - p1)) ∧ (h2.2 140 (x1 - p1)) ≤ 2147483647 := ab_140 s3 (x1 - p1)
        refine zj_iald (v := (h2.2 140 (x1 - p1))) (zdk ttX10_addToSums 10 rfl rfl) (k140 s3 ((zfC_a f4 (fun z9 => by unfold w_X10_addToSums at z9; first | (revert z9; decide) | omega)).trans k10)) (by decide) (by omega) rfl ?_
        refine zj_istore (L' := [some (.inr 0), some (.inl p1), some (.inl p2), some (.inl p3), some (.inl x1), some (.inl (h2.2 140 (x1 - p1)))]) (zdk ttX10_addToSums 11 rfl rfl) (by decide) rfl ?_
        refine zj_iload (zdk ttX10_addToSums 12 rfl rfl) rfl ?_
        refine zj_ldc (z := 2147483647) (zdk ttX10_addToSums 13 rfl rfl) wc_RX10_252 ?_
        refine zj_icmp_eq (t := 48) (zdk ttX10_addToSums 14 rfl rfl) (by decide) (by omega) (by decide) (fun c19 => ?_) (fun c19 => ?_)
        · refine zj_iinc (L' := [some (.inr 0), some (.inl p1), some (.inl p2), some (.inl p3), some (.inl (x1 + (-1))), some (.inl (h2.2 140 (x1 - p1)))]) (zdk ttX10_addToSums 27 rfl rfl) rfl (by decide) rfl ?_
          refine zj_goto (t := 3) (zdk ttX10_addToSums 28 rfl rfl) (by decide) ?_
          refine zj_kill (k := 5) (L' := [some (.inr 0), some (.inl p1), some (.inl p2), some (.inl p3), some (.inl (x1 + (-1))), none]) rfl ?_
          exact ih16  (x1 + (-1)) h2 (by omega) s3 f4 (by omega)
        · refine zj_aload_n (zdk ttX10_addToSums 15 rfl rfl) rfl (by decide) ?_
          refine zj_getr (r := 140) (zdk ttX10_addToSums 16 rfl rfl) zf_RX10_63 rfl (k_L0 s3) ((zfC_a f4 (fun z9 => by unfold w_X10_addToSums at z9; first | (revert z9; decide) | omega)).trans k10) ?_
          refine zj_iload (zdk ttX10_addToSums 17 rfl rfl) rfl ?_
          refine zj_aload_n (zdk ttX10_addToSums 18 rfl rfl) rfl (by decide) ?_
          refine zj_getr (r := 140) (zdk ttX10_addToSums 19 rfl rfl) zf_RX10_63 rfl (k_L0 s3) ((zfC_a f4 (fun z9 => by unfold w_X10_addToSums at z9; first | (revert z9; decide) | omega)).trans k10) ?_
          refine zj_iload (zdk ttX10_addToSums 20 rfl rfl) rfl ?_
          have b20 : -2147483648 ≤ (h2.2 140 x1) ∧ (h2.2 140 x1) ≤ 2147483647 := ab_140 s3 x1
          refine zj_iald (v := (h2.2 140 x1)) (zdk ttX10_addToSums 21 rfl rfl) (k140 s3 ((zfC_a f4 (fun z9 => by unfold w_X10_addToSums at z9; first | (revert z9; decide) | omega)).trans k10)) (by decide) (by omega) rfl ?_
          refine zj_iload (zdk ttX10_addToSums 22 rfl rfl) rfl ?_
          refine zj_iload_n (zdk ttX10_addToSums 23 rfl rfl) rfl ?_
          refine zj_iadd (zdk ttX10_addToSums 24 rfl rfl) ?_
          refine zj_wrap ?_
          have b21 := zwp_in ((h2.2 140 (x1 - p1)) + p3)
          refine zj_min (zdk ttX10_addToSums 25 rfl rfl) mx_RX10_348 (by omega) (by omega) (Nat.le_of_ble_eq_true rfl) (rm_m (by decide)) ?_
          have b22 := zm_min_f (h2.2 140 x1) (zwp ((h2.2 140 (x1 - p1)) + p3))
          refine zj_iast (zdk ttX10_addToSums 26 rfl rfl) (k140 s3 ((zfC_a f4 (fun z9 => by unfold w_X10_addToSums at z9; first | (revert z9; decide) | omega)).trans k10)) (by decide) (by omega) (fun h23 e24 => ?_)
          refine zj_iinc (L' := [some (.inr 0), some (.inl p1), some (.inl p2), some (.inl p3), some (.inl (x1 + (-1))), some (.inl (h2.2 140 (x1 - p1)))]) (zdk ttX10_addToSums 27 rfl rfl) rfl (by decide) rfl ?_
          refine zj_goto (t := 3) (zdk ttX10_addToSums 28 rfl rfl) (by decide) ?_
          refine zj_kill (k := 5) (L' := [some (.inr 0), some (.inl p1), some (.inl p2), some (.inl p3), some (.inl (x1 + (-1))), none]) rfl ?_
          have s25 : okC h23 := aw_140 s3 e24 (by omega)
          have f26 : zfC w_X10_addToSums h h23 := zfC_w f4 e24 (by omega)
          exact ih16  (x1 + (-1)) h23 (by omega) s25 f26 (by omega)
  exact lp13 _ p2 h (by omega) s0 (zfC_r _ _) (Nat.lt_succ_self _)

abbrev tX10_fewestWinding : List (Nat × Instr × Nat) := [(0, .aload_n 0, 1), (1, .getfield 63, 3), (4, .ifnonnull 12, 3), (7, .aload_n 0, 1), (8, .sipush 10000, 3), (11, .newarray .int, 2), (13, .putfield 63, 3), (16, .aload_n 0, 1), (17, .getfield 63, 3), (20, .iconst 0, 1), (21, .iload_n 1, 1), (22, .iconst 1, 1), (23, .iadd, 1), (24, .ldc 252, 2), (26, .invokestatic 342, 3), (29, .aload_n 0, 1), (30, .getfield 63, 3), (33, .iconst 0, 1), (34, .iconst 0, 1), (35, .iastore, 1), (36, .aload_n 0, 1), (37, .getfield 10, 3), (40, .getfield 67, 3), (43, .astore_n 2, 1), (44, .iconst 0, 1), (45, .istore_n 3, 1), (46, .iconst 0, 1), (47, .istore 4, 2), (49, .iload 4, 2), (51, .aload_n 2, 1), (52, .getfield 81, 3), (55, .if_icmp .ge 63, 3), (58, .aload_n 2, 1), (59, .iload 4, 2), (61, .invokevirtual 204, 3), (64, .ifCond .eq 16, 3), (67, .aload_n 0, 1), (68, .getfield 10, 3), (71, .iconst 1, 1), (72, .iload 4, 2), (74, .invokevirtual 213, 3), (77, .goto 4, 3), (80, .iconst 0, 1), (81, .istore 5, 2), (83, .iload 5, 2), (85, .ifCond .le 27, 3), (88, .iload_n 1, 1), (89, .iload_n 3, 1), (90, .iload 5, 2), (92, .iadd, 1), (93, .invokestatic 348, 3), (96, .istore_n 3, 1), (97, .aload_n 0, 1), (98, .iload 5, 2), (100, .iload_n 3, 1), (101, .ldc_w 353, 3), (104, .iconst 1, 1), (105, .iload 4, 2), (107, .ishl, 1), (108, .iadd, 1), (109, .invokevirtual 354, 3), (112, .iinc 4 1, 3), (115, .goto (-66), 3), (118, .aload_n 0, 1), (119, .getfield 63, 3), (122, .iload_n 1, 1), (123, .iaload, 1), (124, .ireturn, 1)]
theorem ttX10_fewestWinding : zdt cX10_fewestWinding tX10_fewestWinding = true := by decide +kernel
abbrev w_X10_fewestWinding (a b : Int) : Prop := (a = 0 ∧ b = 10) ∨ a = 12 ∨ a = 140
abbrev q_X10_fewestWinding (h : zM) (p1 : Int) : Option zV → zM → Prop := zqi fun v h' => ((-2147483648) ≤ v ∧ v ≤ 2147483647) ∧ okC h' ∧ zfC w_X10_fewestWinding h h'
abbrev w_X10_fewestWindingt (a b : Int) : Prop := a = 12 ∨ a = 140
set_option maxRecDepth 100000 in
set_option maxHeartbeats 4000000 in
theorem fw_tail (l : Launch) (h0 h : zM) (p1 : Int) (s0 : okC h) (b_p1 : 0 ≤ p1 ∧ p1 ≤ 9999) (k10 : h.2 0 10 = 140) (f00 : zfC w_X10_fewestWinding h0 h) : zJ shC l yX10_fewestWinding cX10_fewestWinding 6 (some .int) (rmS 20) 1 10000 (q_X10_fewestWinding h0 p1) 1 10000 16 [some (.inr 0), some (.inl p1), none, none, none, none] [] h := by
  refine zj_aload_n (zdk ttX10_fewestWinding 7 rfl rfl) rfl (by decide) ?_
  refine zj_getr (r := 140) (zdk ttX10_fewestWinding 8 rfl rfl) zf_RX10_63 rfl (k_L0 s0) k10 ?_
  refine zj_iconst (zdk ttX10_fewestWinding 9 rfl rfl) ?_
  refine zj_iload_n (zdk ttX10_fewestWinding 10 rfl rfl) rfl ?_
  refine zj_iconst (zdk ttX10_fewestWinding 11 rfl rfl) ?_
  refine zj_iadd (zdk ttX10_fewestWinding 12 rfl rfl) ?_
  refine zj_ldc (z := 2147483647) (zdk ttX10_fewestWinding 13 rfl rfl) wc_RX10_252 ?_
  refine zj_callS (av := [.inr 140, .inl 0, .inl (p1 + 1), .inl 2147483647]) (st := []) (zdk ttX10_fewestWinding 14 rfl rfl) mb_J7_fill_fda19 ms_RX10_342 rfl rfl (Nat.le_of_ble_eq_true rfl) (s_J7_fill_fda19 shC l h 140 0 (p1 + 1) 2147483647 (k140 s0 k10) (by decide) (by omega) (by omega)) (rm_okS (by decide) (by decide)) (zq_v fun h1 e2 => ?_)
  refine zj_aload_n (zdk ttX10_fewestWinding 15 rfl rfl) rfl (by decide) ?_
  have s3 : okC h1 := okC_fill s0 e2 (fun j => pa_140 (v := 2147483647) (by omega) j) (na_140).1 (na_140).2
  refine zj_getr (r := 140) (zdk ttX10_fewestWinding 16 rfl rfl) zf_RX10_63 rfl (k_L0 s3) ((zfill_r e2 (by omega)).trans k10) ?_
  refine zj_iconst (zdk ttX10_fewestWinding 17 rfl rfl) ?_
  refine zj_iconst (zdk ttX10_fewestWinding 18 rfl rfl) ?_
  refine zj_iast (zdk ttX10_fewestWinding 19 rfl rfl) (k140 s3 ((zfill_r e2 (by omega)).trans k10)) (by decide) (by omega) (fun h4 e5 => ?_)
  refine zj_aload_n (zdk ttX10_fewestWinding 20 rfl rfl) rfl (by decide) ?_
  have s6 : okC h4 := aw_140 s3 e5 (by omega)
  refine zj_getr (r := 1) (zdk ttX10_fewestWinding 21 rfl rfl) zf_RX10_10 rfl (k_L0 s6) (rf_L0_0 s6) ?_
  refine zj_getr (r := 2) (zdk ttX10_fewestWinding 22 rfl rfl) zf_RX10_67 rfl (k_9_0 s6 zWd_1) (rf_9_0_0 s6 zWd_1) ?_
  refine zj_astore_n (L' := [some (.inr 0), some (.inl p1), some (.inr 2), none, none, none]) (zdk ttX10_fewestWinding 23 rfl rfl) (by decide) (by decide) rfl ?_
  refine zj_iconst (zdk ttX10_fewestWinding 24 rfl rfl) ?_
  refine zj_istore_n (L' := [some (.inr 0), some (.inl p1), some (.inr 2), some (.inl 0), none, none]) (zdk ttX10_fewestWinding 25 rfl rfl) (by decide) rfl ?_
  refine zj_iconst (zdk ttX10_fewestWinding 26 rfl rfl) ?_
  refine zj_istore (L' := [some (.inr 0), some (.inl p1), some (.inr 2), some (.inl 0), some (.inl 0), none]) (zdk ttX10_fewestWinding 27 rfl rfl) (by decide) rfl ?_
  have lp137 : ∀ (n : Nat) (x7 x8 : Int) (h9 : zM), (0 ≤ x7 ∧ x7 ≤ 9999) → (0 ≤ x8 ∧ x8 ≤ 18) → okC h9 → zfC w_X10_fewestWindingt h h9 → (19 - x8).toNat < n → zJ shC l yX10_fewestWinding cX10_fewestWinding 6 (some .int) (rmS 20) 1 10000 (q_X10_fewestWinding h0 p1) 1 10000 49 [some (.inr 0), some (.inl p1), some (.inr 2), some (.inl x7), some (.inl x8), none] [] h9 := by
    intro n
    induction n with
    | zero => intro x7 x8 h9 b138 b139 s10 f11 m140; exact absurd m140 (Nat.not_lt_zero _)
    | succ n ih141 =>
      intro x7 x8 h9 b138 b139 s10 f11 m140
      refine zj_iload (zdk ttX10_fewestWinding 28 rfl rfl) rfl ?_
      refine zj_aload_n (zdk ttX10_fewestWinding 29 rfl rfl) rfl (by decide) ?_
      have b142 : 0 ≤ (h.2 2 3) ∧ (h.2 2 3) ≤ 18 := fb_1_0_3 s0 zIs_2
      refine zj_geti (v := (h.2 2 3)) (zdk ttX10_fewestWinding 30 rfl rfl) zf_RX10_81 rfl (k_1_0 s10 zIs_2) (zfC_a f11 (fun z9 => by unfold w_X10_fewestWindingt at z9; first | (revert z9; decide) | omega)) ?_
      refine zj_icmp_ge (t := 118) (zdk ttX10_fewestWinding 31 rfl rfl) (by decide) (by omega) (by omega) (fun c143 => ?_) (fun c143 => ?_)
      · refine zj_aload_n (zdk ttX10_fewestWinding 63 rfl rfl) rfl (by decide) ?_
        refine zj_getr (r := 140) (zdk ttX10_fewestWinding 64 rfl rfl) zf_RX10_63 rfl (k_L0 s10) ((zfC_a f11 (fun z9 => by unfold w_X10_fewestWindingt at z9; first | (revert z9; decide) | omega)).trans k10) ?_
        refine zj_iload_n (zdk ttX10_fewestWinding 65 rfl rfl) rfl ?_
        have b144 : -2147483648 ≤ (h9.2 140 p1) ∧ (h9.2 140 p1) ≤ 2147483647 := ab_140 s10 p1
        refine zj_iald (v := (h9.2 140 p1)) (zdk ttX10_fewestWinding 66 rfl rfl) (k140 s10 ((zfC_a f11 (fun z9 => by unfold w_X10_fewestWindingt at z9; first | (revert z9; decide) | omega)).trans k10)) (by decide) (by omega) rfl ?_
        exact zj_iret rfl (zdk ttX10_fewestWinding 67 rfl rfl) (Nat.le_refl _) (Nat.le_refl _) ⟨(h9.2 140 p1), rfl, by omega, s10, (zfC_t f00 f11 (fun _ _ z9 => by rcases z9 with z9 | z9 <;> first | exact (Or.inr (Or.inl z9)) | exact (Or.inr (Or.inr z9))))⟩
      · refine zj_aload_n (zdk ttX10_fewestWinding 32 rfl rfl) rfl (by decide) ?_
        refine zj_iload (zdk ttX10_fewestWinding 33 rfl rfl) rfl ?_
        refine zj_callV (av := [.inl x8]) (st := []) (zdk ttX10_fewestWinding 34 rfl rfl) mb_X1_isHere mv_RX10_204 (ci := 1) rfl rfl (k_1_0 s10 zIs_2) rfl rfl (Nat.le_of_ble_eq_true rfl) (s_X1_isHere l h9 2 x8 s10 zIs_2 (by omega)) (rm_okS (by decide) (by decide)) (zq_i fun v146 h147 q145 => ?_)
        obtain ⟨rfl, b149, ⟨rfl, b148⟩ | ⟨rfl, b148⟩⟩ := q145
        · refine zj_if_eq (t := 80) (zdk ttX10_fewestWinding 35 rfl rfl) (by decide) (by decide) (fun c150 => ?_) (fun c150 => ?_)
          · refine zj_iconst (zdk ttX10_fewestWinding 42 rfl rfl) ?_
            refine zj_istore (L' := [some (.inr 0), some (.inl p1), some (.inr 2), some (.inl x7), some (.inl x8), some (.inl 0)]) (zdk ttX10_fewestWinding 43 rfl rfl) (by decide) rfl ?_
            refine zj_iload (zdk ttX10_fewestWinding 44 rfl rfl) rfl ?_
            refine zj_if_le (t := 112) (zdk ttX10_fewestWinding 45 rfl rfl) (by decide) (by decide) (fun c151 => ?_) (fun c151 => ?_)
            · refine zj_iinc (L' := [some (.inr 0), some (.inl p1), some (.inr 2), some (.inl x7), some (.inl (x8 + 1)), some (.inl 0)]) (zdk ttX10_fewestWinding 61 rfl rfl) rfl (by decide) rfl ?_
              refine zj_goto (t := 49) (zdk ttX10_fewestWinding 62 rfl rfl) (by decide) ?_
              refine zj_kill (k := 5) (L' := [some (.inr 0), some (.inl p1), some (.inr 2), some (.inl x7), some (.inl (x8 + 1)), none]) rfl ?_
              exact ih141  x7 (x8 + 1) h9 (by omega) (by omega) s10 f11 (by omega)
            · exact absurd c151 (by omega)
          · exact absurd c150 (by omega)
        · refine zj_if_eq (t := 80) (zdk ttX10_fewestWinding 35 rfl rfl) (by decide) (by decide) (fun c152 => ?_) (fun c152 => ?_)
          · exact absurd c152 (by omega)
          · refine zj_aload_n (zdk ttX10_fewestWinding 36 rfl rfl) rfl (by decide) ?_
            refine zj_getr (r := 1) (zdk ttX10_fewestWinding 37 rfl rfl) zf_RX10_10 rfl (k_L0 s10) (rf_L0_0 s10) ?_
            refine zj_iconst (zdk ttX10_fewestWinding 38 rfl rfl) ?_
            refine zj_iload (zdk ttX10_fewestWinding 39 rfl rfl) rfl ?_
            refine zj_callV (av := [.inl 1, .inl x8]) (st := []) (zdk ttX10_fewestWinding 40 rfl rfl) mb_X9_tells mv_RX10_213 (ci := 9) rfl rfl (k_9_0 s10 zWd_1) rfl rfl (Nat.le_of_ble_eq_true rfl) (s_X9_tells l h9 1 1 x8 s10 zWd_1 (by omega) (by omega)) (rm_okS (by decide) (by decide)) (zq_i fun v154 h155 q153 => ?_)
            obtain ⟨b156, s157, f158⟩ := q153
            refine zj_goto (t := 81) (zdk ttX10_fewestWinding 41 rfl rfl) (by decide) ?_
            refine zj_istore (L' := [some (.inr 0), some (.inl p1), some (.inr 2), some (.inl x7), some (.inl x8), some (.inl v154)]) (zdk ttX10_fewestWinding 43 rfl rfl) (by decide) rfl ?_
            refine zj_iload (zdk ttX10_fewestWinding 44 rfl rfl) rfl ?_
            refine zj_if_le (t := 112) (zdk ttX10_fewestWinding 45 rfl rfl) (by decide) (by omega) (fun c159 => ?_) (fun c159 => ?_)
            · refine zj_iinc (L' := [some (.inr 0), some (.inl p1), some (.inr 2), some (.inl x7), some (.inl (x8 + 1)), some (.inl v154)]) (zdk ttX10_fewestWinding 61 rfl rfl) rfl (by decide) rfl ?_
              refine zj_goto (t := 49) (zdk ttX10_fewestWinding 62 rfl rfl) (by decide) ?_
              refine zj_kill (k := 5) (L' := [some (.inr 0), some (.inl p1), some (.inr 2), some (.inl x7), some (.inl (x8 + 1)), none]) rfl ?_
              have f160 : zfC w_X10_fewestWindingt h h155 := zfC_t f11 f158 (fun a9 b9 z9 => by
                exact (Or.inl z9))
              exact ih141  x7 (x8 + 1) h155 (by omega) (by omega) s157 f160 (by omega)
            · refine zj_iload_n (zdk ttX10_fewestWinding 46 rfl rfl) rfl ?_
              refine zj_iload_n (zdk ttX10_fewestWinding 47 rfl rfl) rfl ?_
              refine zj_iload (zdk ttX10_fewestWinding 48 rfl rfl) rfl ?_
              refine zj_iadd (zdk ttX10_fewestWinding 49 rfl rfl) ?_
              refine zj_min (zdk ttX10_fewestWinding 50 rfl rfl) mx_RX10_348 (by omega) (by omega) (Nat.le_of_ble_eq_true rfl) (rm_mS (by decide)) ?_
              have b161 := zm_min_f p1 (x7 + v154)
              refine zj_istore_n (L' := [some (.inr 0), some (.inl p1), some (.inr 2), some (.inl (zm_min p1 (x7 + v154))), some (.inl x8), some (.inl v154)]) (zdk ttX10_fewestWinding 51 rfl rfl) (by decide) rfl ?_
              refine zj_aload_n (zdk ttX10_fewestWinding 52 rfl rfl) rfl (by decide) ?_
              refine zj_iload (zdk ttX10_fewestWinding 53 rfl rfl) rfl ?_
              refine zj_iload_n (zdk ttX10_fewestWinding 54 rfl rfl) rfl ?_
              refine zj_ldc_w (z := 262144) (zdk ttX10_fewestWinding 55 rfl rfl) wc_RX10_353 ?_
              refine zj_iconst (zdk ttX10_fewestWinding 56 rfl rfl) ?_
              refine zj_iload (zdk ttX10_fewestWinding 57 rfl rfl) rfl ?_
              refine zj_ishl (zdk ttX10_fewestWinding 58 rfl rfl) ?_
              have b162 := zshl_1 (n := x8) (a := 0) (b := 17) (lo := 1) (hi := 131072) (by omega) (by decide) (by decide) (by decide)
              refine zj_iadd (zdk ttX10_fewestWinding 59 rfl rfl) ?_
              refine zj_callV (av := [.inl v154, .inl (zm_min p1 (x7 + v154)), .inl (262144 + (zshl 1 x8))]) (st := []) (zdk ttX10_fewestWinding 60 rfl rfl) mb_X10_addToSums mv_RX10_354 (ci := 10) rfl rfl (k_L0 s157) rfl rfl (Nat.le_of_ble_eq_true rfl) (s_X10_addToSums l h155 v154 (zm_min p1 (x7 + v154)) (262144 + (zshl 1 x8)) s157 (by omega) (by omega) (by omega) (((zfC_a f158 (fun z9 => by unfold w_X9_tells at z9; first | (revert z9; decide) | omega)).trans (zfC_a f11 (fun z9 => by unfold w_X10_fewestWindingt at z9; first | (revert z9; decide) | omega))).trans k10)) (rm_okS (by decide) (by decide)) (zq_v fun h165 q163 => ?_)
              obtain ⟨s167, f168⟩ := q163
              refine zj_iinc (L' := [some (.inr 0), some (.inl p1), some (.inr 2), some (.inl (zm_min p1 (x7 + v154))), some (.inl (x8 + 1)), some (.inl v154)]) (zdk ttX10_fewestWinding 61 rfl rfl) rfl (by decide) rfl ?_
              refine zj_goto (t := 49) (zdk ttX10_fewestWinding 62 rfl rfl) (by decide) ?_
              refine zj_kill (k := 5) (L' := [some (.inr 0), some (.inl p1), some (.inr 2), some (.inl (zm_min p1 (x7 + v154))), some (.inl (x8 + 1)), none]) rfl ?_
              have f170 : zfC w_X10_fewestWindingt h h155 := zfC_t f11 f158 (fun a9 b9 z9 => by
                exact (Or.inl z9))
              have f169 : zfC w_X10_fewestWindingt h h165 := zfC_t f170 f168 (fun a9 b9 z9 => by
                exact (Or.inr z9))
              exact ih141  (zm_min p1 (x7 + v154)) (x8 + 1) h165 (by omega) (by omega) s167 f169 (by omega)
  have f172 : zfC w_X10_fewestWindingt h h1 := zfC_fill (zfC_r _ _) e2 (fun _ => (Or.inr (by omega)))
  have f171 : zfC w_X10_fewestWindingt h h4 := zfC_w f172 e5 (Or.inr (by omega))
  exact lp137 _ 0 0 h4 (by omega) (by omega) s6 f171 (Nat.lt_succ_self _)
set_option maxRecDepth 100000 in
theorem s_X10_fewestWinding (l : Launch) (h : zM) (p1 : Int) (s0 : okC h) (b_p1 : 0 ≤ p1 ∧ p1 ≤ 9999) : zT shC l yX10_fewestWinding cX10_fewestWinding 6 (some .int) (rmS 20) 1 10000 [.inr 0, .inl p1] h (q_X10_fewestWinding h p1) := by
  refine zT_of (by decide +kernel) (L0 := [some (.inr 0), some (.inl p1), none, none, none, none]) rfl (Nat.le_of_ble_eq_true rfl) ?_
  refine zj_aload_n (zdk ttX10_fewestWinding 0 rfl rfl) rfl (by decide) ?_
  rcases s0.2.2.2 with ⟨e0, en⟩ | ⟨e0, en⟩
  · refine zj_getr (r := -1) (zdk ttX10_fewestWinding 1 rfl rfl) zf_RX10_63 rfl (k_L0 s0) e0 ?_
    refine zj_ifnonnull (t := 16) (zdk ttX10_fewestWinding 2 rfl rfl) (by decide) (fun q => absurd rfl q) (fun q => ?_)
    refine zj_aload_n (zdk ttX10_fewestWinding 3 rfl rfl) rfl (by decide) ?_
    refine zj_sipush (zdk ttX10_fewestWinding 4 rfl rfl) (by decide) ?_
    refine zj_newi (N := 10000) (zdk ttX10_fewestWinding 5 rfl rfl) wa_int rfl (by decide) (by rw [en]; decide +kernel) ⟨Nat.le_refl _, Nat.le_refl _⟩ (fun h1 e1 => ?_)
    have h140 : (h.1 : Int) = 140 := by omega
    have hk : shC 0 = .inl 10 ∧ (0 : Int) ≤ 0 ∧ (0 : Int) < h1.1 := ⟨(k_L0 s0).1, by decide, by rw [e1]; show (0 : Int) < ((h.1 + 1 : Nat) : Int); omega⟩
    refine zj_putr (zdk ttX10_fewestWinding 6 rfl rfl) zf_RX10_63 rfl hk (Or.inl zw_RX10_63) (k2 := 10) rfl (fun h2 e2 => ?_)
    rw [h140] at e2
    obtain ⟨s2, k2⟩ := okC_new s0 e0 e1 e2
    exact fw_tail l h h2 p1 s2 b_p1 k2 (zfC_new s0 e0 e1 e2 (Or.inl (by omega)) (fun _ => (Or.inr (Or.inr rfl))))
  · refine zj_getr (r := 140) (zdk ttX10_fewestWinding 1 rfl rfl) zf_RX10_63 rfl (k_L0 s0) e0 ?_
    refine zj_ifnonnull (t := 16) (zdk ttX10_fewestWinding 2 rfl rfl) (by decide) (fun q => ?_) (fun q => absurd q (by decide))
    exact zj_widen (Nat.zero_le _) (Nat.zero_le _) (fw_tail l h h p1 s0 b_p1 e0 (zfC_r _ _))

abbrev tX10_must : List (Nat × Instr × Nat) := [(0, .iload_n 1, 1), (1, .iconst 0, 1), (2, .sipush 9999, 3), (5, .invokestatic 77, 3), (8, .ifCond .eq 12, 3), (11, .iload_n 2, 1), (12, .iconst 0, 1), (13, .iconst 1, 1), (14, .invokestatic 77, 3), (17, .ifCond .ne 5, 3), (20, .iconst (-1), 1), (21, .ireturn, 1), (22, .aload_n 0, 1), (23, .iload_n 1, 1), (24, .invokevirtual 249, 3), (27, .istore_n 3, 1), (28, .iload_n 3, 1), (29, .ldc 252, 2), (31, .if_icmp .ne 5, 3), (34, .iconst (-1), 1), (35, .ireturn, 1), (36, .iload_n 2, 1), (37, .ifCond .ne 10, 3), (40, .iload_n 3, 1), (41, .bipush 18, 2), (43, .ishr, 1), (44, .goto 7, 3), (47, .iload_n 3, 1), (48, .ldc 253, 2), (50, .iand, 1), (51, .ireturn, 1)]
theorem ttX10_must : zdt cX10_must tX10_must = true := by decide +kernel
abbrev w_X10_must (a b : Int) : Prop := (a = 0 ∧ b = 10) ∨ a = 12 ∨ a = 140
abbrev q_X10_must (h : zM) (p1 : Int) (p2 : Int) : Option zV → zM → Prop := zqi fun v h' => ((-2147483648) ≤ v ∧ v ≤ 2147483647) ∧ okC h' ∧ zfC w_X10_must h h'
set_option maxRecDepth 100000 in
set_option maxHeartbeats 4000000 in
theorem s_X10_must (l : Launch) (h : zM) (p1 : Int) (p2 : Int) (s0 : okC h) (b_p1 : (-2147483648) ≤ p1 ∧ p1 ≤ 2147483647) (b_p2 : (-2147483648) ≤ p2 ∧ p2 ≤ 2147483647) : zT shC l yX10_must cX10_must 4 (some .int) (rmS 21) 1 10000 [.inr 0, .inl p1, .inl p2] h (q_X10_must h p1 p2) := by
  refine zT_of (by decide +kernel) (L0 := [some (.inr 0), some (.inl p1), some (.inl p2), none]) rfl (Nat.le_of_ble_eq_true rfl) ?_
  refine zj_iload_n (zdk ttX10_must 0 rfl rfl) rfl ?_
  refine zj_iconst (zdk ttX10_must 1 rfl rfl) ?_
  refine zj_sipush (zdk ttX10_must 2 rfl rfl) (by decide) ?_
  refine zj_callS (av := [.inl p1, .inl 0, .inl 9999]) (st := []) (zdk ttX10_must 3 rfl rfl) mb_X10_within ms_RX10_77 rfl rfl (Nat.le_of_ble_eq_true rfl) (s_X10_within l h p1 0 9999 s0 (by omega) (by omega) (by omega)) (rm_okS0 (by decide) (by decide)) (zq_i fun v2 h3 q1 => ?_)
  obtain ⟨rfl, ⟨rfl, b4⟩ | ⟨rfl, b4⟩⟩ := q1
  · refine zj_if_eq (t := 20) (zdk ttX10_must 4 rfl rfl) (by decide) (by decide) (fun c5 => ?_) (fun c5 => ?_)
    · refine zj_iconst (zdk ttX10_must 10 rfl rfl) ?_
      exact zj_iret rfl (zdk ttX10_must 11 rfl rfl) (Nat.le_of_ble_eq_true rfl) (Nat.le_of_ble_eq_true rfl) ⟨(-1), rfl, by omega, s0, (zfC_r _ _)⟩
    · exact absurd c5 (by omega)
  · refine zj_if_eq (t := 20) (zdk ttX10_must 4 rfl rfl) (by decide) (by decide) (fun c6 => ?_) (fun c6 => ?_)
    · exact absurd c6 (by omega)
    · refine zj_iload_n (zdk ttX10_must 5 rfl rfl) rfl ?_
      refine zj_iconst (zdk ttX10_must 6 rfl rfl) ?_
      refine zj_iconst (zdk ttX10_must 7 rfl rfl) ?_
      refine zj_callS (av := [.inl p2, .inl 0, .inl 1]) (st := []) (zdk ttX10_must 8 rfl rfl) mb_X10_within ms_RX10_77 rfl rfl (Nat.le_of_ble_eq_true rfl) (s_X10_within l h p2 0 1 s0 (by omega) (by omega) (by omega)) (rm_okS0 (by decide) (by decide)) (zq_i fun v8 h9 q7 => ?_)
      obtain ⟨rfl, ⟨rfl, b10⟩ | ⟨rfl, b10⟩⟩ := q7
      · refine zj_if_ne (t := 22) (zdk ttX10_must 9 rfl rfl) (by decide) (by decide) (fun c11 => ?_) (fun c11 => ?_)
        · exact absurd c11 (by omega)
        · refine zj_iconst (zdk ttX10_must 10 rfl rfl) ?_
          exact zj_iret rfl (zdk ttX10_must 11 rfl rfl) (Nat.le_of_ble_eq_true rfl) (Nat.le_of_ble_eq_true rfl) ⟨(-1), rfl, by omega, s0, (zfC_r _ _)⟩
      · refine zj_if_ne (t := 22) (zdk ttX10_must 9 rfl rfl) (by decide) (by decide) (fun c12 => ?_) (fun c12 => ?_)
        · refine zj_aload_n (zdk ttX10_must 12 rfl rfl) rfl (by decide) ?_
          refine zj_iload_n (zdk ttX10_must 13 rfl rfl) rfl ?_
          refine zj_callV (av := [.inl p1]) (st := []) (zdk ttX10_must 14 rfl rfl) mb_X10_fewestWinding mv_RX10_249 (ci := 10) rfl rfl (k_L0 s0) rfl rfl (Nat.le_of_ble_eq_true rfl) (s_X10_fewestWinding l h p1 s0 (by omega)) (rm_okS1 (by decide) (by decide)) (zq_i fun v14 h15 q13 => ?_)
          obtain ⟨b16, s17, f18⟩ := q13
          refine zj_istore_n (L' := [some (.inr 0), some (.inl p1), some (.inl p2), some (.inl v14)]) (zdk ttX10_must 15 rfl rfl) (by decide) rfl ?_
          refine zj_iload_n (zdk ttX10_must 16 rfl rfl) rfl ?_
          refine zj_ldc (z := 2147483647) (zdk ttX10_must 17 rfl rfl) wc_RX10_252 ?_
          refine zj_icmp_ne (t := 36) (zdk ttX10_must 18 rfl rfl) (by decide) (by omega) (by decide) (fun c19 => ?_) (fun c19 => ?_)
          · refine zj_iload_n (zdk ttX10_must 21 rfl rfl) rfl ?_
            refine zj_if_ne (t := 47) (zdk ttX10_must 22 rfl rfl) (by decide) (by omega) (fun c20 => ?_) (fun c20 => ?_)
            · refine zj_iload_n (zdk ttX10_must 27 rfl rfl) rfl ?_
              refine zj_ldc (z := 262143) (zdk ttX10_must 28 rfl rfl) wc_RX10_253 ?_
              refine zj_iand (zdk ttX10_must 29 rfl rfl) ?_
              have b21 := zand_m (d := 262144) 18 (by decide) (c := 262143) (by decide) (by decide) v14
              have f22 : zfC w_X10_must h h15 := zfC_t (zfC_r _ _) f18 (fun a9 b9 z9 => by
                rcases z9 with z9 | z9 | z9
                · exact (Or.inl z9)
                · exact (Or.inr (Or.inl z9))
                · exact (Or.inr (Or.inr z9)))
              exact zj_iret rfl (zdk ttX10_must 30 rfl rfl) (Nat.le_of_ble_eq_true rfl) (Nat.le_of_ble_eq_true rfl) ⟨(zand v14 262143), rfl, by omega, s17, f22⟩
            · refine zj_iload_n (zdk ttX10_must 23 rfl rfl) rfl ?_
              refine zj_bipush (zdk ttX10_must 24 rfl rfl) (by decide) ?_
              refine zj_ishr (zdk ttX10_must 25 rfl rfl) ?_
              have b23 := zshr_in v14 18
              refine zj_goto (t := 51) (zdk ttX10_must 26 rfl rfl) (by decide) ?_
              have f24 : zfC w_X10_must h h15 := zfC_t (zfC_r _ _) f18 (fun a9 b9 z9 => by
                rcases z9 with z9 | z9 | z9
                · exact (Or.inl z9)
                · exact (Or.inr (Or.inl z9))
                · exact (Or.inr (Or.inr z9)))
              exact zj_iret rfl (zdk ttX10_must 30 rfl rfl) (Nat.le_of_ble_eq_true rfl) (Nat.le_of_ble_eq_true rfl) ⟨(zshr v14 18), rfl, by omega, s17, f24⟩
          · refine zj_iconst (zdk ttX10_must 19 rfl rfl) ?_
            have f25 : zfC w_X10_must h h15 := zfC_t (zfC_r _ _) f18 (fun a9 b9 z9 => by
              rcases z9 with z9 | z9 | z9
              · exact (Or.inl z9)
              · exact (Or.inr (Or.inl z9))
              · exact (Or.inr (Or.inr z9)))
            exact zj_iret rfl (zdk ttX10_must 20 rfl rfl) (Nat.le_of_ble_eq_true rfl) (Nat.le_of_ble_eq_true rfl) ⟨(-1), rfl, by omega, s17, f25⟩
        · exact absurd c12 (by omega)

