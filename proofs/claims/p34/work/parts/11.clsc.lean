abbrev tX8_stepThatKeeps : List (Nat × Instr × Nat) := [(0, .iconst 1, 1), (1, .istore 4, 2), (3, .iload 4, 2), (5, .bipush 10, 2), (7, .if_icmp .gt 41, 3), (10, .iload_n 2, 1), (11, .iload 4, 2), (13, .iconst 1, 1), (14, .isub, 1), (15, .ishr, 1), (16, .iconst 1, 1), (17, .iand, 1), (18, .iconst 1, 1), (19, .if_icmp .ne 23, 3), (22, .aload_n 0, 1), (23, .iload_n 1, 1), (24, .iload_n 3, 1), (25, .iload 4, 2), (27, .invokevirtual 111, 3), (30, .aload_n 0, 1), (31, .getfield 11, 3), (34, .iload_n 3, 1), (35, .iaload, 1), (36, .if_icmp .ne 6, 3), (39, .iload 4, 2), (41, .ireturn, 1), (42, .iinc 4 1, 3), (45, .goto (-42), 3), (48, .iconst (-1), 1), (49, .ireturn, 1)]
theorem ttX8_stepThatKeeps : zdt cX8_stepThatKeeps tX8_stepThatKeeps = true := by decide +kernel
abbrev q_X8_stepThatKeeps (h : zM) (p1 : Int) (p2 : Int) (p3 : Int) : Option zV → zM → Prop := zqi fun v h' => h = h' ∧ ((-2147483648) ≤ v ∧ v ≤ 2147483647)
set_option maxRecDepth 100000 in
set_option maxHeartbeats 4000000 in
theorem s_X8_stepThatKeeps (l : Launch) (h : zM) (p1 : Int) (p2 : Int) (p3 : Int) (s0 : okC h) (b_p1 : 2 ≤ p1 ∧ p1 ≤ 60) (b_p2 : (-2147483648) ≤ p2 ∧ p2 ≤ 2147483647) (b_p3 : 0 ≤ p3 ∧ p3 ≤ 59) : zT shC l yX8_stepThatKeeps cX8_stepThatKeeps 5 (some .int) (rmL 2) 0 0 [.inr 108, .inl p1, .inl p2, .inl p3] h (q_X8_stepThatKeeps h p1 p2 p3) := by
  refine zT_of (by decide +kernel) (L0 := [some (.inr 108), some (.inl p1), some (.inl p2), some (.inl p3), none]) rfl (Nat.le_of_ble_eq_true rfl) ?_
  refine zj_iconst (zdk ttX8_stepThatKeeps 0 rfl rfl) ?_
  refine zj_istore (L' := [some (.inr 108), some (.inl p1), some (.inl p2), some (.inl p3), some (.inl 1)]) (zdk ttX8_stepThatKeeps 1 rfl rfl) (by decide) rfl ?_
  have lp62 : ∀ (n : Nat) (x1 : Int), (1 ≤ x1 ∧ x1 ≤ 11) → (12 - x1).toNat < n → zJ shC l yX8_stepThatKeeps cX8_stepThatKeeps 5 (some .int) (rmL 2) 0 0 (q_X8_stepThatKeeps h p1 p2 p3) 0 0 3 [some (.inr 108), some (.inl p1), some (.inl p2), some (.inl p3), some (.inl x1)] [] h := by
    intro n
    induction n with
    | zero => intro x1 b63 m64; exact absurd m64 (Nat.not_lt_zero _)
    | succ n ih65 =>
      intro x1 b63 m64
      refine zj_iload (zdk ttX8_stepThatKeeps 2 rfl rfl) rfl ?_
      refine zj_bipush (zdk ttX8_stepThatKeeps 3 rfl rfl) (by decide) ?_
      refine zj_icmp_gt (t := 48) (zdk ttX8_stepThatKeeps 4 rfl rfl) (by decide) (by omega) (by decide) (fun c66 => ?_) (fun c66 => ?_)
      · refine zj_iconst (zdk ttX8_stepThatKeeps 28 rfl rfl) ?_
        exact zj_iret rfl (zdk ttX8_stepThatKeeps 29 rfl rfl) (Nat.le_refl _) (Nat.le_refl _) ⟨(-1), rfl, rfl, by omega⟩
      · refine zj_iload_n (zdk ttX8_stepThatKeeps 5 rfl rfl) rfl ?_
        refine zj_iload (zdk ttX8_stepThatKeeps 6 rfl rfl) rfl ?_
        refine zj_iconst (zdk ttX8_stepThatKeeps 7 rfl rfl) ?_
        refine zj_isub (zdk ttX8_stepThatKeeps 8 rfl rfl) ?_
        refine zj_ishr (zdk ttX8_stepThatKeeps 9 rfl rfl) ?_
        have b67 := zshr_in p2 (x1 - 1)
        refine zj_iconst (zdk ttX8_stepThatKeeps 10 rfl rfl) ?_
        refine zj_iand (zdk ttX8_stepThatKeeps 11 rfl rfl) ?_
        have b68 := zand_m (d := 2) 1 (by decide) (c := 1) (by decide) (by decide) (zshr p2 (x1 - 1))
        refine zj_iconst (zdk ttX8_stepThatKeeps 12 rfl rfl) ?_
        refine zj_icmp_ne (t := 42) (zdk ttX8_stepThatKeeps 13 rfl rfl) (by decide) (by omega) (by decide) (fun c69 => ?_) (fun c69 => ?_)
        · refine zj_iinc (L' := [some (.inr 108), some (.inl p1), some (.inl p2), some (.inl p3), some (.inl (x1 + 1))]) (zdk ttX8_stepThatKeeps 26 rfl rfl) rfl (by decide) rfl ?_
          refine zj_goto (t := 3) (zdk ttX8_stepThatKeeps 27 rfl rfl) (by decide) ?_
          exact ih65  (x1 + 1) (by omega) (by omega)
        · refine zj_aload_n (zdk ttX8_stepThatKeeps 14 rfl rfl) rfl (by decide) ?_
          refine zj_iload_n (zdk ttX8_stepThatKeeps 15 rfl rfl) rfl ?_
          refine zj_iload_n (zdk ttX8_stepThatKeeps 16 rfl rfl) rfl ?_
          refine zj_iload (zdk ttX8_stepThatKeeps 17 rfl rfl) rfl ?_
          refine zj_callV (av := [.inl p1, .inl p3, .inl x1]) (st := []) (zdk ttX8_stepThatKeeps 18 rfl rfl) mb_X8_worthOfStep mv_RX8_111 (ci := 8) rfl rfl (k_L108 s0) rfl rfl (Nat.le_of_ble_eq_true rfl) (s_X8_worthOfStep l h p1 p3 x1 s0 (by omega) (by omega) (by omega)) (rm_ok (by decide) (by decide)) (zq_i fun v71 h72 q70 => ?_)
          obtain ⟨rfl, b73⟩ := q70
          refine zj_aload_n (zdk ttX8_stepThatKeeps 19 rfl rfl) rfl (by decide) ?_
          refine zj_getr (r := 109) (zdk ttX8_stepThatKeeps 20 rfl rfl) zf_RX8_11 rfl (k_L108 s0) (rf_L108_0 s0) ?_
          refine zj_iload_n (zdk ttX8_stepThatKeeps 21 rfl rfl) rfl ?_
          have b74 : -2147483648 ≤ (h.2 109 p3) ∧ (h.2 109 p3) ≤ 2147483647 := ab_L108_0 s0 p3
          refine zj_iald (v := (h.2 109 p3)) (zdk ttX8_stepThatKeeps 22 rfl rfl) (ka_L108_0 s0) (by decide) (by omega) rfl ?_
          refine zj_icmp_ne (t := 42) (zdk ttX8_stepThatKeeps 23 rfl rfl) (by decide) (by omega) (by omega) (fun c75 => ?_) (fun c75 => ?_)
          · refine zj_iinc (L' := [some (.inr 108), some (.inl p1), some (.inl p2), some (.inl p3), some (.inl (x1 + 1))]) (zdk ttX8_stepThatKeeps 26 rfl rfl) rfl (by decide) rfl ?_
            refine zj_goto (t := 3) (zdk ttX8_stepThatKeeps 27 rfl rfl) (by decide) ?_
            exact ih65  (x1 + 1) (by omega) (by omega)
          · refine zj_iload (zdk ttX8_stepThatKeeps 24 rfl rfl) rfl ?_
            exact zj_iret rfl (zdk ttX8_stepThatKeeps 25 rfl rfl) (Nat.le_refl _) (Nat.le_refl _) ⟨x1, rfl, rfl, by omega⟩
  exact lp62 _ 1 (by omega) (Nat.lt_succ_self _)

abbrev tX9_valueOf : List (Nat × Instr × Nat) := [(0, .iload_n 1, 1), (1, .tableswitch 180 7 15 #[51, 61, 71, 81, 92, 100, 120, 128, 136], 51), (52, .aload_n 0, 1), (53, .getfield 12, 3), (56, .getfield 205, 3), (59, .iload_n 2, 1), (60, .iaload, 1), (61, .ireturn, 1), (62, .aload_n 0, 1), (63, .getfield 12, 3), (66, .getfield 202, 3), (69, .iload_n 2, 1), (70, .iaload, 1), (71, .ireturn, 1), (72, .aload_n 0, 1), (73, .getfield 12, 3), (76, .getfield 156, 3), (79, .iload_n 2, 1), (80, .iaload, 1), (81, .ireturn, 1), (82, .aload_n 0, 1), (83, .getfield 12, 3), (86, .getfield 153, 3), (89, .invokestatic 208, 3), (92, .ireturn, 1), (93, .aload_n 0, 1), (94, .getfield 12, 3), (97, .getfield 121, 3), (100, .ireturn, 1), (101, .sipush (-9999), 3), (104, .sipush 9999, 3), (107, .aload_n 0, 1), (108, .getfield 12, 3), (111, .getfield 159, 3), (114, .invokestatic 166, 3), (117, .invokestatic 171, 3), (120, .ireturn, 1), (121, .aload_n 0, 1), (122, .getfield 12, 3), (125, .getfield 114, 3), (128, .ireturn, 1), (129, .aload_n 0, 1), (130, .getfield 12, 3), (133, .getfield 108, 3), (136, .ireturn, 1), (137, .aload_n 0, 1), (138, .getfield 38, 3), (141, .getfield 214, 3), (144, .iload_n 2, 1), (145, .iaload, 1), (146, .aload_n 0, 1), (147, .getfield 12, 3), (150, .iload_n 2, 1), (151, .invokevirtual 124, 3), (154, .ifCond .eq 15, 3), (157, .aload_n 0, 1), (158, .getfield 12, 3), (161, .getfield 153, 3), (164, .iconst (-1), 1), (165, .ixor, 1), (166, .goto 10, 3), (169, .aload_n 0, 1), (170, .getfield 12, 3), (173, .getfield 153, 3), (176, .iand, 1), (177, .invokestatic 208, 3), (180, .ireturn, 1), (181, .aload_n 0, 1), (182, .getfield 12, 3), (185, .getfield 83, 3), (188, .ireturn, 1)]
theorem ttX9_valueOf : zdt cX9_valueOf tX9_valueOf = true := by decide +kernel
abbrev q_X9_valueOf (h : zM) (c : Int) (p1 : Int) (p2 : Int) : Option zV → zM → Prop := zqi fun v h' => h = h' ∧ ((-2147483648) ≤ v ∧ v ≤ 2147483647)
set_option maxRecDepth 100000 in
set_option maxHeartbeats 4000000 in
theorem s_X9_valueOf (l : Launch) (h : zM) (c : Int) (p1 : Int) (p2 : Int) (s0 : okC h) (hc : zWd c) (b_p1 : (-2147483648) ≤ p1 ∧ p1 ≤ 2147483647) (b_p2 : 0 ≤ p2 ∧ p2 ≤ 17) : zT shC l yX9_valueOf cX9_valueOf 3 (some .int) (rmL 2) 0 0 [.inr c, .inl p1, .inl p2] h (q_X9_valueOf h c p1 p2) := by
  refine zT_of (by decide +kernel) (L0 := [some (.inr c), some (.inl p1), some (.inl p2)]) rfl (Nat.le_of_ble_eq_true rfl) ?_
  have b1 := zWd_b hc
  refine zj_iload_n (zdk ttX9_valueOf 0 rfl rfl) rfl ?_
  have k3 : (p1 < 7 ∨ 15 < p1) → zJ shC l yX9_valueOf cX9_valueOf 3 (some .int) (rmL 2) 0 0 (q_X9_valueOf h c p1 p2) 0 0 181 [some (.inr c), some (.inl p1), some (.inl p2)] [] h := by
    intro c2
    refine zj_aload_n (zdk ttX9_valueOf 67 rfl rfl) rfl (by omega) ?_
    refine zj_getr (r := (c + 1)) (zdk ttX9_valueOf 68 rfl rfl) zf_RX9_12 rfl (k_9_0 s0 hc) (rf_9_0_0 s0 hc) ?_
    have b4 : -2147483648 ≤ (h.2 (c + 1) 12) ∧ (h.2 (c + 1) 12) ≤ 2147483647 := fb_9_1_12 s0 hc
    refine zj_geti (v := (h.2 (c + 1) 12)) (zdk ttX9_valueOf 69 rfl rfl) zf_RX9_83 rfl (k_9_1 s0 hc) rfl ?_
    exact zj_iret rfl (zdk ttX9_valueOf 70 rfl rfl) (Nat.le_refl _) (Nat.le_refl _) ⟨(h.2 (c + 1) 12), rfl, rfl, by omega⟩
  have k5 : p1 = 7 → zJ shC l yX9_valueOf cX9_valueOf 3 (some .int) (rmL 2) 0 0 (q_X9_valueOf h c p1 p2) 0 0 52 [some (.inr c), some (.inl p1), some (.inl p2)] [] h := by
    intro c2
    refine zj_aload_n (zdk ttX9_valueOf 2 rfl rfl) rfl (by omega) ?_
    refine zj_getr (r := (c + 1)) (zdk ttX9_valueOf 3 rfl rfl) zf_RX9_12 rfl (k_9_0 s0 hc) (rf_9_0_0 s0 hc) ?_
    refine zj_getr (r := (c + 2)) (zdk ttX9_valueOf 4 rfl rfl) zf_RX9_205 rfl (k_9_1 s0 hc) (rf_9_1_0 s0 hc) ?_
    refine zj_iload_n (zdk ttX9_valueOf 5 rfl rfl) rfl ?_
    have b6 : -2147483648 ≤ (h.2 (c + 2) p2) ∧ (h.2 (c + 2) p2) ≤ 2147483647 := ab_9_1_0 s0 hc p2
    refine zj_iald (v := (h.2 (c + 2) p2)) (zdk ttX9_valueOf 6 rfl rfl) (ka_9_1_0 s0 hc) (by decide) (by omega) rfl ?_
    exact zj_iret rfl (zdk ttX9_valueOf 7 rfl rfl) (Nat.le_refl _) (Nat.le_refl _) ⟨(h.2 (c + 2) p2), rfl, rfl, by omega⟩
  have k7 : p1 = 8 → zJ shC l yX9_valueOf cX9_valueOf 3 (some .int) (rmL 2) 0 0 (q_X9_valueOf h c p1 p2) 0 0 62 [some (.inr c), some (.inl p1), some (.inl p2)] [] h := by
    intro c2
    refine zj_aload_n (zdk ttX9_valueOf 8 rfl rfl) rfl (by omega) ?_
    refine zj_getr (r := (c + 1)) (zdk ttX9_valueOf 9 rfl rfl) zf_RX9_12 rfl (k_9_0 s0 hc) (rf_9_0_0 s0 hc) ?_
    refine zj_getr (r := (c + 3)) (zdk ttX9_valueOf 10 rfl rfl) zf_RX9_202 rfl (k_9_1 s0 hc) (rf_9_1_1 s0 hc) ?_
    refine zj_iload_n (zdk ttX9_valueOf 11 rfl rfl) rfl ?_
    have b8 : -2147483648 ≤ (h.2 (c + 3) p2) ∧ (h.2 (c + 3) p2) ≤ 2147483647 := ab_9_1_1 s0 hc p2
    refine zj_iald (v := (h.2 (c + 3) p2)) (zdk ttX9_valueOf 12 rfl rfl) (ka_9_1_1 s0 hc) (by decide) (by omega) rfl ?_
    exact zj_iret rfl (zdk ttX9_valueOf 13 rfl rfl) (Nat.le_refl _) (Nat.le_refl _) ⟨(h.2 (c + 3) p2), rfl, rfl, by omega⟩
  have k9 : p1 = 9 → zJ shC l yX9_valueOf cX9_valueOf 3 (some .int) (rmL 2) 0 0 (q_X9_valueOf h c p1 p2) 0 0 72 [some (.inr c), some (.inl p1), some (.inl p2)] [] h := by
    intro c2
    refine zj_aload_n (zdk ttX9_valueOf 14 rfl rfl) rfl (by omega) ?_
    refine zj_getr (r := (c + 1)) (zdk ttX9_valueOf 15 rfl rfl) zf_RX9_12 rfl (k_9_0 s0 hc) (rf_9_0_0 s0 hc) ?_
    refine zj_getr (r := (c + 4)) (zdk ttX9_valueOf 16 rfl rfl) zf_RX9_156 rfl (k_9_1 s0 hc) (rf_9_1_2 s0 hc) ?_
    refine zj_iload_n (zdk ttX9_valueOf 17 rfl rfl) rfl ?_
    have b10 : -2147483648 ≤ (h.2 (c + 4) p2) ∧ (h.2 (c + 4) p2) ≤ 2147483647 := ab_9_1_2 s0 hc p2
    refine zj_iald (v := (h.2 (c + 4) p2)) (zdk ttX9_valueOf 18 rfl rfl) (ka_9_1_2 s0 hc) (by decide) (by omega) rfl ?_
    exact zj_iret rfl (zdk ttX9_valueOf 19 rfl rfl) (Nat.le_refl _) (Nat.le_refl _) ⟨(h.2 (c + 4) p2), rfl, rfl, by omega⟩
  have k11 : p1 = 10 → zJ shC l yX9_valueOf cX9_valueOf 3 (some .int) (rmL 2) 0 0 (q_X9_valueOf h c p1 p2) 0 0 82 [some (.inr c), some (.inl p1), some (.inl p2)] [] h := by
    intro c2
    refine zj_aload_n (zdk ttX9_valueOf 20 rfl rfl) rfl (by omega) ?_
    refine zj_getr (r := (c + 1)) (zdk ttX9_valueOf 21 rfl rfl) zf_RX9_12 rfl (k_9_0 s0 hc) (rf_9_0_0 s0 hc) ?_
    have b12 : -2147483648 ≤ (h.2 (c + 1) 4) ∧ (h.2 (c + 1) 4) ≤ 2147483647 := fb_9_1_4 s0 hc
    refine zj_geti (v := (h.2 (c + 1) 4)) (zdk ttX9_valueOf 22 rfl rfl) zf_RX9_153 rfl (k_9_1 s0 hc) rfl ?_
    refine zj_callS (av := [.inl (h.2 (c + 1) 4)]) (st := []) (zdk ttX9_valueOf 23 rfl rfl) mb_J6_bitCount_0f7a4 ms_RX9_208 rfl rfl (Nat.le_of_ble_eq_true rfl) (s_J6_bitCount_0f7a4 shC l h (h.2 (c + 1) 4)) (rm_ok (by decide) (by decide)) (zq_i fun v13 h14 q15 => ?_)
    obtain ⟨rfl, b16⟩ := q15
    exact zj_iret rfl (zdk ttX9_valueOf 24 rfl rfl) (Nat.le_refl _) (Nat.le_refl _) ⟨v13, rfl, rfl, by omega⟩
  have k17 : p1 = 11 → zJ shC l yX9_valueOf cX9_valueOf 3 (some .int) (rmL 2) 0 0 (q_X9_valueOf h c p1 p2) 0 0 93 [some (.inr c), some (.inl p1), some (.inl p2)] [] h := by
    intro c2
    refine zj_aload_n (zdk ttX9_valueOf 25 rfl rfl) rfl (by omega) ?_
    refine zj_getr (r := (c + 1)) (zdk ttX9_valueOf 26 rfl rfl) zf_RX9_12 rfl (k_9_0 s0 hc) (rf_9_0_0 s0 hc) ?_
    have b18 : 0 ≤ (h.2 (c + 1) 3) ∧ (h.2 (c + 1) 3) ≤ 18 := fb_9_1_3 s0 hc
    refine zj_geti (v := (h.2 (c + 1) 3)) (zdk ttX9_valueOf 27 rfl rfl) zf_RX9_121 rfl (k_9_1 s0 hc) rfl ?_
    exact zj_iret rfl (zdk ttX9_valueOf 28 rfl rfl) (Nat.le_refl _) (Nat.le_refl _) ⟨(h.2 (c + 1) 3), rfl, rfl, by omega⟩
  have k19 : p1 = 12 → zJ shC l yX9_valueOf cX9_valueOf 3 (some .int) (rmL 2) 0 0 (q_X9_valueOf h c p1 p2) 0 0 101 [some (.inr c), some (.inl p1), some (.inl p2)] [] h := by
    intro c2
    refine zj_sipush (zdk ttX9_valueOf 29 rfl rfl) (by decide) ?_
    refine zj_sipush (zdk ttX9_valueOf 30 rfl rfl) (by decide) ?_
    refine zj_aload_n (zdk ttX9_valueOf 31 rfl rfl) rfl (by omega) ?_
    refine zj_getr (r := (c + 1)) (zdk ttX9_valueOf 32 rfl rfl) zf_RX9_12 rfl (k_9_0 s0 hc) (rf_9_0_0 s0 hc) ?_
    have b20 : -2147483648 ≤ (h.2 (c + 1) 7) ∧ (h.2 (c + 1) 7) ≤ 2147483647 := fb_9_1_7 s0 hc
    refine zj_geti (v := (h.2 (c + 1) 7)) (zdk ttX9_valueOf 33 rfl rfl) zf_RX9_159 rfl (k_9_1 s0 hc) rfl ?_
    refine zj_min (zdk ttX9_valueOf 34 rfl rfl) mx_RX9_166 (by decide) (by omega) (Nat.le_of_ble_eq_true rfl) (rm_m (by decide)) ?_
    have b21 := zm_min_f 9999 (h.2 (c + 1) 7)
    refine zj_max (zdk ttX9_valueOf 35 rfl rfl) mx_RX9_171 (by decide) (by omega) (Nat.le_of_ble_eq_true rfl) (rm_m (by decide)) ?_
    have b22 := zm_max_f (-9999) (zm_min 9999 (h.2 (c + 1) 7))
    exact zj_iret rfl (zdk ttX9_valueOf 36 rfl rfl) (Nat.le_refl _) (Nat.le_refl _) ⟨(zm_max (-9999) (zm_min 9999 (h.2 (c + 1) 7))), rfl, rfl, by omega⟩
  have k23 : p1 = 13 → zJ shC l yX9_valueOf cX9_valueOf 3 (some .int) (rmL 2) 0 0 (q_X9_valueOf h c p1 p2) 0 0 121 [some (.inr c), some (.inl p1), some (.inl p2)] [] h := by
    intro c2
    refine zj_aload_n (zdk ttX9_valueOf 37 rfl rfl) rfl (by omega) ?_
    refine zj_getr (r := (c + 1)) (zdk ttX9_valueOf 38 rfl rfl) zf_RX9_12 rfl (k_9_0 s0 hc) (rf_9_0_0 s0 hc) ?_
    have b24 : 0 ≤ (h.2 (c + 1) 6) ∧ (h.2 (c + 1) 6) ≤ 719 := fb_9_1_6 s0 hc
    refine zj_geti (v := (h.2 (c + 1) 6)) (zdk ttX9_valueOf 39 rfl rfl) zf_RX9_114 rfl (k_9_1 s0 hc) rfl ?_
    exact zj_iret rfl (zdk ttX9_valueOf 40 rfl rfl) (Nat.le_refl _) (Nat.le_refl _) ⟨(h.2 (c + 1) 6), rfl, rfl, by omega⟩
  have k25 : p1 = 14 → zJ shC l yX9_valueOf cX9_valueOf 3 (some .int) (rmL 2) 0 0 (q_X9_valueOf h c p1 p2) 0 0 129 [some (.inr c), some (.inl p1), some (.inl p2)] [] h := by
    intro c2
    refine zj_aload_n (zdk ttX9_valueOf 41 rfl rfl) rfl (by omega) ?_
    refine zj_getr (r := (c + 1)) (zdk ttX9_valueOf 42 rfl rfl) zf_RX9_12 rfl (k_9_0 s0 hc) (rf_9_0_0 s0 hc) ?_
    have b26 : -2147483648 ≤ (h.2 (c + 1) 10) ∧ (h.2 (c + 1) 10) ≤ 2147483647 := fb_9_1_10 s0 hc
    refine zj_geti (v := (h.2 (c + 1) 10)) (zdk ttX9_valueOf 43 rfl rfl) zf_RX9_108 rfl (k_9_1 s0 hc) rfl ?_
    exact zj_iret rfl (zdk ttX9_valueOf 44 rfl rfl) (Nat.le_refl _) (Nat.le_refl _) ⟨(h.2 (c + 1) 10), rfl, rfl, by omega⟩
  have k27 : p1 = 15 → zJ shC l yX9_valueOf cX9_valueOf 3 (some .int) (rmL 2) 0 0 (q_X9_valueOf h c p1 p2) 0 0 137 [some (.inr c), some (.inl p1), some (.inl p2)] [] h := by
    intro c2
    refine zj_aload_n (zdk ttX9_valueOf 45 rfl rfl) rfl (by omega) ?_
    refine zj_getr (r := (c + 20)) (zdk ttX9_valueOf 46 rfl rfl) zf_RX9_38 rfl (k_9_0 s0 hc) (rf_9_0_4 s0 hc) ?_
    refine zj_getr (r := (c + 21)) (zdk ttX9_valueOf 47 rfl rfl) zf_RX9_214 rfl (k_9_20 s0 hc) (rf_9_20_0 s0 hc) ?_
    refine zj_iload_n (zdk ttX9_valueOf 48 rfl rfl) rfl ?_
    have b28 : -2147483648 ≤ (h.2 (c + 21) p2) ∧ (h.2 (c + 21) p2) ≤ 2147483647 := ab_9_20_0 s0 hc p2
    refine zj_iald (v := (h.2 (c + 21) p2)) (zdk ttX9_valueOf 49 rfl rfl) (ka_9_20_0 s0 hc) (by decide) (by omega) rfl ?_
    refine zj_aload_n (zdk ttX9_valueOf 50 rfl rfl) rfl (by omega) ?_
    refine zj_getr (r := (c + 1)) (zdk ttX9_valueOf 51 rfl rfl) zf_RX9_12 rfl (k_9_0 s0 hc) (rf_9_0_0 s0 hc) ?_
    refine zj_iload_n (zdk ttX9_valueOf 52 rfl rfl) rfl ?_
    refine zj_callV (av := [.inl p2]) (st := [.inl (h.2 (c + 21) p2)]) (zdk ttX9_valueOf 53 rfl rfl) mb_X1_isHere mv_RX9_124 (ci := 1) rfl rfl (k_9_1 s0 hc) rfl rfl (Nat.le_of_ble_eq_true rfl) (s_X1_isHere l h (c + 1) p2 s0 (zs_9_1 hc) (by omega)) (rm_ok (by decide) (by decide)) (zq_i fun v30 h31 q29 => ?_)
    obtain ⟨rfl, b33, ⟨rfl, b32⟩ | ⟨rfl, b32⟩⟩ := q29
    · refine zj_if_eq (t := 169) (zdk ttX9_valueOf 54 rfl rfl) (by decide) (by decide) (fun c34 => ?_) (fun c34 => ?_)
      · refine zj_aload_n (zdk ttX9_valueOf 61 rfl rfl) rfl (by omega) ?_
        refine zj_getr (r := (c + 1)) (zdk ttX9_valueOf 62 rfl rfl) zf_RX9_12 rfl (k_9_0 s0 hc) (rf_9_0_0 s0 hc) ?_
        refine zj_geti (v := (h.2 (c + 1) 4)) (zdk ttX9_valueOf 63 rfl rfl) zf_RX9_153 rfl (k_9_1 s0 hc) rfl ?_
        refine zj_iand (zdk ttX9_valueOf 64 rfl rfl) ?_
        have b35 := zand_in (h.2 (c + 21) p2) (h.2 (c + 1) 4)
        refine zj_callS (av := [.inl (zand (h.2 (c + 21) p2) (h.2 (c + 1) 4))]) (st := []) (zdk ttX9_valueOf 65 rfl rfl) mb_J6_bitCount_0f7a4 ms_RX9_208 rfl rfl (Nat.le_of_ble_eq_true rfl) (s_J6_bitCount_0f7a4 shC l h (zand (h.2 (c + 21) p2) (h.2 (c + 1) 4))) (rm_ok (by decide) (by decide)) (zq_i fun v36 h37 q38 => ?_)
        obtain ⟨rfl, b39⟩ := q38
        exact zj_iret rfl (zdk ttX9_valueOf 66 rfl rfl) (Nat.le_refl _) (Nat.le_refl _) ⟨v36, rfl, rfl, by omega⟩
      · exact absurd c34 (by omega)
    · refine zj_if_eq (t := 169) (zdk ttX9_valueOf 54 rfl rfl) (by decide) (by decide) (fun c40 => ?_) (fun c40 => ?_)
      · exact absurd c40 (by omega)
      · refine zj_aload_n (zdk ttX9_valueOf 55 rfl rfl) rfl (by omega) ?_
        refine zj_getr (r := (c + 1)) (zdk ttX9_valueOf 56 rfl rfl) zf_RX9_12 rfl (k_9_0 s0 hc) (rf_9_0_0 s0 hc) ?_
        refine zj_geti (v := (h.2 (c + 1) 4)) (zdk ttX9_valueOf 57 rfl rfl) zf_RX9_153 rfl (k_9_1 s0 hc) rfl ?_
        refine zj_iconst (zdk ttX9_valueOf 58 rfl rfl) ?_
        refine zj_ixor (zdk ttX9_valueOf 59 rfl rfl) ?_
        have b41 := zxor_in (h.2 (c + 1) 4) (-1)
        refine zj_goto (t := 176) (zdk ttX9_valueOf 60 rfl rfl) (by decide) ?_
        refine zj_iand (zdk ttX9_valueOf 64 rfl rfl) ?_
        have b42 := zand_in (h.2 (c + 21) p2) (zxor (h.2 (c + 1) 4) (-1))
        refine zj_callS (av := [.inl (zand (h.2 (c + 21) p2) (zxor (h.2 (c + 1) 4) (-1)))]) (st := []) (zdk ttX9_valueOf 65 rfl rfl) mb_J6_bitCount_0f7a4 ms_RX9_208 rfl rfl (Nat.le_of_ble_eq_true rfl) (s_J6_bitCount_0f7a4 shC l h (zand (h.2 (c + 21) p2) (zxor (h.2 (c + 1) 4) (-1)))) (rm_ok (by decide) (by decide)) (zq_i fun v43 h44 q45 => ?_)
        obtain ⟨rfl, b46⟩ := q45
        exact zj_iret rfl (zdk ttX9_valueOf 66 rfl rfl) (Nat.le_refl _) (Nat.le_refl _) ⟨v43, rfl, rfl, by omega⟩
  refine zj_table (t := 181) (zdk ttX9_valueOf 1 rfl rfl) (by omega) (by decide) k3 (fun z1 z2 => ?_)
  have z3 : p1 = 7 ∨ p1 = 8 ∨ p1 = 9 ∨ p1 = 10 ∨ p1 = 11 ∨ p1 = 12 ∨ p1 = 13 ∨ p1 = 14 ∨ p1 = 15 := by omega
  rcases z3 with z3 | z3 | z3 | z3 | z3 | z3 | z3 | z3 | z3
  · exact ⟨51, 52, by rw [z3] <;> rfl, by decide, k5 z3⟩
  · exact ⟨61, 62, by rw [z3] <;> rfl, by decide, k7 z3⟩
  · exact ⟨71, 72, by rw [z3] <;> rfl, by decide, k9 z3⟩
  · exact ⟨81, 82, by rw [z3] <;> rfl, by decide, k11 z3⟩
  · exact ⟨92, 93, by rw [z3] <;> rfl, by decide, k17 z3⟩
  · exact ⟨100, 101, by rw [z3] <;> rfl, by decide, k19 z3⟩
  · exact ⟨120, 121, by rw [z3] <;> rfl, by decide, k23 z3⟩
  · exact ⟨128, 129, by rw [z3] <;> rfl, by decide, k25 z3⟩
  · exact ⟨136, 137, by rw [z3] <;> rfl, by decide, k27 z3⟩

abbrev tX3_run : List (Nat × Instr × Nat) := [(0, .iconst 0, 1), (1, .istore 5, 2), (3, .iload_n 1, 1), (4, .istore 6, 2), (6, .iload 6, 2), (8, .iload_n 2, 1), (9, .if_icmp .ge 158, 3), (12, .iload 6, 2), (14, .sipush 400, 3), (17, .if_icmp .ge 150, 3), (20, .aload_n 0, 1), (21, .getfield 26, 3), (24, .iload 6, 2), (26, .iaload, 1), (27, .istore 7, 2), (29, .iload 7, 2), (31, .sipush 20000, 3), (34, .if_icmp .ge 48, 3), (37, .iload 5, 2), (39, .bipush 64, 2), (41, .if_icmp .ge 120, 3), (44, .aload_n 0, 1), (45, .getfield 29, 3), (48, .iload 5, 2), (50, .iinc 5 1, 3), (53, .iload 7, 2), (55, .sipush 10000, 3), (58, .if_icmp .ge 8, 3), (61, .iload 7, 2), (63, .goto 15, 3), (66, .aload_n 3, 1), (67, .iload 7, 2), (69, .sipush 10000, 3), (72, .isub, 1), (73, .iload 4, 2), (75, .invokevirtual 45, 3), (78, .iastore, 1), (79, .goto 82, 3), (82, .iload 7, 2), (84, .sipush 20006, 3), (87, .if_icmp .ne 31, 3), (90, .iload 5, 2), (92, .ifCond .le 69, 3), (95, .aload_n 0, 1), (96, .getfield 29, 3), (99, .iload 5, 2), (101, .iconst 1, 1), (102, .isub, 1), (103, .iconst 1, 1), (104, .aload_n 0, 1), (105, .getfield 29, 3), (108, .iload 5, 2), (110, .iconst 1, 1), (111, .isub, 1), (112, .iaload, 1), (113, .isub, 1), (114, .iastore, 1), (115, .goto 46, 3), (118, .iload 5, 2), (120, .iconst 1, 1), (121, .if_icmp .le 40, 3), (124, .iinc 5 (-1), 3), (127, .aload_n 0, 1), (128, .getfield 29, 3), (131, .iload 5, 2), (133, .iconst 1, 1), (134, .isub, 1), (135, .iload 7, 2), (137, .sipush 20000, 3), (140, .isub, 1), (141, .aload_n 0, 1), (142, .getfield 29, 3), (145, .iload 5, 2), (147, .iconst 1, 1), (148, .isub, 1), (149, .iaload, 1), (150, .aload_n 0, 1), (151, .getfield 29, 3), (154, .iload 5, 2), (156, .iaload, 1), (157, .invokestatic 51, 3), (160, .iastore, 1), (161, .iinc 6 1, 3), (164, .goto (-158), 3), (167, .iload 5, 2), (169, .ifCond .le 15, 3), (172, .aload_n 0, 1), (173, .getfield 29, 3), (176, .iload 5, 2), (178, .iconst 1, 1), (179, .isub, 1), (180, .iaload, 1), (181, .goto 4, 3), (184, .iconst 0, 1), (185, .ireturn, 1)]
theorem ttX3_run : zdt cX3_run tX3_run = true := by decide +kernel
abbrev w_X3_run (c a b : Int) : Prop := a = c + 6
abbrev q_X3_run (h : zM) (c : Int) (p1 : Int) (p2 : Int) (p3 : Int) (p4 : Int) : Option zV → zM → Prop := zqi fun v h' => ((-2147483648) ≤ v ∧ v ≤ 2147483647) ∧ okC h' ∧ zfC (w_X3_run c) h h'
set_option maxRecDepth 100000 in
set_option maxHeartbeats 4000000 in
theorem s_X3_run (l : Launch) (h : zM) (c : Int) (p1 : Int) (p2 : Int) (p3 : Int) (p4 : Int) (s0 : okC h) (hc : zLw c) (b_p1 : 0 ≤ p1 ∧ p1 ≤ 400) (b_p2 : 0 ≤ p2 ∧ p2 ≤ 400) (r_p3 : zWd p3) (b_p4 : 0 ≤ p4 ∧ p4 ≤ 17) : zT shC l yX3_run cX3_run 8 (some .int) (rmL 3) 0 0 [.inr c, .inl p1, .inl p2, .inr p3, .inl p4] h (q_X3_run h c p1 p2 p3 p4) := by
  refine zT_of (by decide +kernel) (L0 := [some (.inr c), some (.inl p1), some (.inl p2), some (.inr p3), some (.inl p4), none, none, none]) rfl (Nat.le_of_ble_eq_true rfl) ?_
  have b1 := zLw_b hc
  have b2 := zWd_b r_p3
  refine zj_iconst (zdk ttX3_run 0 rfl rfl) ?_
  refine zj_istore (L' := [some (.inr c), some (.inl p1), some (.inl p2), some (.inr p3), some (.inl p4), some (.inl 0), none, none]) (zdk ttX3_run 1 rfl rfl) (by decide) rfl ?_
  refine zj_iload_n (zdk ttX3_run 2 rfl rfl) rfl ?_
  refine zj_istore (L' := [some (.inr c), some (.inl p1), some (.inl p2), some (.inr p3), some (.inl p4), some (.inl 0), some (.inl p1), none]) (zdk ttX3_run 3 rfl rfl) (by decide) rfl ?_
  have lp249 : ∀ (n : Nat) (x3 x4 : Int) (h5 : zM), (0 ≤ x3 ∧ x3 ≤ 64) → (0 ≤ x4 ∧ x4 ≤ 400) → okC h5 → zfC (w_X3_run c) h h5 → (401 - x4).toNat < n → zJ shC l yX3_run cX3_run 8 (some .int) (rmL 3) 0 0 (q_X3_run h c p1 p2 p3 p4) 0 0 6 [some (.inr c), some (.inl p1), some (.inl p2), some (.inr p3), some (.inl p4), some (.inl x3), some (.inl x4), none] [] h5 := by
    intro n
    induction n with
    | zero => intro x3 x4 h5 b250 b251 s6 f7 m252; exact absurd m252 (Nat.not_lt_zero _)
    | succ n ih253 =>
      intro x3 x4 h5 b250 b251 s6 f7 m252
      refine zj_iload (zdk ttX3_run 4 rfl rfl) rfl ?_
      refine zj_iload_n (zdk ttX3_run 5 rfl rfl) rfl ?_
      refine zj_icmp_ge (t := 167) (zdk ttX3_run 6 rfl rfl) (by decide) (by omega) (by omega) (fun c254 => ?_) (fun c254 => ?_)
      · refine zj_iload (zdk ttX3_run 84 rfl rfl) rfl ?_
        refine zj_if_le (t := 184) (zdk ttX3_run 85 rfl rfl) (by decide) (by omega) (fun c255 => ?_) (fun c255 => ?_)
        · refine zj_iconst (zdk ttX3_run 93 rfl rfl) ?_
          exact zj_iret rfl (zdk ttX3_run 94 rfl rfl) (Nat.le_refl _) (Nat.le_refl _) ⟨0, rfl, by omega, s6, f7⟩
        · refine zj_aload_n (zdk ttX3_run 86 rfl rfl) rfl (by omega) ?_
          refine zj_getr (r := (c + 6)) (zdk ttX3_run 87 rfl rfl) zf_RX3_29 rfl (k_3_0 s6 hc) (rf_3_0_5 s6 hc) ?_
          refine zj_iload (zdk ttX3_run 88 rfl rfl) rfl ?_
          refine zj_iconst (zdk ttX3_run 89 rfl rfl) ?_
          refine zj_isub (zdk ttX3_run 90 rfl rfl) ?_
          have b256 : -2147483648 ≤ (h5.2 (c + 6) (x3 - 1)) ∧ (h5.2 (c + 6) (x3 - 1)) ≤ 2147483647 := ab_3_0_5 s6 hc (x3 - 1)
          refine zj_iald (v := (h5.2 (c + 6) (x3 - 1))) (zdk ttX3_run 91 rfl rfl) (ka_3_0_5 s6 hc) (by decide) (by omega) rfl ?_
          refine zj_goto (t := 185) (zdk ttX3_run 92 rfl rfl) (by decide) ?_
          exact zj_iret rfl (zdk ttX3_run 94 rfl rfl) (Nat.le_refl _) (Nat.le_refl _) ⟨(h5.2 (c + 6) (x3 - 1)), rfl, by omega, s6, f7⟩
      · refine zj_iload (zdk ttX3_run 7 rfl rfl) rfl ?_
        refine zj_sipush (zdk ttX3_run 8 rfl rfl) (by decide) ?_
        refine zj_icmp_ge (t := 167) (zdk ttX3_run 9 rfl rfl) (by decide) (by omega) (by decide) (fun c257 => ?_) (fun c257 => ?_)
        · exact absurd c257 (by omega)
        · refine zj_aload_n (zdk ttX3_run 10 rfl rfl) rfl (by omega) ?_
          refine zj_getr (r := (c + 5)) (zdk ttX3_run 11 rfl rfl) zf_RX3_26 rfl (k_3_0 s6 hc) (rf_3_0_4 s6 hc) ?_
          refine zj_iload (zdk ttX3_run 12 rfl rfl) rfl ?_
          have b258 : -2147483648 ≤ (h.2 (c + 5) x4) ∧ (h.2 (c + 5) x4) ≤ 2147483647 := ab_3_0_4 s0 hc x4
          refine zj_iald (v := (h.2 (c + 5) x4)) (zdk ttX3_run 13 rfl rfl) (ka_3_0_4 s6 hc) (by decide) (by omega) (zfC_a f7 (fun z9 => by unfold w_X3_run at z9; first | (revert z9; decide) | omega)) ?_
          refine zj_istore (L' := [some (.inr c), some (.inl p1), some (.inl p2), some (.inr p3), some (.inl p4), some (.inl x3), some (.inl x4), some (.inl (h.2 (c + 5) x4))]) (zdk ttX3_run 14 rfl rfl) (by decide) rfl ?_
          refine zj_iload (zdk ttX3_run 15 rfl rfl) rfl ?_
          refine zj_sipush (zdk ttX3_run 16 rfl rfl) (by decide) ?_
          refine zj_icmp_ge (t := 82) (zdk ttX3_run 17 rfl rfl) (by decide) (by omega) (by decide) (fun c259 => ?_) (fun c259 => ?_)
          · refine zj_iload (zdk ttX3_run 38 rfl rfl) rfl ?_
            refine zj_sipush (zdk ttX3_run 39 rfl rfl) (by decide) ?_
            refine zj_icmp_ne (t := 118) (zdk ttX3_run 40 rfl rfl) (by decide) (by omega) (by decide) (fun c260 => ?_) (fun c260 => ?_)
            · refine zj_iload (zdk ttX3_run 58 rfl rfl) rfl ?_
              refine zj_iconst (zdk ttX3_run 59 rfl rfl) ?_
              refine zj_icmp_le (t := 161) (zdk ttX3_run 60 rfl rfl) (by decide) (by omega) (by decide) (fun c261 => ?_) (fun c261 => ?_)
              · refine zj_iinc (L' := [some (.inr c), some (.inl p1), some (.inl p2), some (.inr p3), some (.inl p4), some (.inl x3), some (.inl (x4 + 1)), some (.inl (h.2 (c + 5) x4))]) (zdk ttX3_run 82 rfl rfl) rfl (by decide) rfl ?_
                refine zj_goto (t := 6) (zdk ttX3_run 83 rfl rfl) (by decide) ?_
                refine zj_kill (k := 7) (L' := [some (.inr c), some (.inl p1), some (.inl p2), some (.inr p3), some (.inl p4), some (.inl x3), some (.inl (x4 + 1)), none]) rfl ?_
                exact ih253  x3 (x4 + 1) h5 (by omega) (by omega) s6 f7 (by omega)
              · refine zj_iinc (L' := [some (.inr c), some (.inl p1), some (.inl p2), some (.inr p3), some (.inl p4), some (.inl (x3 + (-1))), some (.inl x4), some (.inl (h.2 (c + 5) x4))]) (zdk ttX3_run 61 rfl rfl) rfl (by decide) rfl ?_
                refine zj_aload_n (zdk ttX3_run 62 rfl rfl) rfl (by omega) ?_
                refine zj_getr (r := (c + 6)) (zdk ttX3_run 63 rfl rfl) zf_RX3_29 rfl (k_3_0 s6 hc) (rf_3_0_5 s6 hc) ?_
                refine zj_iload (zdk ttX3_run 64 rfl rfl) rfl ?_
                refine zj_iconst (zdk ttX3_run 65 rfl rfl) ?_
                refine zj_isub (zdk ttX3_run 66 rfl rfl) ?_
                refine zj_iload (zdk ttX3_run 67 rfl rfl) rfl ?_
                refine zj_sipush (zdk ttX3_run 68 rfl rfl) (by decide) ?_
                refine zj_isub (zdk ttX3_run 69 rfl rfl) ?_
                refine zj_aload_n (zdk ttX3_run 70 rfl rfl) rfl (by omega) ?_
                refine zj_getr (r := (c + 6)) (zdk ttX3_run 71 rfl rfl) zf_RX3_29 rfl (k_3_0 s6 hc) (rf_3_0_5 s6 hc) ?_
                refine zj_iload (zdk ttX3_run 72 rfl rfl) rfl ?_
                refine zj_iconst (zdk ttX3_run 73 rfl rfl) ?_
                refine zj_isub (zdk ttX3_run 74 rfl rfl) ?_
                have b262 : -2147483648 ≤ (h5.2 (c + 6) ((x3 + (-1)) - 1)) ∧ (h5.2 (c + 6) ((x3 + (-1)) - 1)) ≤ 2147483647 := ab_3_0_5 s6 hc ((x3 + (-1)) - 1)
                refine zj_iald (v := (h5.2 (c + 6) ((x3 + (-1)) - 1))) (zdk ttX3_run 75 rfl rfl) (ka_3_0_5 s6 hc) (by decide) (by omega) rfl ?_
                refine zj_aload_n (zdk ttX3_run 76 rfl rfl) rfl (by omega) ?_
                refine zj_getr (r := (c + 6)) (zdk ttX3_run 77 rfl rfl) zf_RX3_29 rfl (k_3_0 s6 hc) (rf_3_0_5 s6 hc) ?_
                refine zj_iload (zdk ttX3_run 78 rfl rfl) rfl ?_
                have b263 : -2147483648 ≤ (h5.2 (c + 6) (x3 + (-1))) ∧ (h5.2 (c + 6) (x3 + (-1))) ≤ 2147483647 := ab_3_0_5 s6 hc (x3 + (-1))
                refine zj_iald (v := (h5.2 (c + 6) (x3 + (-1)))) (zdk ttX3_run 79 rfl rfl) (ka_3_0_5 s6 hc) (by decide) (by omega) rfl ?_
                refine zj_callS (av := [.inl ((h.2 (c + 5) x4) - 20000), .inl (h5.2 (c + 6) ((x3 + (-1)) - 1)), .inl (h5.2 (c + 6) (x3 + (-1)))]) (st := [.inl ((x3 + (-1)) - 1), .inr (c + 6)]) (zdk ttX3_run 80 rfl rfl) mb_X3_joined ms_RX3_51 rfl rfl (Nat.le_of_ble_eq_true rfl) (s_X3_joined l h5 ((h.2 (c + 5) x4) - 20000) (h5.2 (c + 6) ((x3 + (-1)) - 1)) (h5.2 (c + 6) (x3 + (-1))) s6 (by omega) (by omega) (by omega)) (rm_ok (by decide) (by decide)) (zq_i fun v265 h266 q264 => ?_)
                obtain ⟨rfl, b267⟩ := q264
                refine zj_iast (zdk ttX3_run 81 rfl rfl) (ka_3_0_5 s6 hc) (by decide) (by omega) (fun h268 e269 => ?_)
                refine zj_iinc (L' := [some (.inr c), some (.inl p1), some (.inl p2), some (.inr p3), some (.inl p4), some (.inl (x3 + (-1))), some (.inl (x4 + 1)), some (.inl (h.2 (c + 5) x4))]) (zdk ttX3_run 82 rfl rfl) rfl (by decide) rfl ?_
                refine zj_goto (t := 6) (zdk ttX3_run 83 rfl rfl) (by decide) ?_
                refine zj_kill (k := 7) (L' := [some (.inr c), some (.inl p1), some (.inl p2), some (.inr p3), some (.inl p4), some (.inl (x3 + (-1))), some (.inl (x4 + 1)), none]) rfl ?_
                have s270 : okC h268 := aw_3_0_5 s6 hc e269 (by omega)
                have f271 : zfC (w_X3_run c) h h268 := zfC_w f7 e269 (by omega)
                exact ih253  (x3 + (-1)) (x4 + 1) h268 (by omega) (by omega) s270 f271 (by omega)
            · refine zj_iload (zdk ttX3_run 41 rfl rfl) rfl ?_
              refine zj_if_le (t := 161) (zdk ttX3_run 42 rfl rfl) (by decide) (by omega) (fun c272 => ?_) (fun c272 => ?_)
              · refine zj_iinc (L' := [some (.inr c), some (.inl p1), some (.inl p2), some (.inr p3), some (.inl p4), some (.inl x3), some (.inl (x4 + 1)), some (.inl (h.2 (c + 5) x4))]) (zdk ttX3_run 82 rfl rfl) rfl (by decide) rfl ?_
                refine zj_goto (t := 6) (zdk ttX3_run 83 rfl rfl) (by decide) ?_
                refine zj_kill (k := 7) (L' := [some (.inr c), some (.inl p1), some (.inl p2), some (.inr p3), some (.inl p4), some (.inl x3), some (.inl (x4 + 1)), none]) rfl ?_
                exact ih253  x3 (x4 + 1) h5 (by omega) (by omega) s6 f7 (by omega)
              · refine zj_aload_n (zdk ttX3_run 43 rfl rfl) rfl (by omega) ?_
                refine zj_getr (r := (c + 6)) (zdk ttX3_run 44 rfl rfl) zf_RX3_29 rfl (k_3_0 s6 hc) (rf_3_0_5 s6 hc) ?_
                refine zj_iload (zdk ttX3_run 45 rfl rfl) rfl ?_
                refine zj_iconst (zdk ttX3_run 46 rfl rfl) ?_
                refine zj_isub (zdk ttX3_run 47 rfl rfl) ?_
                refine zj_iconst (zdk ttX3_run 48 rfl rfl) ?_
                refine zj_aload_n (zdk ttX3_run 49 rfl rfl) rfl (by omega) ?_
                refine zj_getr (r := (c + 6)) (zdk ttX3_run 50 rfl rfl) zf_RX3_29 rfl (k_3_0 s6 hc) (rf_3_0_5 s6 hc) ?_
                refine zj_iload (zdk ttX3_run 51 rfl rfl) rfl ?_
                refine zj_iconst (zdk ttX3_run 52 rfl rfl) ?_
                refine zj_isub (zdk ttX3_run 53 rfl rfl) ?_
                have b273 : -2147483648 ≤ (h5.2 (c + 6) (x3 - 1)) ∧ (h5.2 (c + 6) (x3 - 1)) ≤ 2147483647 := ab_3_0_5 s6 hc (x3 - 1)
                refine zj_iald (v := (h5.2 (c + 6) (x3 - 1))) (zdk ttX3_run 54 rfl rfl) (ka_3_0_5 s6 hc) (by decide) (by omega) rfl ?_
                refine zj_isub (zdk ttX3_run 55 rfl rfl) ?_
                refine zj_wrap ?_
                have b274 := zwp_in (1 - (h5.2 (c + 6) (x3 - 1)))
                refine zj_iast (zdk ttX3_run 56 rfl rfl) (ka_3_0_5 s6 hc) (by decide) (by omega) (fun h275 e276 => ?_)
                refine zj_goto (t := 161) (zdk ttX3_run 57 rfl rfl) (by decide) ?_
                refine zj_iinc (L' := [some (.inr c), some (.inl p1), some (.inl p2), some (.inr p3), some (.inl p4), some (.inl x3), some (.inl (x4 + 1)), some (.inl (h.2 (c + 5) x4))]) (zdk ttX3_run 82 rfl rfl) rfl (by decide) rfl ?_
                refine zj_goto (t := 6) (zdk ttX3_run 83 rfl rfl) (by decide) ?_
                refine zj_kill (k := 7) (L' := [some (.inr c), some (.inl p1), some (.inl p2), some (.inr p3), some (.inl p4), some (.inl x3), some (.inl (x4 + 1)), none]) rfl ?_
                have s277 : okC h275 := aw_3_0_5 s6 hc e276 (by omega)
                have f278 : zfC (w_X3_run c) h h275 := zfC_w f7 e276 (by omega)
                exact ih253  x3 (x4 + 1) h275 (by omega) (by omega) s277 f278 (by omega)
          · refine zj_iload (zdk ttX3_run 18 rfl rfl) rfl ?_
            refine zj_bipush (zdk ttX3_run 19 rfl rfl) (by decide) ?_
            refine zj_icmp_ge (t := 161) (zdk ttX3_run 20 rfl rfl) (by decide) (by omega) (by decide) (fun c279 => ?_) (fun c279 => ?_)
            · refine zj_iinc (L' := [some (.inr c), some (.inl p1), some (.inl p2), some (.inr p3), some (.inl p4), some (.inl x3), some (.inl (x4 + 1)), some (.inl (h.2 (c + 5) x4))]) (zdk ttX3_run 82 rfl rfl) rfl (by decide) rfl ?_
              refine zj_goto (t := 6) (zdk ttX3_run 83 rfl rfl) (by decide) ?_
              refine zj_kill (k := 7) (L' := [some (.inr c), some (.inl p1), some (.inl p2), some (.inr p3), some (.inl p4), some (.inl x3), some (.inl (x4 + 1)), none]) rfl ?_
              exact ih253  x3 (x4 + 1) h5 (by omega) (by omega) s6 f7 (by omega)
            · refine zj_aload_n (zdk ttX3_run 21 rfl rfl) rfl (by omega) ?_
              refine zj_getr (r := (c + 6)) (zdk ttX3_run 22 rfl rfl) zf_RX3_29 rfl (k_3_0 s6 hc) (rf_3_0_5 s6 hc) ?_
              refine zj_iload (zdk ttX3_run 23 rfl rfl) rfl ?_
              refine zj_iinc (L' := [some (.inr c), some (.inl p1), some (.inl p2), some (.inr p3), some (.inl p4), some (.inl (x3 + 1)), some (.inl x4), some (.inl (h.2 (c + 5) x4))]) (zdk ttX3_run 24 rfl rfl) rfl (by decide) rfl ?_
              refine zj_iload (zdk ttX3_run 25 rfl rfl) rfl ?_
              refine zj_sipush (zdk ttX3_run 26 rfl rfl) (by decide) ?_
              refine zj_icmp_ge (t := 66) (zdk ttX3_run 27 rfl rfl) (by decide) (by omega) (by decide) (fun c280 => ?_) (fun c280 => ?_)
              · refine zj_aload_n (zdk ttX3_run 30 rfl rfl) rfl (by omega) ?_
                refine zj_iload (zdk ttX3_run 31 rfl rfl) rfl ?_
                refine zj_sipush (zdk ttX3_run 32 rfl rfl) (by decide) ?_
                refine zj_isub (zdk ttX3_run 33 rfl rfl) ?_
                refine zj_iload (zdk ttX3_run 34 rfl rfl) rfl ?_
                refine zj_callV (av := [.inl ((h.2 (c + 5) x4) - 10000), .inl p4]) (st := [.inl x3, .inr (c + 6)]) (zdk ttX3_run 35 rfl rfl) mb_X9_valueOf mv_RX3_45 (ci := 9) rfl rfl (k_9_0 s6 r_p3) rfl rfl (Nat.le_of_ble_eq_true rfl) (s_X9_valueOf l h5 p3 ((h.2 (c + 5) x4) - 10000) p4 s6 r_p3 (by omega) (by omega)) (rm_ok (by decide) (by decide)) (zq_i fun v282 h283 q281 => ?_)
                obtain ⟨rfl, b284⟩ := q281
                refine zj_iast (zdk ttX3_run 36 rfl rfl) (ka_3_0_5 s6 hc) (by decide) (by omega) (fun h285 e286 => ?_)
                refine zj_goto (t := 161) (zdk ttX3_run 37 rfl rfl) (by decide) ?_
                refine zj_iinc (L' := [some (.inr c), some (.inl p1), some (.inl p2), some (.inr p3), some (.inl p4), some (.inl (x3 + 1)), some (.inl (x4 + 1)), some (.inl (h.2 (c + 5) x4))]) (zdk ttX3_run 82 rfl rfl) rfl (by decide) rfl ?_
                refine zj_goto (t := 6) (zdk ttX3_run 83 rfl rfl) (by decide) ?_
                refine zj_kill (k := 7) (L' := [some (.inr c), some (.inl p1), some (.inl p2), some (.inr p3), some (.inl p4), some (.inl (x3 + 1)), some (.inl (x4 + 1)), none]) rfl ?_
                have s287 : okC h285 := aw_3_0_5 s6 hc e286 (by omega)
                have f288 : zfC (w_X3_run c) h h285 := zfC_w f7 e286 (by omega)
                exact ih253  (x3 + 1) (x4 + 1) h285 (by omega) (by omega) s287 f288 (by omega)
              · refine zj_iload (zdk ttX3_run 28 rfl rfl) rfl ?_
                refine zj_goto (t := 78) (zdk ttX3_run 29 rfl rfl) (by decide) ?_
                refine zj_iast (zdk ttX3_run 36 rfl rfl) (ka_3_0_5 s6 hc) (by decide) (by omega) (fun h289 e290 => ?_)
                refine zj_goto (t := 161) (zdk ttX3_run 37 rfl rfl) (by decide) ?_
                refine zj_iinc (L' := [some (.inr c), some (.inl p1), some (.inl p2), some (.inr p3), some (.inl p4), some (.inl (x3 + 1)), some (.inl (x4 + 1)), some (.inl (h.2 (c + 5) x4))]) (zdk ttX3_run 82 rfl rfl) rfl (by decide) rfl ?_
                refine zj_goto (t := 6) (zdk ttX3_run 83 rfl rfl) (by decide) ?_
                refine zj_kill (k := 7) (L' := [some (.inr c), some (.inl p1), some (.inl p2), some (.inr p3), some (.inl p4), some (.inl (x3 + 1)), some (.inl (x4 + 1)), none]) rfl ?_
                have s291 : okC h289 := aw_3_0_5 s6 hc e290 (by omega)
                have f292 : zfC (w_X3_run c) h h289 := zfC_w f7 e290 (by omega)
                exact ih253  (x3 + 1) (x4 + 1) h289 (by omega) (by omega) s291 f292 (by omega)
  exact lp249 _ 0 p1 h (by omega) (by omega) s0 (zfC_r _ _) (Nat.lt_succ_self _)

abbrev tX9_tells : List (Nat × Instr × Nat) := [(0, .iload_n 1, 1), (1, .iconst 1, 1), (2, .if_icmp .ne 9, 3), (5, .sipush 999, 3), (8, .goto 6, 3), (11, .sipush 1000, 3), (14, .istore_n 3, 1), (15, .iconst 0, 1), (16, .istore 4, 2), (18, .iload 4, 2), (20, .aload_n 0, 1), (21, .getfield 21, 3), (24, .getfield 182, 3), (27, .if_icmp .ge 127, 3), (30, .aload_n 0, 1), (31, .getfield 21, 3), (34, .getfield 183, 3), (37, .iload 4, 2), (39, .iaload, 1), (40, .iload_n 1, 1), (41, .if_icmp .eq 6, 3), (44, .goto 104, 3), (47, .aload_n 0, 1), (48, .getfield 21, 3), (51, .getfield 186, 3), (54, .iload 4, 2), (56, .iaload, 1), (57, .aload_n 0, 1), (58, .getfield 21, 3), (61, .getfield 189, 3), (64, .iload 4, 2), (66, .iaload, 1), (67, .if_icmp .ne 7, 3), (70, .iconst 1, 1), (71, .goto 4, 3), (74, .iconst 0, 1), (75, .istore 5, 2), (77, .iload 5, 2), (79, .ifCond .ne 35, 3), (82, .aload_n 0, 1), (83, .getfield 21, 3), (86, .aload_n 0, 1), (87, .getfield 21, 3), (90, .getfield 186, 3), (93, .iload 4, 2), (95, .iaload, 1), (96, .aload_n 0, 1), (97, .getfield 21, 3), (100, .getfield 189, 3), (103, .iload 4, 2), (105, .iaload, 1), (106, .aload_n 0, 1), (107, .iload_n 2, 1), (108, .invokevirtual 192, 3), (111, .ifCond .eq 37, 3), (114, .aload_n 0, 1), (115, .getfield 21, 3), (118, .aload_n 0, 1), (119, .getfield 21, 3), (122, .getfield 196, 3), (125, .iload 4, 2), (127, .iaload, 1), (128, .aload_n 0, 1), (129, .getfield 21, 3), (132, .getfield 186, 3), (135, .iload 4, 2), (137, .iaload, 1), (138, .aload_n 0, 1), (139, .iload_n 2, 1), (140, .invokevirtual 192, 3), (143, .iload_n 3, 1), (144, .invokestatic 199, 3), (147, .ireturn, 1), (148, .iinc 4 1, 3), (151, .goto (-133), 3), (154, .iload_n 1, 1), (155, .lookupswitch 56 #[(0, 25), (1, 42)], 25), (180, .bipush 80, 2), (182, .aload_n 0, 1), (183, .getfield 12, 3), (186, .getfield 202, 3), (189, .iload_n 2, 1), (190, .iaload, 1), (191, .imul, 1), (192, .iload_n 3, 1), (193, .invokestatic 199, 3), (196, .ireturn, 1), (197, .aload_n 0, 1), (198, .getfield 12, 3), (201, .getfield 205, 3), (204, .iload_n 2, 1), (205, .iaload, 1), (206, .iload_n 3, 1), (207, .invokestatic 199, 3), (210, .ireturn, 1), (211, .sipush 500, 3), (214, .bipush 50, 2), (216, .aload_n 0, 1), (217, .getfield 12, 3), (220, .getfield 202, 3), (223, .iload_n 2, 1), (224, .iaload, 1), (225, .imul, 1), (226, .isub, 1), (227, .iload_n 3, 1), (228, .invokestatic 199, 3), (231, .ireturn, 1)]
theorem ttX9_tells : zdt cX9_tells tX9_tells = true := by decide +kernel
abbrev w_X9_tells (c a b : Int) : Prop := a = c + 11
abbrev q_X9_tells (h : zM) (c : Int) (p1 : Int) (p2 : Int) : Option zV → zM → Prop := zqi fun v h' => (0 ≤ v ∧ v ≤ 1000) ∧ okC h' ∧ zfC (w_X9_tells c) h h'
set_option maxRecDepth 100000 in
set_option maxHeartbeats 4000000 in
theorem s_X9_tells (l : Launch) (h : zM) (c : Int) (p1 : Int) (p2 : Int) (s0 : okC h) (hc : zWd c) (b_p1 : (-2147483648) ≤ p1 ∧ p1 ≤ 2147483647) (b_p2 : 0 ≤ p2 ∧ p2 ≤ 17) : zT shC l yX9_tells cX9_tells 6 (some .int) (rmL 4) 0 0 [.inr c, .inl p1, .inl p2] h (q_X9_tells h c p1 p2) := by
  refine zT_of (by decide +kernel) (L0 := [some (.inr c), some (.inl p1), some (.inl p2), none, none, none]) rfl (Nat.le_of_ble_eq_true rfl) ?_
  have b1 := zWd_b hc
  refine zj_iload_n (zdk ttX9_tells 0 rfl rfl) rfl ?_
  refine zj_iconst (zdk ttX9_tells 1 rfl rfl) ?_
  have j4 : ∀ (y3 : Int), (999 ≤ y3 ∧ y3 ≤ 1000) → zJ shC l yX9_tells cX9_tells 6 (some .int) (rmL 4) 0 0 (q_X9_tells h c p1 p2) 0 0 14 [some (.inr c), some (.inl p1), some (.inl p2), none, none, none] [.inl y3] h := by
    intro y3 b5
    refine zj_istore_n (L' := [some (.inr c), some (.inl p1), some (.inl p2), some (.inl y3), none, none]) (zdk ttX9_tells 6 rfl rfl) (by decide) rfl ?_
    refine zj_iconst (zdk ttX9_tells 7 rfl rfl) ?_
    refine zj_istore (L' := [some (.inr c), some (.inl p1), some (.inl p2), some (.inl y3), some (.inl 0), none]) (zdk ttX9_tells 8 rfl rfl) (by decide) rfl ?_
    have lp100 : ∀ (n : Nat) (x6 : Int) (h7 : zM), (0 ≤ x6 ∧ x6 ≤ 16) → okC h7 → zfC (w_X9_tells c) h h7 → (17 - x6).toNat < n → zJ shC l yX9_tells cX9_tells 6 (some .int) (rmL 4) 0 0 (q_X9_tells h c p1 p2) 0 0 18 [some (.inr c), some (.inl p1), some (.inl p2), some (.inl y3), some (.inl x6), none] [] h7 := by
      intro n
      induction n with
      | zero => intro x6 h7 b101 s8 f9 m102; exact absurd m102 (Nat.not_lt_zero _)
      | succ n ih103 =>
        intro x6 h7 b101 s8 f9 m102
        refine zj_iload (zdk ttX9_tells 9 rfl rfl) rfl ?_
        refine zj_aload_n (zdk ttX9_tells 10 rfl rfl) rfl (by omega) ?_
        refine zj_getr (r := (c + 5)) (zdk ttX9_tells 11 rfl rfl) zf_RX9_21 rfl (k_9_0 s8 hc) (rf_9_0_1 s8 hc) ?_
        have b104 : 0 ≤ (h.2 (c + 5) 6) ∧ (h.2 (c + 5) 6) ≤ 16 := fb_9_5_6 s0 hc
        refine zj_geti (v := (h.2 (c + 5) 6)) (zdk ttX9_tells 12 rfl rfl) zf_RX9_182 rfl (k_9_5 s8 hc) (zfC_a f9 (fun z9 => by unfold w_X9_tells at z9; first | (revert z9; decide) | omega)) ?_
        refine zj_icmp_ge (t := 154) (zdk ttX9_tells 13 rfl rfl) (by decide) (by omega) (by omega) (fun c105 => ?_) (fun c105 => ?_)
        · refine zj_iload_n (zdk ttX9_tells 75 rfl rfl) rfl ?_
          have k107 : (¬ p1 = 0 ∧ ¬ p1 = 1) → zJ shC l yX9_tells cX9_tells 6 (some .int) (rmL 4) 0 0 (q_X9_tells h c p1 p2) 0 0 211 [some (.inr c), some (.inl p1), some (.inl p2), some (.inl y3), some (.inl x6), none] [] h7 := by
            intro c106
            refine zj_sipush (zdk ttX9_tells 95 rfl rfl) (by decide) ?_
            refine zj_bipush (zdk ttX9_tells 96 rfl rfl) (by decide) ?_
            refine zj_aload_n (zdk ttX9_tells 97 rfl rfl) rfl (by omega) ?_
            refine zj_getr (r := (c + 1)) (zdk ttX9_tells 98 rfl rfl) zf_RX9_12 rfl (k_9_0 s8 hc) (rf_9_0_0 s8 hc) ?_
            refine zj_getr (r := (c + 3)) (zdk ttX9_tells 99 rfl rfl) zf_RX9_202 rfl (k_9_1 s8 hc) (rf_9_1_1 s8 hc) ?_
            refine zj_iload_n (zdk ttX9_tells 100 rfl rfl) rfl ?_
            have b108 : -2147483648 ≤ (h.2 (c + 3) p2) ∧ (h.2 (c + 3) p2) ≤ 2147483647 := ab_9_1_1 s0 hc p2
            refine zj_iald (v := (h.2 (c + 3) p2)) (zdk ttX9_tells 101 rfl rfl) (ka_9_1_1 s8 hc) (by decide) (by omega) (zfC_a f9 (fun z9 => by unfold w_X9_tells at z9; first | (revert z9; decide) | omega)) ?_
            refine zj_imul (zdk ttX9_tells 102 rfl rfl) ?_
            refine zj_wrap ?_
            have b109 := zwp_in (50 * (h.2 (c + 3) p2))
            refine zj_isub (zdk ttX9_tells 103 rfl rfl) ?_
            refine zj_wrap ?_
            have b110 := zwp_in (500 - (zwp (50 * (h.2 (c + 3) p2))))
            refine zj_iload_n (zdk ttX9_tells 104 rfl rfl) rfl ?_
            refine zj_callS (av := [.inl (zwp (500 - (zwp (50 * (h.2 (c + 3) p2))))), .inl y3]) (st := []) (zdk ttX9_tells 105 rfl rfl) mb_X9_held ms_RX9_199 rfl rfl (Nat.le_of_ble_eq_true rfl) (s_X9_held l h7 (zwp (500 - (zwp (50 * (h.2 (c + 3) p2))))) y3 s8 (by omega) (by omega)) (rm_ok (by decide) (by decide)) (zq_i fun v112 h113 q111 => ?_)
            obtain ⟨rfl, b114, u115, u116⟩ := q111
            exact zj_iret rfl (zdk ttX9_tells 106 rfl rfl) (Nat.le_refl _) (Nat.le_refl _) ⟨v112, rfl, by omega, s8, f9⟩
          have k117 : p1 = 0 → zJ shC l yX9_tells cX9_tells 6 (some .int) (rmL 4) 0 0 (q_X9_tells h c p1 p2) 0 0 180 [some (.inr c), some (.inl p1), some (.inl p2), some (.inl y3), some (.inl x6), none] [] h7 := by
            intro c106
            refine zj_bipush (zdk ttX9_tells 77 rfl rfl) (by decide) ?_
            refine zj_aload_n (zdk ttX9_tells 78 rfl rfl) rfl (by omega) ?_
            refine zj_getr (r := (c + 1)) (zdk ttX9_tells 79 rfl rfl) zf_RX9_12 rfl (k_9_0 s8 hc) (rf_9_0_0 s8 hc) ?_
            refine zj_getr (r := (c + 3)) (zdk ttX9_tells 80 rfl rfl) zf_RX9_202 rfl (k_9_1 s8 hc) (rf_9_1_1 s8 hc) ?_
            refine zj_iload_n (zdk ttX9_tells 81 rfl rfl) rfl ?_
            have b118 : -2147483648 ≤ (h.2 (c + 3) p2) ∧ (h.2 (c + 3) p2) ≤ 2147483647 := ab_9_1_1 s0 hc p2
            refine zj_iald (v := (h.2 (c + 3) p2)) (zdk ttX9_tells 82 rfl rfl) (ka_9_1_1 s8 hc) (by decide) (by omega) (zfC_a f9 (fun z9 => by unfold w_X9_tells at z9; first | (revert z9; decide) | omega)) ?_
            refine zj_imul (zdk ttX9_tells 83 rfl rfl) ?_
            refine zj_wrap ?_
            have b119 := zwp_in (80 * (h.2 (c + 3) p2))
            refine zj_iload_n (zdk ttX9_tells 84 rfl rfl) rfl ?_
            refine zj_callS (av := [.inl (zwp (80 * (h.2 (c + 3) p2))), .inl y3]) (st := []) (zdk ttX9_tells 85 rfl rfl) mb_X9_held ms_RX9_199 rfl rfl (Nat.le_of_ble_eq_true rfl) (s_X9_held l h7 (zwp (80 * (h.2 (c + 3) p2))) y3 s8 (by omega) (by omega)) (rm_ok (by decide) (by decide)) (zq_i fun v121 h122 q120 => ?_)
            obtain ⟨rfl, b123, u124, u125⟩ := q120
            exact zj_iret rfl (zdk ttX9_tells 86 rfl rfl) (Nat.le_refl _) (Nat.le_refl _) ⟨v121, rfl, by omega, s8, f9⟩
          have k126 : p1 = 1 → zJ shC l yX9_tells cX9_tells 6 (some .int) (rmL 4) 0 0 (q_X9_tells h c p1 p2) 0 0 197 [some (.inr c), some (.inl p1), some (.inl p2), some (.inl y3), some (.inl x6), none] [] h7 := by
            intro c106
            refine zj_aload_n (zdk ttX9_tells 87 rfl rfl) rfl (by omega) ?_
            refine zj_getr (r := (c + 1)) (zdk ttX9_tells 88 rfl rfl) zf_RX9_12 rfl (k_9_0 s8 hc) (rf_9_0_0 s8 hc) ?_
            refine zj_getr (r := (c + 2)) (zdk ttX9_tells 89 rfl rfl) zf_RX9_205 rfl (k_9_1 s8 hc) (rf_9_1_0 s8 hc) ?_
            refine zj_iload_n (zdk ttX9_tells 90 rfl rfl) rfl ?_
            have b127 : -2147483648 ≤ (h.2 (c + 2) p2) ∧ (h.2 (c + 2) p2) ≤ 2147483647 := ab_9_1_0 s0 hc p2
            refine zj_iald (v := (h.2 (c + 2) p2)) (zdk ttX9_tells 91 rfl rfl) (ka_9_1_0 s8 hc) (by decide) (by omega) (zfC_a f9 (fun z9 => by unfold w_X9_tells at z9; first | (revert z9; decide) | omega)) ?_
            refine zj_iload_n (zdk ttX9_tells 92 rfl rfl) rfl ?_
            refine zj_callS (av := [.inl (h.2 (c + 2) p2), .inl y3]) (st := []) (zdk ttX9_tells 93 rfl rfl) mb_X9_held ms_RX9_199 rfl rfl (Nat.le_of_ble_eq_true rfl) (s_X9_held l h7 (h.2 (c + 2) p2) y3 s8 (by omega) (by omega)) (rm_ok (by decide) (by decide)) (zq_i fun v129 h130 q128 => ?_)
            obtain ⟨rfl, b131, u132, u133⟩ := q128
            exact zj_iret rfl (zdk ttX9_tells 94 rfl rfl) (Nat.le_refl _) (Nat.le_refl _) ⟨v129, rfl, by omega, s8, f9⟩
          by_cases z134 : p1 = 0
          · exact zj_lookup (t := 180) (zdk ttX9_tells 76 rfl rfl) (by omega) rfl (by rw [z134] <;> rfl) (by decide) (k117 z134)
          by_cases z135 : p1 = 1
          · exact zj_lookup (t := 197) (zdk ttX9_tells 76 rfl rfl) (by omega) rfl (by rw [z135] <;> rfl) (by decide) (k126 z135)
          exact zj_lookup (t := 211) (zdk ttX9_tells 76 rfl rfl) (by omega) rfl (by show Op.lookupswitch.offset [(0, 25), (1, 42)] 56 p1 = _; rw [Op.lookupswitch.offset_cons, if_neg (by omega), Op.lookupswitch.offset_cons, if_neg (by omega), Op.lookupswitch.offset_nil]) (by decide) (k107 (by omega))
        · refine zj_aload_n (zdk ttX9_tells 14 rfl rfl) rfl (by omega) ?_
          refine zj_getr (r := (c + 5)) (zdk ttX9_tells 15 rfl rfl) zf_RX9_21 rfl (k_9_0 s8 hc) (rf_9_0_1 s8 hc) ?_
          refine zj_getr (r := (c + 6)) (zdk ttX9_tells 16 rfl rfl) zf_RX9_183 rfl (k_9_5 s8 hc) (rf_9_5_0 s8 hc) ?_
          refine zj_iload (zdk ttX9_tells 17 rfl rfl) rfl ?_
          have b136 : -2147483648 ≤ (h.2 (c + 6) x6) ∧ (h.2 (c + 6) x6) ≤ 2147483647 := ab_9_5_0 s0 hc x6
          refine zj_iald (v := (h.2 (c + 6) x6)) (zdk ttX9_tells 18 rfl rfl) (ka_9_5_0 s8 hc) (by decide) (by omega) (zfC_a f9 (fun z9 => by unfold w_X9_tells at z9; first | (revert z9; decide) | omega)) ?_
          refine zj_iload_n (zdk ttX9_tells 19 rfl rfl) rfl ?_
          refine zj_icmp_eq (t := 47) (zdk ttX9_tells 20 rfl rfl) (by decide) (by omega) (by omega) (fun c137 => ?_) (fun c137 => ?_)
          · refine zj_aload_n (zdk ttX9_tells 22 rfl rfl) rfl (by omega) ?_
            refine zj_getr (r := (c + 5)) (zdk ttX9_tells 23 rfl rfl) zf_RX9_21 rfl (k_9_0 s8 hc) (rf_9_0_1 s8 hc) ?_
            refine zj_getr (r := (c + 8)) (zdk ttX9_tells 24 rfl rfl) zf_RX9_186 rfl (k_9_5 s8 hc) (rf_9_5_2 s8 hc) ?_
            refine zj_iload (zdk ttX9_tells 25 rfl rfl) rfl ?_
            have b138 : 0 ≤ (h.2 (c + 8) x6) ∧ (h.2 (c + 8) x6) ≤ 400 := ab_9_5_2 s0 hc x6
            refine zj_iald (v := (h.2 (c + 8) x6)) (zdk ttX9_tells 26 rfl rfl) (ka_9_5_2 s8 hc) (by decide) (by omega) (zfC_a f9 (fun z9 => by unfold w_X9_tells at z9; first | (revert z9; decide) | omega)) ?_
            refine zj_aload_n (zdk ttX9_tells 27 rfl rfl) rfl (by omega) ?_
            refine zj_getr (r := (c + 5)) (zdk ttX9_tells 28 rfl rfl) zf_RX9_21 rfl (k_9_0 s8 hc) (rf_9_0_1 s8 hc) ?_
            refine zj_getr (r := (c + 9)) (zdk ttX9_tells 29 rfl rfl) zf_RX9_189 rfl (k_9_5 s8 hc) (rf_9_5_3 s8 hc) ?_
            refine zj_iload (zdk ttX9_tells 30 rfl rfl) rfl ?_
            have b139 : 0 ≤ (h.2 (c + 9) x6) ∧ (h.2 (c + 9) x6) ≤ 400 := ab_9_5_3 s0 hc x6
            refine zj_iald (v := (h.2 (c + 9) x6)) (zdk ttX9_tells 31 rfl rfl) (ka_9_5_3 s8 hc) (by decide) (by omega) (zfC_a f9 (fun z9 => by unfold w_X9_tells at z9; first | (revert z9; decide) | omega)) ?_
            have j142 : ∀ (y141 : Int), (0 ≤ y141 ∧ y141 ≤ 1) → zJ shC l yX9_tells cX9_tells 6 (some .int) (rmL 4) 0 0 (q_X9_tells h c p1 p2) 0 0 75 [some (.inr c), some (.inl p1), some (.inl p2), some (.inl y3), some (.inl x6), none] [.inl y141] h7 := by
              intro y141 b143
              refine zj_istore (L' := [some (.inr c), some (.inl p1), some (.inl p2), some (.inl y3), some (.inl x6), some (.inl y141)]) (zdk ttX9_tells 36 rfl rfl) (by decide) rfl ?_
              refine zj_iload (zdk ttX9_tells 37 rfl rfl) rfl ?_
              refine zj_if_ne (t := 114) (zdk ttX9_tells 38 rfl rfl) (by decide) (by omega) (fun c144 => ?_) (fun c144 => ?_)
              · refine zj_aload_n (zdk ttX9_tells 55 rfl rfl) rfl (by omega) ?_
                refine zj_getr (r := (c + 5)) (zdk ttX9_tells 56 rfl rfl) zf_RX9_21 rfl (k_9_0 s8 hc) (rf_9_0_1 s8 hc) ?_
                refine zj_aload_n (zdk ttX9_tells 57 rfl rfl) rfl (by omega) ?_
                refine zj_getr (r := (c + 5)) (zdk ttX9_tells 58 rfl rfl) zf_RX9_21 rfl (k_9_0 s8 hc) (rf_9_0_1 s8 hc) ?_
                refine zj_getr (r := (c + 7)) (zdk ttX9_tells 59 rfl rfl) zf_RX9_196 rfl (k_9_5 s8 hc) (rf_9_5_1 s8 hc) ?_
                refine zj_iload (zdk ttX9_tells 60 rfl rfl) rfl ?_
                have b145 : 0 ≤ (h.2 (c + 7) x6) ∧ (h.2 (c + 7) x6) ≤ 400 := ab_9_5_1 s0 hc x6
                refine zj_iald (v := (h.2 (c + 7) x6)) (zdk ttX9_tells 61 rfl rfl) (ka_9_5_1 s8 hc) (by decide) (by omega) (zfC_a f9 (fun z9 => by unfold w_X9_tells at z9; first | (revert z9; decide) | omega)) ?_
                refine zj_aload_n (zdk ttX9_tells 62 rfl rfl) rfl (by omega) ?_
                refine zj_getr (r := (c + 5)) (zdk ttX9_tells 63 rfl rfl) zf_RX9_21 rfl (k_9_0 s8 hc) (rf_9_0_1 s8 hc) ?_
                refine zj_getr (r := (c + 8)) (zdk ttX9_tells 64 rfl rfl) zf_RX9_186 rfl (k_9_5 s8 hc) (rf_9_5_2 s8 hc) ?_
                refine zj_iload (zdk ttX9_tells 65 rfl rfl) rfl ?_
                refine zj_iald (v := (h.2 (c + 8) x6)) (zdk ttX9_tells 66 rfl rfl) (ka_9_5_2 s8 hc) (by decide) (by omega) (zfC_a f9 (fun z9 => by unfold w_X9_tells at z9; first | (revert z9; decide) | omega)) ?_
                refine zj_aload_n (zdk ttX9_tells 67 rfl rfl) rfl (by omega) ?_
                refine zj_iload_n (zdk ttX9_tells 68 rfl rfl) rfl ?_
                refine zj_callV (av := [.inl (h.2 (c + 7) x6), .inl (h.2 (c + 8) x6), .inr c, .inl p2]) (st := []) (zdk ttX9_tells 69 rfl rfl) mb_X3_run mv_RX9_192 (ci := 3) rfl rfl (k_9_5 s8 hc) rfl rfl (Nat.le_of_ble_eq_true rfl) (s_X3_run l h7 (c + 5) (h.2 (c + 7) x6) (h.2 (c + 8) x6) c p2 s8 (zs_9_5 hc) (by omega) (by omega) hc (by omega)) (rm_ok (by decide) (by decide)) (zq_i fun v147 h148 q146 => ?_)
                obtain ⟨b149, s150, f151⟩ := q146
                refine zj_iload_n (zdk ttX9_tells 70 rfl rfl) rfl ?_
                refine zj_callS (av := [.inl v147, .inl y3]) (st := []) (zdk ttX9_tells 71 rfl rfl) mb_X9_held ms_RX9_199 rfl rfl (Nat.le_of_ble_eq_true rfl) (s_X9_held l h148 v147 y3 s150 (by omega) (by omega)) (rm_ok (by decide) (by decide)) (zq_i fun v153 h154 q152 => ?_)
                obtain ⟨rfl, b155, u156, u157⟩ := q152
                have f158 : zfC (w_X9_tells c) h h148 := zfC_t f9 f151 (fun a9 b9 z9 => by
                  exact (by omega))
                exact zj_iret rfl (zdk ttX9_tells 72 rfl rfl) (Nat.le_refl _) (Nat.le_refl _) ⟨v153, rfl, by omega, s150, f158⟩
              · refine zj_aload_n (zdk ttX9_tells 39 rfl rfl) rfl (by omega) ?_
                refine zj_getr (r := (c + 5)) (zdk ttX9_tells 40 rfl rfl) zf_RX9_21 rfl (k_9_0 s8 hc) (rf_9_0_1 s8 hc) ?_
                refine zj_aload_n (zdk ttX9_tells 41 rfl rfl) rfl (by omega) ?_
                refine zj_getr (r := (c + 5)) (zdk ttX9_tells 42 rfl rfl) zf_RX9_21 rfl (k_9_0 s8 hc) (rf_9_0_1 s8 hc) ?_
                refine zj_getr (r := (c + 8)) (zdk ttX9_tells 43 rfl rfl) zf_RX9_186 rfl (k_9_5 s8 hc) (rf_9_5_2 s8 hc) ?_
                refine zj_iload (zdk ttX9_tells 44 rfl rfl) rfl ?_
                refine zj_iald (v := (h.2 (c + 8) x6)) (zdk ttX9_tells 45 rfl rfl) (ka_9_5_2 s8 hc) (by decide) (by omega) (zfC_a f9 (fun z9 => by unfold w_X9_tells at z9; first | (revert z9; decide) | omega)) ?_
                refine zj_aload_n (zdk ttX9_tells 46 rfl rfl) rfl (by omega) ?_
                refine zj_getr (r := (c + 5)) (zdk ttX9_tells 47 rfl rfl) zf_RX9_21 rfl (k_9_0 s8 hc) (rf_9_0_1 s8 hc) ?_
                refine zj_getr (r := (c + 9)) (zdk ttX9_tells 48 rfl rfl) zf_RX9_189 rfl (k_9_5 s8 hc) (rf_9_5_3 s8 hc) ?_
                refine zj_iload (zdk ttX9_tells 49 rfl rfl) rfl ?_
                refine zj_iald (v := (h.2 (c + 9) x6)) (zdk ttX9_tells 50 rfl rfl) (ka_9_5_3 s8 hc) (by decide) (by omega) (zfC_a f9 (fun z9 => by unfold w_X9_tells at z9; first | (revert z9; decide) | omega)) ?_
                refine zj_aload_n (zdk ttX9_tells 51 rfl rfl) rfl (by omega) ?_
                refine zj_iload_n (zdk ttX9_tells 52 rfl rfl) rfl ?_
                refine zj_callV (av := [.inl (h.2 (c + 8) x6), .inl (h.2 (c + 9) x6), .inr c, .inl p2]) (st := []) (zdk ttX9_tells 53 rfl rfl) mb_X3_run mv_RX9_192 (ci := 3) rfl rfl (k_9_5 s8 hc) rfl rfl (Nat.le_of_ble_eq_true rfl) (s_X3_run l h7 (c + 5) (h.2 (c + 8) x6) (h.2 (c + 9) x6) c p2 s8 (zs_9_5 hc) (by omega) (by omega) hc (by omega)) (rm_ok (by decide) (by decide)) (zq_i fun v160 h161 q159 => ?_)
                obtain ⟨b162, s163, f164⟩ := q159
                refine zj_if_eq (t := 148) (zdk ttX9_tells 54 rfl rfl) (by decide) (by omega) (fun c165 => ?_) (fun c165 => ?_)
                · refine zj_iinc (L' := [some (.inr c), some (.inl p1), some (.inl p2), some (.inl y3), some (.inl (x6 + 1)), some (.inl y141)]) (zdk ttX9_tells 73 rfl rfl) rfl (by decide) rfl ?_
                  refine zj_goto (t := 18) (zdk ttX9_tells 74 rfl rfl) (by decide) ?_
                  refine zj_kill (k := 5) (L' := [some (.inr c), some (.inl p1), some (.inl p2), some (.inl y3), some (.inl (x6 + 1)), none]) rfl ?_
                  have f166 : zfC (w_X9_tells c) h h161 := zfC_t f9 f164 (fun a9 b9 z9 => by
                    exact (by omega))
                  exact ih103  (x6 + 1) h161 (by omega) s163 f166 (by omega)
                · refine zj_aload_n (zdk ttX9_tells 55 rfl rfl) rfl (by omega) ?_
                  refine zj_getr (r := (c + 5)) (zdk ttX9_tells 56 rfl rfl) zf_RX9_21 rfl (k_9_0 s163 hc) (rf_9_0_1 s163 hc) ?_
                  refine zj_aload_n (zdk ttX9_tells 57 rfl rfl) rfl (by omega) ?_
                  refine zj_getr (r := (c + 5)) (zdk ttX9_tells 58 rfl rfl) zf_RX9_21 rfl (k_9_0 s163 hc) (rf_9_0_1 s163 hc) ?_
                  refine zj_getr (r := (c + 7)) (zdk ttX9_tells 59 rfl rfl) zf_RX9_196 rfl (k_9_5 s163 hc) (rf_9_5_1 s163 hc) ?_
                  refine zj_iload (zdk ttX9_tells 60 rfl rfl) rfl ?_
                  have b167 : 0 ≤ (h.2 (c + 7) x6) ∧ (h.2 (c + 7) x6) ≤ 400 := ab_9_5_1 s0 hc x6
                  refine zj_iald (v := (h.2 (c + 7) x6)) (zdk ttX9_tells 61 rfl rfl) (ka_9_5_1 s163 hc) (by decide) (by omega) ((zfC_a f164 (fun z9 => by unfold w_X3_run at z9; first | (revert z9; decide) | omega)).trans (zfC_a f9 (fun z9 => by unfold w_X9_tells at z9; first | (revert z9; decide) | omega))) ?_
                  refine zj_aload_n (zdk ttX9_tells 62 rfl rfl) rfl (by omega) ?_
                  refine zj_getr (r := (c + 5)) (zdk ttX9_tells 63 rfl rfl) zf_RX9_21 rfl (k_9_0 s163 hc) (rf_9_0_1 s163 hc) ?_
                  refine zj_getr (r := (c + 8)) (zdk ttX9_tells 64 rfl rfl) zf_RX9_186 rfl (k_9_5 s163 hc) (rf_9_5_2 s163 hc) ?_
                  refine zj_iload (zdk ttX9_tells 65 rfl rfl) rfl ?_
                  refine zj_iald (v := (h.2 (c + 8) x6)) (zdk ttX9_tells 66 rfl rfl) (ka_9_5_2 s163 hc) (by decide) (by omega) ((zfC_a f164 (fun z9 => by unfold w_X3_run at z9; first | (revert z9; decide) | omega)).trans (zfC_a f9 (fun z9 => by unfold w_X9_tells at z9; first | (revert z9; decide) | omega))) ?_
                  refine zj_aload_n (zdk ttX9_tells 67 rfl rfl) rfl (by omega) ?_
                  refine zj_iload_n (zdk ttX9_tells 68 rfl rfl) rfl ?_
                  refine zj_callV (av := [.inl (h.2 (c + 7) x6), .inl (h.2 (c + 8) x6), .inr c, .inl p2]) (st := []) (zdk ttX9_tells 69 rfl rfl) mb_X3_run mv_RX9_192 (ci := 3) rfl rfl (k_9_5 s163 hc) rfl rfl (Nat.le_of_ble_eq_true rfl) (s_X3_run l h161 (c + 5) (h.2 (c + 7) x6) (h.2 (c + 8) x6) c p2 s163 (zs_9_5 hc) (by omega) (by omega) hc (by omega)) (rm_ok (by decide) (by decide)) (zq_i fun v169 h170 q168 => ?_)
                  obtain ⟨b171, s172, f173⟩ := q168
                  refine zj_iload_n (zdk ttX9_tells 70 rfl rfl) rfl ?_
                  refine zj_callS (av := [.inl v169, .inl y3]) (st := []) (zdk ttX9_tells 71 rfl rfl) mb_X9_held ms_RX9_199 rfl rfl (Nat.le_of_ble_eq_true rfl) (s_X9_held l h170 v169 y3 s172 (by omega) (by omega)) (rm_ok (by decide) (by decide)) (zq_i fun v175 h176 q174 => ?_)
                  obtain ⟨rfl, b177, u178, u179⟩ := q174
                  have f181 : zfC (w_X9_tells c) h h161 := zfC_t f9 f164 (fun a9 b9 z9 => by
                    exact (by omega))
                  have f180 : zfC (w_X9_tells c) h h170 := zfC_t f181 f173 (fun a9 b9 z9 => by
                    exact (by omega))
                  exact zj_iret rfl (zdk ttX9_tells 72 rfl rfl) (Nat.le_refl _) (Nat.le_refl _) ⟨v175, rfl, by omega, s172, f180⟩
            refine zj_icmp_ne (t := 74) (zdk ttX9_tells 32 rfl rfl) (by decide) (by omega) (by omega) (fun c140 => ?_) (fun c140 => ?_)
            · refine zj_iconst (zdk ttX9_tells 35 rfl rfl) ?_
              exact j142 0 (by omega)
            · refine zj_iconst (zdk ttX9_tells 33 rfl rfl) ?_
              refine zj_goto (t := 75) (zdk ttX9_tells 34 rfl rfl) (by decide) ?_
              exact j142 1 (by omega)
          · refine zj_goto (t := 148) (zdk ttX9_tells 21 rfl rfl) (by decide) ?_
            refine zj_iinc (L' := [some (.inr c), some (.inl p1), some (.inl p2), some (.inl y3), some (.inl (x6 + 1)), none]) (zdk ttX9_tells 73 rfl rfl) rfl (by decide) rfl ?_
            refine zj_goto (t := 18) (zdk ttX9_tells 74 rfl rfl) (by decide) ?_
            exact ih103  (x6 + 1) h7 (by omega) s8 f9 (by omega)
    exact lp100 _ 0 h (by omega) s0 (zfC_r _ _) (Nat.lt_succ_self _)
  refine zj_icmp_ne (t := 11) (zdk ttX9_tells 2 rfl rfl) (by decide) (by omega) (by decide) (fun c2 => ?_) (fun c2 => ?_)
  · refine zj_sipush (zdk ttX9_tells 5 rfl rfl) (by decide) ?_
    exact j4 1000 (by omega)
  · refine zj_sipush (zdk ttX9_tells 3 rfl rfl) (by decide) ?_
    refine zj_goto (t := 14) (zdk ttX9_tells 4 rfl rfl) (by decide) ?_
    exact j4 999 (by omega)

abbrev tX9_happen : List (Nat × Instr × Nat) := [(0, .iload_n 1, 1), (1, .tableswitch 122 1 5 #[35, 53, 73, 84, 95], 35), (36, .aload_n 0, 1), (37, .getfield 12, 3), (40, .dup, 1), (41, .getfield 105, 3), (44, .iconst 1, 1), (45, .iload_n 2, 1), (46, .ishl, 1), (47, .ior, 1), (48, .putfield 105, 3), (51, .goto 80, 3), (54, .aload_n 0, 1), (55, .getfield 12, 3), (58, .dup, 1), (59, .getfield 105, 3), (62, .iconst 1, 1), (63, .iload_n 2, 1), (64, .ishl, 1), (65, .iconst (-1), 1), (66, .ixor, 1), (67, .iand, 1), (68, .putfield 105, 3), (71, .goto 60, 3), (74, .aload_n 0, 1), (75, .getfield 12, 3), (78, .iconst 1, 1), (79, .putfield 108, 3), (82, .goto 49, 3), (85, .aload_n 0, 1), (86, .getfield 12, 3), (89, .iconst 0, 1), (90, .putfield 108, 3), (93, .goto 38, 3), (96, .aload_n 0, 1), (97, .getfield 12, 3), (100, .dup, 1), (101, .getfield 111, 3), (104, .iload_n 2, 1), (105, .aload_n 0, 1), (106, .getfield 12, 3), (109, .getfield 114, 3), (112, .bipush 60, 2), (114, .idiv, 1), (115, .imul, 1), (116, .iadd, 1), (117, .putfield 111, 3), (120, .goto 11, 3), (123, .aload_n 0, 1), (124, .getfield 12, 3), (127, .iload_n 2, 1), (128, .invokevirtual 117, 3), (131, .return_, 1)]
theorem ttX9_happen : zdt cX9_happen tX9_happen = true := by decide +kernel
abbrev w_X9_happen (c a b : Int) : Prop := (a = c + 1 ∧ 5 ≤ b ∧ b ≤ 6) ∨ (a = c + 1 ∧ 9 ≤ b ∧ b ≤ 11)
abbrev tX9_isWilling : List (Nat × Instr × Nat) := [(0, .aload_n 0, 1), (1, .iload_n 1, 1), (2, .iload_n 2, 1), (3, .invokevirtual 145, 3), (6, .istore 4, 2), (8, .iload_n 3, 1), (9, .ifCond .eq 17, 3), (12, .iload 4, 2), (14, .sipush 500, 3), (17, .if_icmp .lt 7, 3), (20, .iconst 1, 1), (21, .goto 4, 3), (24, .iconst 0, 1), (25, .ireturn, 1), (26, .iload 4, 2), (28, .ifCond .le 19, 3), (31, .aload_n 0, 1), (32, .getfield 12, 3), (35, .invokevirtual 149, 3), (38, .iload 4, 2), (40, .if_icmp .ge 7, 3), (43, .iconst 1, 1), (44, .goto 4, 3), (47, .iconst 0, 1), (48, .ireturn, 1)]
theorem ttX9_isWilling : zdt cX9_isWilling tX9_isWilling = true := by decide +kernel
abbrev w_X9_isWilling (c a b : Int) : Prop := (a = c + 1 ∧ b = 13) ∨ a = c + 11
abbrev tX9_goAboard : List (Nat × Instr × Nat) := [(0, .aload_n 0, 1), (1, .getfield 12, 3), (4, .dup, 1), (5, .getfield 153, 3), (8, .iconst 1, 1), (9, .iload_n 1, 1), (10, .ishl, 1), (11, .iconst (-1), 1), (12, .ixor, 1), (13, .iand, 1), (14, .putfield 153, 3), (17, .aload_n 0, 1), (18, .getfield 12, 3), (21, .getfield 156, 3), (24, .iload_n 1, 1), (25, .dup2, 1), (26, .iaload, 1), (27, .iconst 1, 1), (28, .iadd, 1), (29, .iastore, 1), (30, .aload_n 0, 1), (31, .iconst 1, 1), (32, .iload_n 1, 1), (33, .invokevirtual 145, 3), (36, .istore_n 2, 1), (37, .aload_n 0, 1), (38, .getfield 12, 3), (41, .dup, 1), (42, .getfield 159, 3), (45, .iload_n 2, 1), (46, .iadd, 1), (47, .putfield 159, 3), (50, .aload_n 0, 1), (51, .getfield 45, 3), (54, .aload_n 0, 1), (55, .getfield 12, 3), (58, .getfield 83, 3), (61, .iconst 0, 1), (62, .iload_n 1, 1), (63, .iload_n 2, 1), (64, .invokevirtual 162, 3), (67, .return_, 1)]
theorem ttX9_goAboard : zdt cX9_goAboard tX9_goAboard = true := by decide +kernel
abbrev w_X9_goAboard (c a b : Int) : Prop := (a = c + 1 ∧ b = 4) ∨ (a = c + 1 ∧ b = 7) ∨ a = c + 4 ∨ a = c + 11 ∨ (a = c + 22 ∧ b = 4) ∨ (c + 23 ≤ a ∧ a ≤ c + 26)
abbrev tX9_comeBack : List (Nat × Instr × Nat) := [(0, .aload_n 0, 1), (1, .getfield 12, 3), (4, .dup, 1), (5, .getfield 153, 3), (8, .iconst 1, 1), (9, .iload_n 1, 1), (10, .ishl, 1), (11, .ior, 1), (12, .putfield 153, 3), (15, .aload_n 0, 1), (16, .iconst 1, 1), (17, .iload_n 1, 1), (18, .invokevirtual 145, 3), (21, .istore_n 2, 1), (22, .aload_n 0, 1), (23, .getfield 12, 3), (26, .dup, 1), (27, .getfield 159, 3), (30, .iload_n 2, 1), (31, .isub, 1), (32, .putfield 159, 3), (35, .aload_n 0, 1), (36, .getfield 45, 3), (39, .aload_n 0, 1), (40, .getfield 12, 3), (43, .getfield 83, 3), (46, .iconst 1, 1), (47, .iload_n 1, 1), (48, .iload_n 2, 1), (49, .invokevirtual 162, 3), (52, .return_, 1)]
theorem ttX9_comeBack : zdt cX9_comeBack tX9_comeBack = true := by decide +kernel
abbrev w_X9_comeBack (c a b : Int) : Prop := (a = c + 1 ∧ b = 4) ∨ (a = c + 1 ∧ b = 7) ∨ a = c + 11 ∨ (a = c + 22 ∧ b = 4) ∨ (c + 23 ≤ a ∧ a ≤ c + 26)
abbrev tX9_sailOut : List (Nat × Instr × Nat) := [(0, .iload_n 1, 1), (1, .istore_n 3, 1), (2, .iconst 0, 1), (3, .istore 4, 2), (5, .iload 4, 2), (7, .aload_n 0, 1), (8, .getfield 12, 3), (11, .getfield 121, 3), (14, .if_icmp .ge 120, 3), (17, .iload_n 3, 1), (18, .ifCond .le 116, 3), (21, .aload_n 0, 1), (22, .getfield 12, 3), (25, .iload 4, 2), (27, .invokevirtual 124, 3), (30, .ifCond .eq 98, 3), (33, .aload_n 0, 1), (34, .getfield 12, 3), (37, .iload 4, 2), (39, .invokevirtual 128, 3), (42, .ifCond .ne 86, 3), (45, .aload_n 0, 1), (46, .iconst 0, 1), (47, .iload 4, 2), (49, .iload_n 2, 1), (50, .invokevirtual 131, 3), (53, .ifCond .ne 6, 3), (56, .goto 72, 3), (59, .aload_n 0, 1), (60, .iload 4, 2), (62, .invokevirtual 135, 3), (65, .iinc 3 (-1), 3), (68, .iconst 0, 1), (69, .istore 5, 2), (71, .iload 5, 2), (73, .aload_n 0, 1), (74, .getfield 12, 3), (77, .getfield 121, 3), (80, .if_icmp .ge 48, 3), (83, .iload_n 3, 1), (84, .ifCond .le 44, 3), (87, .aload_n 0, 1), (88, .getfield 38, 3), (91, .iload 4, 2), (93, .iload 5, 2), (95, .invokevirtual 138, 3), (98, .ifCond .eq 24, 3), (101, .aload_n 0, 1), (102, .getfield 12, 3), (105, .iload 5, 2), (107, .invokevirtual 124, 3), (110, .ifCond .eq 12, 3), (113, .aload_n 0, 1), (114, .iload 5, 2), (116, .invokevirtual 135, 3), (119, .iinc 3 (-1), 3), (122, .iinc 5 1, 3), (125, .goto (-54), 3), (128, .iinc 4 1, 3), (131, .goto (-126), 3), (134, .return_, 1)]
theorem ttX9_sailOut : zdt cX9_sailOut tX9_sailOut = true := by decide +kernel
abbrev w_X9_sailOut (c a b : Int) : Prop := (a = c + 1 ∧ b = 4) ∨ (a = c + 1 ∧ b = 7) ∨ (a = c + 1 ∧ b = 13) ∨ a = c + 4 ∨ a = c + 11 ∨ (a = c + 22 ∧ b = 4) ∨ (c + 23 ≤ a ∧ a ≤ c + 26)
abbrev tX9_sailBack : List (Nat × Instr × Nat) := [(0, .iload_n 1, 1), (1, .istore_n 3, 1), (2, .iconst 0, 1), (3, .istore 4, 2), (5, .iload 4, 2), (7, .aload_n 0, 1), (8, .getfield 12, 3), (11, .getfield 121, 3), (14, .if_icmp .ge 45, 3), (17, .iload_n 3, 1), (18, .ifCond .le 41, 3), (21, .aload_n 0, 1), (22, .getfield 12, 3), (25, .iload 4, 2), (27, .invokevirtual 124, 3), (30, .ifCond .ne 23, 3), (33, .aload_n 0, 1), (34, .iconst 2, 1), (35, .iload 4, 2), (37, .iload_n 2, 1), (38, .invokevirtual 131, 3), (41, .ifCond .eq 12, 3), (44, .aload_n 0, 1), (45, .iload 4, 2), (47, .invokevirtual 142, 3), (50, .iinc 3 (-1), 3), (53, .iinc 4 1, 3), (56, .goto (-51), 3), (59, .return_, 1)]
theorem ttX9_sailBack : zdt cX9_sailBack tX9_sailBack = true := by decide +kernel
abbrev w_X9_sailBack (c a b : Int) : Prop := (a = c + 1 ∧ b = 4) ∨ (a = c + 1 ∧ b = 7) ∨ (a = c + 1 ∧ b = 13) ∨ a = c + 11 ∨ (a = c + 22 ∧ b = 4) ∨ (c + 23 ≤ a ∧ a ≤ c + 26)
abbrev tX9_runClock : List (Nat × Instr × Nat) := [(0, .sipush (-1440), 3), (3, .sipush 1440, 3), (6, .aload_n 0, 1), (7, .getfield 12, 3), (10, .getfield 159, 3), (13, .invokestatic 166, 3), (16, .invokestatic 171, 3), (19, .istore_n 1, 1), (20, .aload_n 0, 1), (21, .getfield 12, 3), (24, .getfield 114, 3), (27, .iload_n 1, 1), (28, .invokestatic 174, 3), (31, .istore_n 2, 1), (32, .aload_n 0, 1), (33, .getfield 12, 3), (36, .iload_n 1, 1), (37, .invokevirtual 117, 3), (40, .aload_n 0, 1), (41, .getfield 12, 3), (44, .dup, 1), (45, .getfield 159, 3), (48, .iload_n 1, 1), (49, .isub, 1), (50, .putfield 159, 3), (53, .aload_n 0, 1), (54, .getfield 12, 3), (57, .dup, 1), (58, .getfield 179, 3), (61, .iload_n 2, 1), (62, .iadd, 1), (63, .putfield 179, 3), (66, .iload_n 2, 1), (67, .ifCond .le 20, 3), (70, .aload_n 0, 1), (71, .getfield 45, 3), (74, .aload_n 0, 1), (75, .getfield 12, 3), (78, .getfield 83, 3), (81, .iconst 2, 1), (82, .iconst (-1), 1), (83, .iload_n 2, 1), (84, .invokevirtual 162, 3), (87, .iload_n 1, 1), (88, .ifCond .ne 26, 3), (91, .aload_n 0, 1), (92, .getfield 45, 3), (95, .aload_n 0, 1), (96, .getfield 12, 3), (99, .getfield 83, 3), (102, .iconst 3, 1), (103, .iconst (-1), 1), (104, .aload_n 0, 1), (105, .getfield 12, 3), (108, .getfield 114, 3), (111, .invokevirtual 162, 3), (114, .iload_n 1, 1), (115, .ifCond .ge 21, 3), (118, .aload_n 0, 1), (119, .getfield 45, 3), (122, .aload_n 0, 1), (123, .getfield 12, 3), (126, .getfield 83, 3), (129, .iconst 4, 1), (130, .iconst (-1), 1), (131, .iload_n 1, 1), (132, .ineg, 1), (133, .invokevirtual 162, 3), (136, .return_, 1)]
theorem ttX9_runClock : zdt cX9_runClock tX9_runClock = true := by decide +kernel
abbrev w_X9_runClock (c a b : Int) : Prop := (a = c + 1 ∧ 6 ≤ b ∧ b ≤ 9) ∨ (a = c + 22 ∧ b = 4) ∨ (c + 23 ≤ a ∧ a ≤ c + 26)
abbrev tX9_passDay : List (Nat × Instr × Nat) := [(0, .iconst 0, 1), (1, .istore_n 2, 1), (2, .iload_n 2, 1), (3, .aload_n 0, 1), (4, .getfield 32, 3), (7, .getfield 75, 3), (10, .if_icmp .ge 50, 3), (13, .aload_n 0, 1), (14, .getfield 32, 3), (17, .getfield 79, 3), (20, .iload_n 2, 1), (21, .iaload, 1), (22, .aload_n 0, 1), (23, .getfield 12, 3), (26, .getfield 83, 3), (29, .if_icmp .ne 25, 3), (32, .aload_n 0, 1), (33, .aload_n 0, 1), (34, .getfield 32, 3), (37, .getfield 85, 3), (40, .iload_n 2, 1), (41, .iaload, 1), (42, .aload_n 0, 1), (43, .getfield 32, 3), (46, .getfield 88, 3), (49, .iload_n 2, 1), (50, .iaload, 1), (51, .invokevirtual 91, 3), (54, .iinc 2 1, 3), (57, .goto (-55), 3), (60, .iconst 0, 1), (61, .istore_n 2, 1), (62, .iload_n 2, 1), (63, .aload_n 0, 1), (64, .getfield 28, 3), (67, .getfield 75, 3), (70, .if_icmp .ge 75, 3), (73, .aload_n 0, 1), (74, .getfield 28, 3), (77, .getfield 79, 3), (80, .iload_n 2, 1), (81, .iaload, 1), (82, .aload_n 0, 1), (83, .getfield 12, 3), (86, .getfield 83, 3), (89, .if_icmp .eq 6, 3), (92, .goto 47, 3), (95, .aload_n 0, 1), (96, .getfield 28, 3), (99, .getfield 85, 3), (102, .iload_n 2, 1), (103, .iaload, 1), (104, .iconst 2, 1), (105, .if_icmp .ne 20, 3), (108, .aload_n 0, 1), (109, .aload_n 0, 1), (110, .getfield 28, 3), (113, .getfield 88, 3), (116, .iload_n 2, 1), (117, .iaload, 1), (118, .iload_n 1, 1), (119, .invokevirtual 95, 3), (122, .goto 17, 3), (125, .aload_n 0, 1), (126, .aload_n 0, 1), (127, .getfield 28, 3), (130, .getfield 88, 3), (133, .iload_n 2, 1), (134, .iaload, 1), (135, .iload_n 1, 1), (136, .invokevirtual 99, 3), (139, .iinc 2 1, 3), (142, .goto (-80), 3), (145, .aload_n 0, 1), (146, .invokevirtual 102, 3), (149, .aload_n 0, 1), (150, .getfield 12, 3), (153, .dup, 1), (154, .getfield 83, 3), (157, .iconst 1, 1), (158, .iadd, 1), (159, .putfield 83, 3), (162, .return_, 1)]
theorem ttX9_passDay : zdt cX9_passDay tX9_passDay = true := by decide +kernel
abbrev w_X9_passDay (c a b : Int) : Prop := (a = c + 1 ∧ 4 ≤ b ∧ b ≤ 13) ∨ a = c + 4 ∨ a = c + 11 ∨ (a = c + 22 ∧ b = 4) ∨ (c + 23 ≤ a ∧ a ≤ c + 26)
abbrev tX9_copyFrom : List (Nat × Instr × Nat) := [(0, .aload_n 0, 1), (1, .getfield 12, 3), (4, .aload_n 1, 1), (5, .getfield 12, 3), (8, .invokevirtual 56, 3), (11, .aload_n 0, 1), (12, .getfield 21, 3), (15, .aload_n 1, 1), (16, .getfield 21, 3), (19, .invokevirtual 60, 3), (22, .aload_n 0, 1), (23, .getfield 28, 3), (26, .aload_n 1, 1), (27, .getfield 28, 3), (30, .invokevirtual 63, 3), (33, .aload_n 0, 1), (34, .getfield 32, 3), (37, .aload_n 1, 1), (38, .getfield 32, 3), (41, .invokevirtual 63, 3), (44, .aload_n 0, 1), (45, .getfield 38, 3), (48, .aload_n 1, 1), (49, .getfield 38, 3), (52, .invokevirtual 66, 3), (55, .aload_n 0, 1), (56, .getfield 45, 3), (59, .aload_n 1, 1), (60, .getfield 45, 3), (63, .invokevirtual 69, 3), (66, .aload_n 0, 1), (67, .getfield 52, 3), (70, .aload_n 1, 1), (71, .getfield 52, 3), (74, .invokevirtual 72, 3), (77, .return_, 1)]
theorem ttX9_copyFrom : zdt cX9_copyFrom tX9_copyFrom = true := by decide +kernel
abbrev w_X9_copyFrom (c a b : Int) : Prop := (a = c + 1 ∧ 3 ≤ b ∧ b ≤ 13) ∨ (c + 2 ≤ a ∧ a ≤ c + 4) ∨ (a = c + 5 ∧ 6 ≤ b ∧ b ≤ 7) ∨ (c + 6 ≤ a ∧ a ≤ c + 10) ∨ (a = c + 12 ∧ b = 3) ∨ (c + 13 ≤ a ∧ a ≤ c + 15) ∨ (a = c + 16 ∧ b = 3) ∨ (c + 17 ≤ a ∧ a ≤ c + 19) ∨ (a = c + 20 ∧ b = 1) ∨ a = c + 21 ∨ (a = c + 22 ∧ b = 4) ∨ (c + 23 ≤ a ∧ a ≤ c + 26) ∨ (a = c + 27 ∧ b = 2) ∨ (a = c + 27 ∧ b = 4) ∨ (a = c + 27 ∧ b = 6) ∨ (a = c + 27 ∧ b = 9) ∨ (c + 28 ≤ a ∧ a ≤ c + 33)
abbrev tX6_putFour : List (Nat × Instr × Nat) := [(0, .bipush 24, 2), (2, .istore_n 2, 1), (3, .iload_n 2, 1), (4, .ifCond .lt 42, 3), (7, .aload_n 0, 1), (8, .getfield 21, 3), (11, .sipush 400, 3), (14, .if_icmp .ge 32, 3), (17, .aload_n 0, 1), (18, .getfield 11, 3), (21, .aload_n 0, 1), (22, .dup, 1), (23, .getfield 21, 3), (26, .dup_x1, 1), (27, .iconst 1, 1), (28, .iadd, 1), (29, .putfield 21, 3), (32, .iload_n 1, 1), (33, .iload_n 2, 1), (34, .iushr, 1), (35, .sipush 255, 3), (38, .iand, 1), (39, .iastore, 1), (40, .iinc 2 (-8), 3), (43, .goto (-40), 3), (46, .return_, 1)]
theorem ttX6_putFour : zdt cX6_putFour tX6_putFour = true := by decide +kernel
abbrev w_X6_putFour (a b : Int) : Prop := (a = 103 ∧ b = 3) ∨ a = 104
abbrev tX6_rewind : List (Nat × Instr × Nat) := [(0, .aload_n 0, 1), (1, .iconst 0, 1), (2, .putfield 34, 3), (5, .aload_n 0, 1), (6, .iconst (-1), 1), (7, .putfield 37, 3), (10, .return_, 1)]
theorem ttX6_rewind : zdt cX6_rewind tX6_rewind = true := by decide +kernel
abbrev w_X6_rewind (a b : Int) : Prop := (a = 103 ∧ 7 ≤ b ∧ b ≤ 8)
abbrev tX6_putToken : List (Nat × Instr × Nat) := [(0, .aload_n 0, 1), (1, .getfield 25, 3), (4, .sipush 400, 3), (7, .if_icmp .gt 33, 3), (10, .aload_n 0, 1), (11, .getfield 15, 3), (14, .aload_n 0, 1), (15, .getfield 25, 3), (18, .iload_n 1, 1), (19, .iastore, 1), (20, .aload_n 0, 1), (21, .getfield 18, 3), (24, .aload_n 0, 1), (25, .getfield 25, 3), (28, .iload_n 2, 1), (29, .iastore, 1), (30, .aload_n 0, 1), (31, .dup, 1), (32, .getfield 25, 3), (35, .iconst 1, 1), (36, .iadd, 1), (37, .putfield 25, 3), (40, .return_, 1)]
theorem ttX6_putToken : zdt cX6_putToken tX6_putToken = true := by decide +kernel
abbrev w_X6_putToken (a b : Int) : Prop := (a = 103 ∧ b = 4) ∨ (105 ≤ a ∧ a ≤ 106)
abbrev tX6_isLetter : List (Nat × Instr × Nat) := [(0, .iload_n 0, 1), (1, .bipush 97, 2), (3, .if_icmp .lt 9, 3), (6, .iload_n 0, 1), (7, .bipush 122, 2), (9, .if_icmp .le 15, 3), (12, .iload_n 0, 1), (13, .bipush 65, 2), (15, .if_icmp .lt 13, 3), (18, .iload_n 0, 1), (19, .bipush 90, 2), (21, .if_icmp .gt 7, 3), (24, .iconst 1, 1), (25, .goto 4, 3), (28, .iconst 0, 1), (29, .ireturn, 1)]
theorem ttX6_isLetter : zdt cX6_isLetter tX6_isLetter = true := by decide +kernel
abbrev q_X6_isLetter (h : zM) (p1 : Int) : Option zV → zM → Prop := zqi fun v h' => h = h' ∧ ((v = 0 ∧ ((p1 < 97 ∧ p1 < 65) ∨ (p1 < 97 ∧ 65 ≤ p1 ∧ 90 < p1) ∨ (97 ≤ p1 ∧ 122 < p1 ∧ 65 ≤ p1 ∧ 90 < p1))) ∨ (v = 1 ∧ ((p1 < 97 ∧ 65 ≤ p1 ∧ p1 ≤ 90) ∨ (97 ≤ p1 ∧ p1 ≤ 122))))
set_option maxRecDepth 100000 in
set_option maxHeartbeats 4000000 in
theorem s_X6_isLetter (l : Launch) (h : zM) (p1 : Int) (s0 : okC h) (b_p1 : (-2147483648) ≤ p1 ∧ p1 ≤ 2147483647) : zT shC l yX6_isLetter cX6_isLetter 1 (some .boolean) (rmL 1) 0 0 [.inl p1] h (q_X6_isLetter h p1) := by
  refine zT_of (by decide +kernel) (L0 := [some (.inl p1)]) rfl (Nat.le_of_ble_eq_true rfl) ?_
  refine zj_iload_n (zdk ttX6_isLetter 0 rfl rfl) rfl ?_
  refine zj_bipush (zdk ttX6_isLetter 1 rfl rfl) (by decide) ?_
  refine zj_icmp_lt (t := 12) (zdk ttX6_isLetter 2 rfl rfl) (by decide) (by omega) (by decide) (fun c1 => ?_) (fun c1 => ?_)
  · refine zj_iload_n (zdk ttX6_isLetter 6 rfl rfl) rfl ?_
    refine zj_bipush (zdk ttX6_isLetter 7 rfl rfl) (by decide) ?_
    refine zj_icmp_lt (t := 28) (zdk ttX6_isLetter 8 rfl rfl) (by decide) (by omega) (by decide) (fun c2 => ?_) (fun c2 => ?_)
    · refine zj_iconst (zdk ttX6_isLetter 14 rfl rfl) ?_
      exact zj_zret rfl (zdk ttX6_isLetter 15 rfl rfl) (Nat.le_refl _) (Nat.le_refl _) (by omega) ⟨0, rfl, rfl, (Or.inl ⟨rfl, (Or.inl (by omega))⟩)⟩
    · refine zj_iload_n (zdk ttX6_isLetter 9 rfl rfl) rfl ?_
      refine zj_bipush (zdk ttX6_isLetter 10 rfl rfl) (by decide) ?_
      refine zj_icmp_gt (t := 28) (zdk ttX6_isLetter 11 rfl rfl) (by decide) (by omega) (by decide) (fun c3 => ?_) (fun c3 => ?_)
      · refine zj_iconst (zdk ttX6_isLetter 14 rfl rfl) ?_
        exact zj_zret rfl (zdk ttX6_isLetter 15 rfl rfl) (Nat.le_refl _) (Nat.le_refl _) (by omega) ⟨0, rfl, rfl, (Or.inl ⟨rfl, (Or.inr (Or.inl (by omega)))⟩)⟩
      · refine zj_iconst (zdk ttX6_isLetter 12 rfl rfl) ?_
        refine zj_goto (t := 29) (zdk ttX6_isLetter 13 rfl rfl) (by decide) ?_
        exact zj_zret rfl (zdk ttX6_isLetter 15 rfl rfl) (Nat.le_refl _) (Nat.le_refl _) (by omega) ⟨1, rfl, rfl, (Or.inr ⟨rfl, (Or.inl (by omega))⟩)⟩
  · refine zj_iload_n (zdk ttX6_isLetter 3 rfl rfl) rfl ?_
    refine zj_bipush (zdk ttX6_isLetter 4 rfl rfl) (by decide) ?_
    refine zj_icmp_le (t := 24) (zdk ttX6_isLetter 5 rfl rfl) (by decide) (by omega) (by decide) (fun c4 => ?_) (fun c4 => ?_)
    · refine zj_iconst (zdk ttX6_isLetter 12 rfl rfl) ?_
      refine zj_goto (t := 29) (zdk ttX6_isLetter 13 rfl rfl) (by decide) ?_
      exact zj_zret rfl (zdk ttX6_isLetter 15 rfl rfl) (Nat.le_refl _) (Nat.le_refl _) (by omega) ⟨1, rfl, rfl, (Or.inr ⟨rfl, (Or.inr (by omega))⟩)⟩
    · refine zj_iload_n (zdk ttX6_isLetter 6 rfl rfl) rfl ?_
      refine zj_bipush (zdk ttX6_isLetter 7 rfl rfl) (by decide) ?_
      refine zj_icmp_lt (t := 28) (zdk ttX6_isLetter 8 rfl rfl) (by decide) (by omega) (by decide) (fun c5 => ?_) (fun c5 => ?_)
      · exact absurd c5 (by omega)
      · refine zj_iload_n (zdk ttX6_isLetter 9 rfl rfl) rfl ?_
        refine zj_bipush (zdk ttX6_isLetter 10 rfl rfl) (by decide) ?_
        refine zj_icmp_gt (t := 28) (zdk ttX6_isLetter 11 rfl rfl) (by decide) (by omega) (by decide) (fun c6 => ?_) (fun c6 => ?_)
        · refine zj_iconst (zdk ttX6_isLetter 14 rfl rfl) ?_
          exact zj_zret rfl (zdk ttX6_isLetter 15 rfl rfl) (Nat.le_refl _) (Nat.le_refl _) (by omega) ⟨0, rfl, rfl, (Or.inl ⟨rfl, (Or.inr (Or.inr (by omega)))⟩)⟩
        · exact absurd c6 (by omega)

abbrev tX6_isDigit : List (Nat × Instr × Nat) := [(0, .iload_n 0, 1), (1, .bipush 48, 2), (3, .if_icmp .lt 13, 3), (6, .iload_n 0, 1), (7, .bipush 57, 2), (9, .if_icmp .gt 7, 3), (12, .iconst 1, 1), (13, .goto 4, 3), (16, .iconst 0, 1), (17, .ireturn, 1)]
theorem ttX6_isDigit : zdt cX6_isDigit tX6_isDigit = true := by decide +kernel
abbrev q_X6_isDigit (h : zM) (p1 : Int) : Option zV → zM → Prop := zqi fun v h' => h = h' ∧ ((v = 0 ∧ ((p1 < 48) ∨ (48 ≤ p1 ∧ 57 < p1))) ∨ (v = 1 ∧ (48 ≤ p1 ∧ p1 ≤ 57)))
set_option maxRecDepth 100000 in
set_option maxHeartbeats 4000000 in
theorem s_X6_isDigit (l : Launch) (h : zM) (p1 : Int) (s0 : okC h) (b_p1 : (-2147483648) ≤ p1 ∧ p1 ≤ 2147483647) : zT shC l yX6_isDigit cX6_isDigit 1 (some .boolean) (rmL 1) 0 0 [.inl p1] h (q_X6_isDigit h p1) := by
  refine zT_of (by decide +kernel) (L0 := [some (.inl p1)]) rfl (Nat.le_of_ble_eq_true rfl) ?_
  refine zj_iload_n (zdk ttX6_isDigit 0 rfl rfl) rfl ?_
  refine zj_bipush (zdk ttX6_isDigit 1 rfl rfl) (by decide) ?_
  refine zj_icmp_lt (t := 16) (zdk ttX6_isDigit 2 rfl rfl) (by decide) (by omega) (by decide) (fun c1 => ?_) (fun c1 => ?_)
  · refine zj_iconst (zdk ttX6_isDigit 8 rfl rfl) ?_
    exact zj_zret rfl (zdk ttX6_isDigit 9 rfl rfl) (Nat.le_refl _) (Nat.le_refl _) (by omega) ⟨0, rfl, rfl, (Or.inl ⟨rfl, (Or.inl (by omega))⟩)⟩
  · refine zj_iload_n (zdk ttX6_isDigit 3 rfl rfl) rfl ?_
    refine zj_bipush (zdk ttX6_isDigit 4 rfl rfl) (by decide) ?_
    refine zj_icmp_gt (t := 16) (zdk ttX6_isDigit 5 rfl rfl) (by decide) (by omega) (by decide) (fun c2 => ?_) (fun c2 => ?_)
    · refine zj_iconst (zdk ttX6_isDigit 8 rfl rfl) ?_
      exact zj_zret rfl (zdk ttX6_isDigit 9 rfl rfl) (Nat.le_refl _) (Nat.le_refl _) (by omega) ⟨0, rfl, rfl, (Or.inl ⟨rfl, (Or.inr (by omega))⟩)⟩
    · refine zj_iconst (zdk ttX6_isDigit 6 rfl rfl) ?_
      refine zj_goto (t := 17) (zdk ttX6_isDigit 7 rfl rfl) (by decide) ?_
      exact zj_zret rfl (zdk ttX6_isDigit 9 rfl rfl) (Nat.le_refl _) (Nat.le_refl _) (by omega) ⟨1, rfl, rfl, (Or.inr ⟨rfl, by omega⟩)⟩

abbrev tX6_numberAt : List (Nat × Instr × Nat) := [(0, .iload_n 2, 1), (1, .iload_n 1, 1), (2, .isub, 1), (3, .iconst 4, 1), (4, .if_icmp .le 5, 3), (7, .iconst 1, 1), (8, .ireturn, 1), (9, .iconst 0, 1), (10, .istore_n 3, 1), (11, .iload_n 1, 1), (12, .istore 4, 2), (14, .iload 4, 2), (16, .iload_n 2, 1), (17, .if_icmp .ge 33, 3), (20, .iload 4, 2), (22, .sipush 400, 3), (25, .if_icmp .ge 25, 3), (28, .iload_n 3, 1), (29, .bipush 10, 2), (31, .imul, 1), (32, .aload_n 0, 1), (33, .getfield 11, 3), (36, .iload 4, 2), (38, .iaload, 1), (39, .iadd, 1), (40, .bipush 48, 2), (42, .isub, 1), (43, .istore_n 3, 1), (44, .iinc 4 1, 3), (47, .goto (-33), 3), (50, .sipush 1000, 3), (53, .iload_n 3, 1), (54, .iadd, 1), (55, .ireturn, 1)]
theorem ttX6_numberAt : zdt cX6_numberAt tX6_numberAt = true := by decide +kernel
abbrev tX6_isNumber : List (Nat × Instr × Nat) := [(0, .aload_n 0, 1), (1, .getfield 31, 3), (4, .sipush 1000, 3), (7, .if_icmp .lt 7, 3), (10, .iconst 1, 1), (11, .goto 4, 3), (14, .iconst 0, 1), (15, .ireturn, 1)]
theorem ttX6_isNumber : zdt cX6_isNumber tX6_isNumber = true := by decide +kernel
abbrev q_X6_isNumber (h : zM) : Option zV → zM → Prop := zqi fun v h' => h = h' ∧ ((-2147483648) ≤ (h.2 103 6) ∧ (h.2 103 6) ≤ 2147483647) ∧ ((v = 0 ∧ ((h.2 103 6) < 1000)) ∨ (v = 1 ∧ (1000 ≤ (h.2 103 6))))
set_option maxRecDepth 100000 in
set_option maxHeartbeats 4000000 in
theorem s_X6_isNumber (l : Launch) (h : zM) (s0 : okC h) : zT shC l yX6_isNumber cX6_isNumber 1 (some .boolean) (rmL 1) 0 0 [.inr 103] h (q_X6_isNumber h) := by
  refine zT_of (by decide +kernel) (L0 := [some (.inr 103)]) rfl (Nat.le_of_ble_eq_true rfl) ?_
  have b1 : (-2147483648) ≤ (h.2 103 6) ∧ (h.2 103 6) ≤ 2147483647 := fb_L103_6 s0
  refine zj_aload_n (zdk ttX6_isNumber 0 rfl rfl) rfl (by decide) ?_
  refine zj_geti (v := (h.2 103 6)) (zdk ttX6_isNumber 1 rfl rfl) zf_RX6_31 rfl (k_L103 s0) rfl ?_
  refine zj_sipush (zdk ttX6_isNumber 2 rfl rfl) (by decide) ?_
  refine zj_icmp_lt (t := 14) (zdk ttX6_isNumber 3 rfl rfl) (by decide) (by omega) (by decide) (fun c2 => ?_) (fun c2 => ?_)
  · refine zj_iconst (zdk ttX6_isNumber 6 rfl rfl) ?_
    exact zj_zret rfl (zdk ttX6_isNumber 7 rfl rfl) (Nat.le_refl _) (Nat.le_refl _) (by omega) ⟨0, rfl, rfl, b1, (Or.inl ⟨rfl, by omega⟩)⟩
  · refine zj_iconst (zdk ttX6_isNumber 4 rfl rfl) ?_
    refine zj_goto (t := 15) (zdk ttX6_isNumber 5 rfl rfl) (by decide) ?_
    exact zj_zret rfl (zdk ttX6_isNumber 7 rfl rfl) (Nat.le_refl _) (Nat.le_refl _) (by omega) ⟨1, rfl, rfl, b1, (Or.inr ⟨rfl, by omega⟩)⟩

