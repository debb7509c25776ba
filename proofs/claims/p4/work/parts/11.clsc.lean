abbrev tX8_stepThatKeeps : List (Nat × Instr × Nat) := [(0, .iconst 1, 1), (1, .istore 4, 2), (3, .iload 4, 2), (5, .bipush 10, 2), (7, .if_icmp .gt 41, 3), (10, .iload_n 2, 1), (11, .iload 4, 2), (13, .iconst 1, 1), (14, .isub, 1), (15, .ishr, 1), (16, .iconst 1, 1), (17, .iand, 1), (18, .iconst 1, 1), (19, .if_icmp .ne 23, 3), (22, .aload_n 0, 1), (23, .iload_n 1, 1), (24, .iload_n 3, 1), (25, .iload 4, 2), (27, .invokevirtual 111, 3), (30, .aload_n 0, 1), (31, .getfield 11, 3), (34, .iload_n 3, 1), (35, .iaload, 1), (36, .if_icmp .ne 6, 3), (39, .iload 4, 2), (41, .ireturn, 1), (42, .iinc 4 1, 3), (45, .goto (-42), 3), (48, .iconst (-1), 1), (49, .ireturn, 1)]
theorem ttX8_stepThatKeeps : zdt cX8_stepThatKeeps tX8_stepThatKeeps = true := by decide +kernel
abbrev q_X8_stepThatKeeps (h : zM) (p1 : Int) (p2 : Int) (p3 : Int) : Option zV → zM → Prop := zqi fun v h' => h = h' ∧ ((-2147483648) ≤ v ∧ v ≤ 2147483647)
set_option maxRecDepth 100000 in
set_option maxHeartbeats 4000000 in
theorem s_X8_stepThatKeeps (l : Launch) (h : zM) (p1 : Int) (p2 : Int) (p3 : Int) (s0 : okC h) (b_p1 : 2 ≤ p1 ∧ p1 ≤ 60) (b_p2 : (-2147483648) ≤ p2 ∧ p2 ≤ 2147483647) (b_p3 : 0 ≤ p3 ∧ p3 ≤ 59) : zT shC l yX8_stepThatKeeps cX8_stepThatKeeps 5 (some .int) (rmL 2) 0 0 [.inr 108, .inl p1, .inl p2, .inl p3] h (q_X8_stepThatKeeps h p1 p2 p3) := by
  refine zT_of (by decide +kernel) (L0 := [some (.inr 108), some (.inl p1), some (.inl p2), some (.inl p3), none]) rfl (Nat.le_of_ble_eq_true rfl) ?_
  refine zj_iconst (zdk ttX8_stepThatKeeps 0 rfl rfl) ?_
  refine zj_istore (L' := [some (.inr 108), some (.inl p1), some (.inl p2), some (.inl p3), some (.inl 1)]) (zdk ttX8_stepThatKeeps 1 rfl rfl) (by decide) rfl ?_
  have lp62 : ∀ (n : Nat) (x1 : Int), (1 ≤ x1 ∧ x1 ≤ 11) → (12 - x1).toNat < n → zJ shC l yX8_stepThatKeeps cX8_stepThatKeeps 5 (some .int) (rmL 2) 0 0 (q_X8_stepThatKeeps h p1 p2 p3) 0 0 3 [some (.inr 108), some (.inl p1), some (.inl p2), some (.inl p3), some (.inl x1)] [] h := by
    intro n
    induction n with
    | zero => intro x1 b63 m64; exact absurd m64 (Nat.not_lt_zero _)
    | succ n ih65 =>
      intro x1 b63 m64
      refine zj_iload (zdk ttX8_stepThatKeeps 2 rfl rfl) rfl ?_
      refine zj_bipush (zdk ttX8_stepThatKeeps 3 rfl rfl) (by decide) ?_
      refine zj_icmp_gt (t := 48) (zdk ttX8_stepThatKeeps 4 rfl rfl) (by decide) (by omega) (by decide) (fun c66 => ?_) (fun c66 => ?_)
      · refine zj_iconst (zdk ttX8_stepThatKeeps 28 rfl rfl) ?_
        exact zj_iret rfl (zdk ttX8_stepThatKeeps 29 rfl rfl) (Nat.le_refl _) (Nat.le_refl _) ⟨(-1), rfl, rfl, by omega⟩
      · refine zj_iload_n (zdk ttX8_stepThatKeeps 5 rfl rfl) rfl ?_
        refine zj_iload (zdk ttX8_stepThatKeeps 6 rfl rfl) rfl ?_
        refine zj_iconst (zdk ttX8_stepThatKeeps 7 rfl rfl) ?_
        refine zj_isub (zdk ttX8_stepThatKeeps 8 rfl rfl) ?_
        refine zj_ishr (zdk ttX8_stepThatKeeps 9 rfl rfl) ?_
        have b67 := zshr_in p2 (x1 - 1)
        refine zj_iconst (zdk ttX8_stepThatKeeps 10 rfl rfl) ?_
        refine zj_iand (zdk ttX8_stepThatKeeps 11 rfl rfl) ?_
        have b68 := zand_m (d := 2) 1 (by decide) (c := 1) (by decide) (by decide) (zshr p2 (x1 - 1))
        refine zj_iconst (zdk ttX8_stepThatKeeps 12 rfl rfl) ?_
        refine zj_icmp_ne (t := 42) (zdk ttX8_stepThatKeeps 13 rfl rfl) (by decide) (by omega) (by decide) (fun c69 => ?_) (fun c69 => ?_)
        · refine zj_iinc (L' := [some (.inr 108), some (.inl p1), some (.inl p2), some (.inl p3), some (.inl (x1 + 1))]) (zdk ttX8_stepThatKeeps 26 rfl rfl) rfl (by decide) rfl ?_
          refine zj_goto (t := 3) (zdk ttX8_stepThatKeeps 27 rfl rfl) (by decide) ?_
          exact ih65  (x1 + 1) (by omega) (by omega)
        · refine zj_aload_n (zdk ttX8_stepThatKeeps 14 rfl rfl) rfl (by decide) ?_
          refine zj_iload_n (zdk ttX8_stepThatKeeps 15 rfl rfl) rfl ?_
          refine zj_iload_n (zdk ttX8_stepThatKeeps 16 rfl rfl) rfl ?_
          refine zj_iload (zdk ttX8_stepThatKeeps 17 rfl rfl) rfl ?_
          refine zj_callV (av := [.inl p1, .inl p3, .inl x1]) (st := []) (zdk ttX8_stepThatKeeps 18 rfl rfl) mb_X8_worthOfStep mv_RX8_111 (ci := 8) rfl rfl (k_L108 s0) rfl rfl (Nat.le_of_ble_eq_true rfl) (s_X8_worthOfStep l h p1 p3 x1 s0 (by omega) (by omega) (by omega)) (rm_ok (by decide) (by decide)) (zq_i fun v71 h72 q70 => ?_)
          obtain ⟨rfl, b73⟩ := q70
          refine zj_aload_n (zdk ttX8_stepThatKeeps 19 rfl rfl) rfl (by decide) ?_
          refine zj_getr (r := 109) (zdk ttX8_stepThatKeeps 20 rfl rfl) zf_RX8_11 rfl (k_L108 s0) (rf_L108_0 s0) ?_
          refine zj_iload_n (zdk ttX8_stepThatKeeps 21 rfl rfl) rfl ?_
          have b74 : -2147483648 ≤ (h.2 109 p3) ∧ (h.2 109 p3) ≤ 2147483647 := ab_L108_0 s0 p3
          refine zj_iald (v := (h.2 109 p3)) (zdk ttX8_stepThatKeeps 22 rfl rfl) (ka_L108_0 s0) (by decide) (by omega) rfl ?_
          refine zj_icmp_ne (t := 42) (zdk ttX8_stepThatKeeps 23 rfl rfl) (by decide) (by omega) (by omega) (fun c75 => ?_) (fun c75 => ?_)
          · refine zj_iinc (L' := [some (.inr 108), some (.inl p1), some (.inl p2), some (.inl p3), some (.inl (x1 + 1))]) (zdk ttX8_stepThatKeeps 26 rfl rfl) rfl (by decide) rfl ?_
            refine zj_goto (t := 3) (zdk ttX8_stepThatKeeps 27 rfl rfl) (by decide) ?_
            exact ih65  (x1 + 1) (by omega) (by omega)
          · refine zj_iload (zdk ttX8_stepThatKeeps 24 rfl rfl) rfl ?_
            exact zj_iret rfl (zdk ttX8_stepThatKeeps 25 rfl rfl) (Nat.le_refl _) (Nat.le_refl _) ⟨x1, rfl, rfl, by omega⟩
  exact lp62 _ 1 (by omega) (Nat.lt_succ_self _)

abbrev tX9_valueOf : List (Nat × Instr × Nat) := [(0, .iload_n 1, 1), (1, .tableswitch 180 7 15 #[51, 61, 71, 81, 92, 100, 120, 128, 136], 51), (52, .aload_n 0, 1), (53, .getfield 12, 3), (56, .getfield 205, 3), (59, .iload_n 2, 1), (60, .iaload, 1), (61, .ireturn, 1), (62, .aload_n 0, 1), (63, .getfield 12, 3), (66, .getfield 202, 3), (69, .iload_n 2, 1), (70, .iaload, 1), (71, .ireturn, 1), (72, .aload_n 0, 1), (73, .getfield 12, 3), (76, .getfield 156, 3), (79, .iload_n 2, 1), (80, .iaload, 1), (81, .ireturn, 1), (82, .aload_n 0, 1), (83, .getfield 12, 3), (86, .getfield 153, 3), (89, .invokestatic 208, 3), (92, .ireturn, 1), (93, .aload_n 0, 1), (94, .getfield 12, 3), (97, .getfield 121, 3), (100, .ireturn, 1), (101, .sipush (-9999), 3), (104, .sipush 9999, 3), (107, .aload_n 0, 1), (108, .getfield 12, 3), (111, .getfield 159, 3), (114, .invokestatic 166, 3), (117, .invokestatic 171, 3), (120, .ireturn, 1), (121, .aload_n 0, 1), (122, .getfield 12, 3), (125, .getfield 114, 3), (128, .ireturn, 1), (129, .aload_n 0, 1), (130, .getfield 12, 3), (133, .getfield 108, 3), (136, .ireturn, 1), (137, .aload_n 0, 1), (138, .getfield 38, 3), (141, .getfield 214, 3), (144, .iload_n 2, 1), (145, .iaload, 1), (146, .aload_n 0, 1), (147, .getfield 12, 3), (150, .iload_n 2, 1), (151, .invokevirtual 124, 3), (154, .ifCond .eq 15, 3), (157, .aload_n 0, 1), (158, .getfield 12, 3), (161, .getfield 153, 3), (164, .iconst (-1), 1), (165, .ixor, 1), (166, .goto 10, 3), (169, .aload_n 0, 1), (170, .getfield 12, 3), (173, .getfield 153, 3), (176, .iand, 1), (177, .invokestatic 208, 3), (180, .ireturn, 1), (181, .aload_n 0, 1), (182, .getfield 12, 3), (185, .getfield 83, 3), (188, .ireturn, 1)]
theorem ttX9_valueOf : zdt cX9_valueOf tX9_valueOf = true := by decide +kernel
abbrev q_X9_valueOf (h : zM) (c : Int) (p1 : Int) (p2 : Int) : Option zV → zM → Prop := zqi fun v h' => h = h' ∧ ((-2147483648) ≤ v ∧ v ≤ 2147483647)
set_option maxRecDepth 100000 in
set_option maxHeartbeats 4000000 in
theorem s_X9_valueOf (l : Launch) (h : zM) (c : Int) (p1 : Int) (p2 : Int) (s0 : okC h) (hc : zWd c) (b_p1 : (-2147483648) ≤ p1 ∧ p1 ≤ 2147483647) (b_p2 : 0 ≤ p2 ∧ p2 ≤ 17) : zT shC l yX9_valueOf cX9_valueOf 3 (some .int) (rmL 2) 0 0 [.inr c, .inl p1, .inl p2] h (q_X9_valueOf h c p1 p2) := by
  refine zT_of (by decide +kernel) (L0 := [some (.inr c), some (.inl p1), some (.inl p2)]) rfl (Nat.le_of_ble_eq_true rfl) ?_
  have b1 := zWd_b hc
  refine zj_iload_n (zdk ttX9_valueOf 0 rfl rfl) rfl ?_
  have k3 : (p1 < 7 ∨ 15 < p1) → zJ shC l yX9_valueOf cX9_valueOf 3 (some .int) (rmL 2) 0 0 (q_X9_valueOf h c p1 p2) 0 0 181 [some (.inr c), some (.inl p1), some (.inl p2)] [] h := by
    intro c2
    refine zj_aload_n (zdk ttX9_valueOf 67 rfl rfl) rfl (by omega) ?_
    refine zj_getr (r := (c + 1)) (zdk ttX9_valueOf 68 rfl rfl) zf_RX9_12 rfl (k_9_0 s0 hc) (rf_9_0_0 s0 hc) ?_
    have b4 : -2147483648 ≤ (h.2 (c + 1) 12) ∧ (h.2 (c + 1) 12) ≤ 2147483647 := fb_9_1_12 s0 hc
    refine zj_geti (v := (h.2 (c + 1) 12)) (zdk ttX9_valueOf 69 rfl rfl) zf_RX9_83 rfl (k_9_1 s0 hc) rfl ?_
    exact zj_iret rfl (zdk ttX9_valueOf 70 rfl rfl) (Nat.le_refl _) (Nat.le_refl _) ⟨(h.2 (c + 1) 12), rfl, rfl, by omega⟩
  have k5 : p1 = 7 → zJ shC l yX9_valueOf cX9_valueOf 3 (some .int) (rmL 2) 0 0 (q_X9_valueOf h c p1 p2) 0 0 52 [some (.inr c), some (.inl p1), some (.inl p2)] [] h := by
    intro c2
    refine zj_aload_n (zdk ttX9_valueOf 2 rfl rfl) rfl (by omega) ?_
    refine zj_getr (r := (c + 1)) (zdk ttX9_valueOf 3 rfl rfl) zf_RX9_12 rfl (k_9_0 s0 hc) (rf_9_0_0 s0 hc) ?_
    refine zj_getr (r := (c + 2)) (zdk ttX9_valueOf 4 rfl rfl) zf_RX9_205 rfl (k_9_1 s0 hc) (rf_9_1_0 s0 hc) ?_
    refine zj_iload_n (zdk ttX9_valueOf 5 rfl rfl) rfl ?_
    have b6 : -2147483648 ≤ (h.2 (c + 2) p2) ∧ (h.2 (c + 2) p2) ≤ 2147483647 := ab_9_1_0 s0 hc p2
    refine zj_iald (v := (h.2 (c + 2) p2)) (zdk ttX9_valueOf 6 rfl rfl) (ka_9_1_0 s0 hc) (by decide) (by omega) rfl ?_
    exact zj_iret rfl (zdk ttX9_valueOf 7 rfl rfl) (Nat.le_refl _) (Nat.le_refl _) ⟨(h.2 (c + 2) p2), rfl, rfl, by omega⟩
  have k7 : p1 = 8 → zJ shC l yX9_valueOf cX9_valueOf 3 (some .int) (rmL 2) 0 0 (q_X9_valueOf h c p1 p2) 0 0 62 [some (.inr c), some (.inl p1), some (.inl p2)] [] h := by
    intro c2
    refine zj_aload_n (zdk ttX9_valueOf 8 rfl rfl) rfl (by omega) ?_
    refine zj_getr (r := (c + 1)) (zdk ttX9_valueOf 9 rfl rfl) zf_RX9_12 rfl (k_9_0 s0 hc) (rf_9_0_0 s0 hc) ?_
    refine zj_getr (r := (c + 3)) (zdk ttX9_valueOf 10 rfl rfl) zf_RX9_202 rfl (k_9_1 s0 hc) (rf_9_1_1 s0 hc) ?_
    refine zj_iload_n (zdk ttX9_valueOf 11 rfl rfl) rfl ?_
    have b8 : -2147483648 ≤ (h.2 (c + 3) p2) ∧ (h.2 (c + 3) p2) ≤ 2147483647 := ab_9_1_1 s0 hc p2
    refine zj_iald (v := (h.2 (c + 3) p2)) (zdk ttX9_valueOf 12 rfl rfl) (ka_9_1_1 s0 hc) (by decide) (by omega) rfl ?_
    exact zj_iret rfl (zdk ttX9_valueOf 13 rfl rfl) (Nat.le_refl _) (Nat.le_refl _) ⟨(h.2 (c + 3) p2), rfl, rfl, by omega⟩
  have k9 : p1 = 9 → zJ shC l yX9_valueOf cX9_valueOf 3 (some .int) (rmL 2) 0 0 (q_X9_valueOf h c p1 p2) 0 0 72 [some (.inr c), some (.inl p1), some (.inl p2)] [] h := by
    intro c2
    refine zj_aload_n (zdk ttX9_valueOf 14 rfl rfl) rfl (by omega) ?_
    refine zj_getr (r := (c + 1)) (zdk ttX9_valueOf 15 rfl rfl) zf_RX9_12 rfl (k_9_0 s0 hc) (rf_9_0_0 s0 hc) ?_
    refine zj_getr (r := (c + 4)) (zdk ttX9_valueOf 16 rfl rfl) zf_RX9_156 rfl (k_9_1 s0 hc) (rf_9_1_2 s0 hc) ?_
    refine zj_iload_n (zdk ttX9_valueOf 17 rfl rfl) rfl ?_
    have b10 : -2147483648 ≤ (h.2 (c + 4) p2) ∧ (h.2 (c + 4) p2) ≤ 2147483647 := ab_9_1_2 s0 hc p2
    refine zj_iald (v := (h.2 (c + 4) p2)) (zdk ttX9_valueOf 18 rfl rfl) (ka_9_1_2 s0 hc) (by decide) (by omega) rfl ?_
    exact zj_iret rfl (zdk ttX9_valueOf 19 rfl rfl) (Nat.le_refl _) (Nat.le_refl _) ⟨(h.2 (c + 4) p2), rfl, rfl, by omega⟩
  have k11 : p1 = 10 → zJ shC l yX9_valueOf cX9_valueOf 3 (some .int) (rmL 2) 0 0 (q_X9_valueOf h c p1 p2) 0 0 82 [some (.inr c), some (.inl p1), some (.inl p2)] [] h := by
    intro c2
    refine zj_aload_n (zdk ttX9_valueOf 20 rfl rfl) rfl (by omega) ?_
    refine zj_getr (r := (c + 1)) (zdk ttX9_valueOf 21 rfl rfl) zf_RX9_12 rfl (k_9_0 s0 hc) (rf_9_0_0 s0 hc) ?_
    have b12 : -2147483648 ≤ (h.2 (c + 1) 4) ∧ (h.2 (c + 1) 4) ≤ 2147483647 := fb_9_1_4 s0 hc
    refine zj_geti (v := (h.2 (c + 1) 4)) (zdk ttX9_valueOf 22 rfl rfl) zf_RX9_153 rfl (k_9_1 s0 hc) rfl ?_
    refine zj_callS (av := [.inl (h.2 (c + 1) 4)]) (st := []) (zdk ttX9_valueOf 23 rfl rfl) mb_J6_bitCount_0f7a4 ms_RX9_208 rfl rfl (Nat.le_of_ble_eq_true rfl) (s_J6_bitCount_0f7a4 shC l h (h.2 (c + 1) 4)) (rm_ok (by decide) (by decide)) (zq_i fun v13 h14 q15 => ?_)
    obtain ⟨rfl, b16⟩ := q15
    exact zj_iret rfl (zdk ttX9_valueOf 24 rfl rfl) (Nat.le_refl _) (Nat.le_refl _) ⟨v13, rfl, rfl, by omega⟩
  have k17 : p1 = 11 → zJ shC l yX9_valueOf cX9_valueOf 3 (some .int) (rmL 2) 0 0 (q_X9_valueOf h c p1 p2) 0 0 93 [some (.inr c), some (.inl p1), some (.inl p2)] [] h := by
    intro c2
    refine zj_aload_n (zdk ttX9_valueOf 25 rfl rfl) rfl (by omega) ?_
    refine zj_getr (r := (c + 1)) (zdk ttX9_valueOf 26 rfl rfl) zf_RX9_12 rfl (k_9_0 s0 hc) (rf_9_0_0 s0 hc) ?_
    have b18 : 0 ≤ (h.2 (c + 1) 3) ∧ (h.2 (c + 1) 3) ≤ 18 := fb_9_1_3 s0 hc
    refine zj_geti (v := (h.2 (c + 1) 3)) (zdk ttX9_valueOf 27 rfl rfl) zf_RX9_121 rfl (k_9_1 s0 hc) rfl ?_
    exact zj_iret rfl (zdk ttX9_valueOf 28 rfl rfl) (Nat.le_refl _) (Nat.le_refl _) ⟨(h.2 (c + 1) 3), rfl, rfl, by omega⟩
  have k19 : p1 = 12 → zJ shC l yX9_valueOf cX9_valueOf 3 (some .int) (rmL 2) 0 0 (q_X9_valueOf h c p1 p2) 0 0 101 [some (.inr c), some (.inl p1), some (.inl p2)] [] h := by
    intro c2
    refine zj_sipush (zdk ttX9_valueOf 29 rfl rfl) (by decide) ?_
    refine zj_sipush (zdk ttX9_valueOf 30 rfl rfl) (by decide) ?_
    refine zj_aload_n (zdk ttX9_valueOf 31 rfl rfl) rfl (by omega) ?_
    refine zj_getr (r := (c + 1)) (zdk ttX9_valueOf 32 rfl rfl) zf_RX9_12 rfl (k_9_0 s0 hc) (rf_9_0_0 s0 hc) ?_
    have b20 : -2147483648 ≤ (h.2 (c + 1) 7) ∧ (h.2 (c + 1) 7) ≤ 2147483647 := fb_9_1_7 s0 hc
    refine zj_geti (v := (h.2 (c + 1) 7)) (zdk ttX9_valueOf 33 rfl rfl) zf_RX9_159 rfl (k_9_1 s0 hc) rfl ?_
    refine zj_min (zdk ttX9_valueOf 34 rfl rfl) mx_RX9_166 (by decide) (by omega) (Nat.le_of_ble_eq_true rfl) (rm_m (by decide)) ?_
    have b21 := zm_min_f 9999 (h.2 (c + 1) 7)
    refine zj_max (zdk ttX9_valueOf 35 rfl rfl) mx_RX9_171 (by decide) (by omega) (Nat.le_of_ble_eq_true rfl) (rm_m (by decide)) ?_
    have b22 := zm_max_f (-9999) (zm_min 9999 (h.2 (c + 1) 7))
    exact zj_iret rfl (zdk ttX9_valueOf 36 rfl rfl) (Nat.le_refl _) (Nat.le_refl _) ⟨(zm_max (-9999) (zm_min 9999 (h.2 (c + 1) 7))), rfl, rfl, by omega⟩
  have k23 : p1 = 13 → zJ shC l yX9_valueOf cX9_valueOf 3 (some .int) (rmL 2) 0 0 (q_X9_valueOf h c p1 p2) 0 0 121 [some (.inr c), some (.inl p1), some (.inl p2)] [] h := by
    intro c2
    refine zj_aload_n (zdk ttX9_valueOf 37 rfl rfl) rfl (by omega) ?_
    refine zj_getr (r := (c + 1)) (zdk ttX9_valueOf 38 rfl rfl) zf_RX9_12 rfl (k_9_0 s0 hc) (rf_9_0_0 s0 hc) ?_
    have b24 : 0 ≤ (h.2 (c + 1) 6) ∧ (h.2 (c + 1) 6) ≤ 719 := fb_9_1_6 s0 hc
    refine zj_geti (v := (h.2 (c + 1) 6)) (zdk ttX9_valueOf 39 rfl rfl) zf_RX9_114 rfl (k_9_1 s0 hc) rfl ?_
    exact zj_iret rfl (zdk ttX9_valueOf 40 rfl rfl) (Nat.le_refl _) (Nat.le_refl _) ⟨(h.2 (c + 1) 6), rfl, rfl, by omega⟩
  have k25 : p1 = 14 → zJ shC l yX9_valueOf cX9_valueOf 3 (some .int) (rmL 2) 0 0 (q_X9_valueOf h c p1 p2) 0 0 129 [some (.inr c), some (.inl p1), some (.inl p2)] [] h := by
    intro c2
    refine zj_aload_n (zdk ttX9_valueOf 41 rfl rfl) rfl (by omega) ?_
    refine zj_getr (r := (c + 1)) (zdk ttX9_valueOf 42 rfl rfl) zf_RX9_12 rfl (k_9_0 s0 hc) (rf_9_0_0 s0 hc) ?_
    have b26 : -2147483648 ≤ (h.2 (c + 1) 10) ∧ (h.2 (c + 1) 10) ≤ 2147483647 := fb_9_1_10 s0 hc
    refine zj_geti (v := (h.2 (c + 1) 10)) (zdk ttX9_valueOf 43 rfl rfl) zf_RX9_108 rfl (k_9_1 s0 hc) rfl ?_
    exact zj_iret rfl (zdk ttX9_valueOf 44 rfl rfl) (Nat.le_refl _) (Nat.le_refl _) ⟨(h.2 (c + 1) 10), rfl, rfl, by omega⟩
  have k27 : p1 = 15 → zJ shC l yX9_valueOf cX9_valueOf 3 (some .int) (rmL 2) 0 0 (q_X9_valueOf h c p1 p2) 0 0 137 [some (.inr c), some (.inl p1), some (.inl p2)] [] h := by
    intro c2
    refine zj_aload_n (zdk ttX9_valueOf 45 rfl rfl) rfl (by omega) ?_
    refine zj_getr (r := (c + 20)) (zdk ttX9_valueOf 46 rfl rfl) zf_RX9_38 rfl (k_9_0 s0 hc) (rf_9_0_4 s0 hc) ?_
    refine zj_getr (r := (c + 21)) (zdk ttX9_valueOf 47 rfl rfl) zf_RX9_214 rfl (k_9_20 s0 hc) (rf_9_20_0 s0 hc) ?_
    refine zj_iload_n (zdk ttX9_valueOf 48 rfl rfl) rfl ?_
    have b28 : -2147483648 ≤ (h.2 (c + 21) p2) ∧ (h.2 (c + 21) p2) ≤ 2147483647 := ab_9_20_0 s0 hc p2
    refine zj_iald (v := (h.2 (c + 21) p2)) (zdk ttX9_valueOf 49 rfl rfl) (ka_9_20_0 s0 hc) (by decide) (by omega) rfl ?_
    refine zj_aload_n (zdk ttX9_valueOf 50 rfl rfl) rfl (by omega) ?_
    refine zj_getr (r := (c + 1)) (zdk ttX9_valueOf 51 rfl rfl) zf_RX9_12 rfl (k_9_0 s0 hc) (rf_9_0_0 s0 hc) ?_
    refine zj_iload_n (zdk ttX9_valueOf 52 rfl rfl) rfl ?_
    refine zj_callV (av := [.inl p2]) (st := [.inl (h.2 (c + 21) p2)]) (zdk ttX9_valueOf 53 rfl rfl) mb_X1_isHere mv_RX9_124 (ci := 1) rfl rfl (k_9_1 s0 hc) rfl rfl (Nat.le_of_ble_eq_true rfl) (s_X1_isHere l h (c + 1) p2 s0 (zs_9_1 hc) (by omega)) (rm_ok (by decide) (by decide)) (zq_i fun v30 h31 q29 => ?_)
    obtain ⟨rfl, b33, ⟨rfl, b32⟩ | ⟨rfl, b32⟩⟩ := q29
    · refine zj_if_eq (t := 169) (zdk ttX9_valueOf 54 rfl rfl) (by decide) (by decide) (fun c34 => ?_) (fun c34 => ?_)
      · refine zj_aload_n (zdk ttX9_valueOf 61 rfl rfl) rfl (by omega) ?_
        refine zj_getr (r := (c + 1)) (zdk ttX9_valueOf 62 rfl rfl) zf_RX9_12 rfl (k_9_0 s0 hc) (rf_9_0_0 s0 hc) ?_
        refine zj_geti (v := (h.2 (c + 1) 4)) (zdk ttX9_valueOf 63 rfl rfl) zf_RX9_153 rfl (k_9_1 s0 hc) rfl ?_
        refine zj_iand (zdk ttX9_valueOf 64 rfl rfl) ?_
        have b35 := zand_in (h.2 (c + 21) p2) (h.2 (c + 1) 4)
        refine zj_callS (av := [.inl (zand (h.2 (c + 21) p2) (h.2 (c + 1) 4))]) (st := []) (zdk ttX9_valueOf 65 rfl rfl) mb_J6_bitCount_0f7a4 ms_RX9_208 rfl rfl (Nat.le_of_ble_eq_true rfl) (s_J6_bitCount_0f7a4 shC l h (zand (h.2 (c + 21) p2) (h.2 (c + 1) 4))) (rm_ok (by decide) (by decide)) (zq_i fun v36 h37 q38 => ?_)
        obtain ⟨rfl, b39⟩ := q38
        exact zj_iret rfl (zdk ttX9_valueOf 66 rfl rfl) (Nat.le_refl _) (Nat.le_refl _) ⟨v36, rfl, rfl, by omega⟩
      · exact absurd c34 (by omega)
    · refine zj_if_eq (t := 169) (zdk ttX9_valueOf 54 rfl rfl) (by decide) (by decide) (fun c40 => ?_) (fun c40 => ?_)
      · exact absurd c40 (by omega)
      · refine zj_aload_n (zdk ttX9_valueOf 55 rfl rfl) rfl (by omega) ?_
        refine zj_getr (r := (c + 1)) (zdk ttX9_valueOf 56 rfl rfl) zf_RX9_12 rfl (k_9_0 s0 hc) (rf_9_0_0 s0 hc) ?_
        refine zj_geti (v := (h.2 (c + 1) 4)) (zdk ttX9_valueOf 57 rfl rfl) zf_RX9_153 rfl (k_9_1 s0 hc) rfl ?_
        refine zj_iconst (zdk ttX9_valueOf 58 rfl rfl) ?_
        refine zj_ixor (zdk ttX9_valueOf 59 rfl rfl) ?_
        have b41 := zxor_in (h.2 (c + 1) 4) (-1)
        refine zj_goto (t := 176) (zdk ttX9_valueOf 60 rfl rfl) (by decide) ?_
        refine zj_iand (zdk ttX9_valueOf 64 rfl rfl) ?_
        have b42 := zand_in (h.2 (c + 21) p2) (zxor (h.2 (c + 1) 4) (-1))
        refine zj_callS (av := [.inl (zand (h.2 (c + 21) p2) (zxor (h.2 (c + 1) 4) (-1)))]) (st := []) (zdk ttX9_valueOf 65 rfl rfl) mb_J6_bitCount_0f7a4 ms_RX9_208 rfl rfl (Nat.le_of_ble_eq_true rfl) (s_J6_bitCount_0f7a4 shC l h (zand (h.2 (c + 21) p2) (zxor (h.2 (c + 1) 4) (-1)))) (rm_ok (by decide) (by decide)) (zq_i fun v43 h44 q45 => ?_)
        obtain ⟨rfl, b46⟩ := q45
        exact zj_iret rfl (zdk ttX9_valueOf 66 rfl rfl) (Nat.le_refl _) (Nat.le_refl _) ⟨v43, rfl, rfl, by omega⟩
  refine zj_table (t := 181) (zdk ttX9_valueOf 1 rfl rfl) (by omega) (by decide) k3 (fun z1 z2 => ?_)
  have z3 : p1 = 7 ∨ p1 = 8 ∨ p1 = 9 ∨ p1 = 10 ∨ p1 = 11 ∨ p1 = 12 ∨ p1 = 13 ∨ p1 = 14 ∨ p1 = 15 := by omega
  rcases z3 with z3 | z3 | z3 | z3 | z3 | z3 | z3 | z3 | z3
  · exact ⟨51, 52, by rw [z3] <;> rfl, by decide, k5 z3⟩
  · exact ⟨61, 62, by rw [z3] <;> rfl, by decide, k7 z3⟩
  · exact ⟨71, 72, by rw [z3] <;> rfl, by decide, k9 z3⟩
  · exact ⟨81, 82, by rw [z3] <;> rfl, by decide, k11 z3⟩
  · exact ⟨92, 93, by rw [z3] <;> rfl, by decide, k17 z3⟩
  · exact ⟨100, 101, by rw [z3] <;> rfl, by decide, k19 z3⟩
  · exact ⟨120, 121, by rw [z3] <;> rfl, by decide, k23 z3⟩
  · exact ⟨128, 129, by rw [z3] <;> rfl, by decide, k25 z3⟩
  · exact ⟨136, 137, by rw [z3] <;> rfl, by decide, k27 z3⟩

abbrev tX3_run : List (Nat × Instr × Nat) := [(0, .iconst 0, 1), (1, .istore 5, 2), (3, .iload_n 1, 1), (4, .istore 6, 2), (6, .iload 6, 2), (8, .iload_n 2, 1), (9, .if_icmp .ge 158, 3), (12, .iload 6, 2), (14, .sipush 400, 3), (17, .if_icmp .ge 150, 3), (20, .aload_n 0, 1), (21, .getfield 26, 3), (24, .iload 6, 2), (26, .iaload, 1), (27, .istore 7, 2), (29, .iload 7, 2), (31, .sipush 20000, 3), (34, .if_icmp .ge 48, 3), (37, .iload 5, 2), (39, .bipush 64, 2), (41, .if_icmp .ge 120, 3), (44, .aload_n 0, 1), (45, .getfield 29, 3), (48, .iload 5, 2), (50, .iinc 5 1, 3), (53, .iload 7, 2), (55, .sipush 10000, 3), (58, .if_icmp .ge 8, 3), (61, .iload 7, 2), (63, .goto 15, 3), (66, .aload_n 3, 1), (67, .iload 7, 2), (69, .sipush 10000, 3), (72, .isub, 1), (73, .iload 4, 2), (75, .invokevirtual 45, 3), (78, .iastore, 1), (79, .goto 82, 3), (82, .iload 7, 2), (84, .sipush 20006, 3), (87, .if_icmp .ne 31, 3), (90, .iload 5, 2), (92, .ifCond .le 69, 3), (95, .aload_n 0, 1), (96, .getfield 29, 3), (99, .iload 5, 2), (101, .iconst 1, 1), (102, .isub, 1), (103, .iconst 1, 1), (104, .aload_n 0, 1), (105, .getfield 29, 3), (108, .iload 5, 2), (110, .iconst 1, 1), (111, .isub, 1), (112, .iaload, 1), (113, .isub, 1), (114, .iastore, 1), (115, .goto 46, 3), (118, .iload 5, 2), (120, .iconst 1, 1), (121, .if_icmp .le 40, 3), (124, .iinc 5 (-1), 3), (127, .aload_n 0, 1), (128, .getfield 29, 3), (131, .iload 5, 2), (133, .iconst 1, 1), (134, .isub, 1), (135, .iload 7, 2), (137, .sipush 20000, 3), (140, .isub, 1), (141, .aload_n 0, 1), (142, .getfield 29, 3), (145, .iload 5, 2), (147, .iconst 1, 1), (148, .isub, 1), (149, .iaload, 1), (150, .aload_n 0, 1), (151, .getfield 29, 3), (154, .iload 5, 2), (156, .iaload, 1), (157, .invokestatic 51, 3), (160, .iastore, 1), (161, .iinc 6 1, 3), (164, .goto (-158), 3), (167, .iload 5, 2), (169, .ifCond .le 15, 3), (172, .aload_n 0, 1), (173, .getfield 29, 3), (176, .iload 5, 2), (178, .iconst 1, 1), (179, .isub, 1), (180, .iaload, 1), (181, .goto 4, 3), (184, .iconst 0, 1), (185, .ireturn, 1)]
theorem ttX3_run : zdt cX3_run tX3_run = true := by decide +kernel
abbrev w_X3_run (c a b : Int) : Prop := a = c + 6
abbrev q_X3_run (h : zM) (c : Int) (p1 : Int) (p2 : Int) (p3 : Int) (p4 : Int) : Option zV → zM → Prop := zqi fun v h' => ((-2147483648) ≤ v ∧ v ≤ 2147483647) ∧ okC h' ∧ zfC (w_X3_run c) h h'
set_option maxRecDepth 100000 in
set_option maxHeartbeats 4000000 in
theorem s_X3_run (l : Launch) (h : zM) (c : Int) (p1 : Int) (p2 : Int) (p3 : Int) (p4 : Int) (s0 : okC h) (hc : zLw c) (b_p1 : 0 ≤ p1 ∧ p1 ≤ 400) (b_p2 : 0 ≤ p2 ∧ p2 ≤ 400) (r_p3 : zWd p3) (b_p4 : 0 ≤ p4 ∧ p4 ≤ 17) : zT shC l yX3_run cX3_run 8 (some .int) (rmL 3) 0 0 [.inr c, .inl p1, .inl p2, .inr p3, .inl p4] h (q_X3_run h c p1 p2 p3 p4) := by
  refine zT_of (by decide +kernel) (L0 := [some (.inr c), some (.inl p1), some (.inl p2), some (.inr p3), some (.inl p4), none, none, none]) rfl (Nat.le_of_ble_eq_true rfl) ?_
  have b1 := zLw_b hc
  have b2 := zWd_b r_p3
  refine zj_iconst (zdk ttX3_run 0 rfl rfl) ?_
  refine zj_istore (L' := [some (.inr c), some (.inl p1), some (.inl p2), some (.inr p3), some (.inl p4), some (.inl 0), none, none]) (zdk ttX3_run 1 rfl rfl) (by decide) rfl ?_
  refine zj_iload_n (zdk ttX3_run 2 rfl rfl) rfl ?_
  refine zj_istore (L' := [some (.inr c), some (.inl p1), some (.inl p2), some (.inr p3), some (.inl p4), some (.inl 0), some (.inl p1), none]) (zdk ttX3_run 3 rfl rfl) (by decide) rfl ?_
  have lp249 : ∀ (n : Nat) (x3 x4 : Int) (h5 : zM), (0 ≤ x3 ∧ x3 ≤ 64) → (0 ≤ x4 ∧ x4 ≤ 400) → okC h5 → zfC (w_X3_run c) h h5 → (401 - x4).toNat < n → zJ shC l yX3_run cX3_run 8 (some .int) (rmL 3) 0 0 (q_X3_run h c p1 p2 p3 p4) 0 0 6 [some (.inr c), some (.inl p1), some (.inl p2), some (.inr p3), some (.inl p4), some (.inl x3), some (.inl x4), none] [] h5 := by
    intro n
    induction n with
    | zero => intro x3 x4 h5 b250 b251 s6 f7 m252; exact absurd m252 (Nat.not_lt_zero _)
    | succ n ih253 =>
      intro x3 x4 h5 b250 b251 s6 f7 m252
      refine zj_iload (zdk ttX3_run 4 rfl rfl) rfl ?_
      refine zj_iload_n (zdk ttX3_run 5 rfl rfl) rfl ?_
      refine zj_icmp_ge (t := 167) (zdk ttX3_run 6 rfl rfl) (by decide) (by omega) (by omega) (fun c254 => ?_) (fun c254 => ?_)
      · refine zj_iload (zdk ttX3_run 84 rfl rfl) rfl ?_
        refine zj_if_le (t := 184) (zdk ttX3_run 85 rfl rfl) (by decide) (by omega) (fun c255 => ?_) (fun c255 => ?_)
        · refine zj_iconst (zdk ttX3_run 93 rfl rfl) ?_
          exact zj_iret rfl (zdk ttX3_run 94 rfl rfl) (Nat.le_refl _) (Nat.le_refl _) ⟨0, rfl, by omega, s6, f7⟩
        · refine zj_aload_n (zdk ttX3_run 86 rfl rfl) rfl (by omega) ?_
          refine zj_getr (r := (c + 6)) (zdk ttX3_run 87 rfl rfl) zf_RX3_29 rfl (k_3_0 s6 hc) (rf_3_0_5 s6 hc) ?_
          refine zj_iload (zdk ttX3_run 88 rfl rfl) rfl ?_
          refine zj_iconst (zdk ttX3_run 89 rfl rfl) ?_
          refine zj_isub (zdk ttX3_run 90 rfl rfl) ?_
          have b256 : -2147483648 ≤ (h5.2 (c + 6) (x3 - 1)) ∧ (h5.2 (c + 6) (x3 - 1)) ≤ 2147483647 := ab_3_0_5 s6 hc (x3 - 1)
          refine zj_iald (v := (h5.2 (c + 6) (x3 - 1))) (zdk ttX3_run 91 rfl rfl) (ka_3_0_5 s6 hc) (by decide) (by omega) rfl ?_
          refine zj_goto (t := 185) (zdk ttX3_run 92 rfl rfl) (by decide) ?_
          exact zj_iret rfl (zdk ttX3_run 94 rfl rfl) (Nat.le_refl _) (Nat.le_refl _) ⟨(h5.2 (c + 6) (x3 - 1)), rfl, by omega, s6, f7⟩
      · refine zj_iload (zdk ttX3_run 7 rfl rfl) rfl ?_
        refine zj_sipush (zdk ttX3_run 8 rfl rfl) (by decide) ?_
        refine zj_icmp_ge (t := 167) (zdk ttX3_run 9 rfl rfl) (by decide) (by omega) (by decide) (fun c257 => ?_) (fun c257 => ?_)
        · exact absurd c257 (by omega)
        · refine zj_aload_n (zdk ttX3_run 10 rfl rfl) rfl (by omega) ?_
          refine zj_getr (r := (c + 5)) (zdk ttX3_run 11 rfl rfl) zf_RX3_26 rfl (k_3_0 s6 hc) (rf_3_0_4 s6 hc) ?_
          refine zj_iload (zdk ttX3_run 12 rfl rfl) rfl ?_
          have b258 : -2147483648 ≤ (h.2 (c + 5) x4) ∧ (h.2 (c + 5) x4) ≤ 2147483647 := ab_3_0_4 s0 hc x4
          refine zj_iald (v := (h.2 (c + 5) x4)) (zdk ttX3_run 13 rfl rfl) (ka_3_0_4 s6 hc) (by decide) (by omega) (zfC_a f7 (fun z9 => by unfold w_X3_run at z9; first | (revert z9; decide) | omega)) ?_
          refine zj_istore (L' := [some (.inr c), some (.inl p1), some (.inl p2), some (.inr p3), some (.inl p4), some (.inl x3), some (.inl x4), some (.inl (h.2 (c + 5) x4))]) (zdk ttX3_run 14 rfl rfl) (by decide) rfl ?_
          refine zj_iload (zdk ttX3_run 15 rfl rfl) rfl ?_
          refine zj_sipush (zdk ttX3_run 16 rfl rfl) (by decide) ?_
          refine zj_icmp_ge (t := 82) (zdk ttX3_run 17 rfl rfl) (by decide) (by omega) (by decide) (fun c259 => ?_) (fun c259 => ?_)
          · refine zj_iload (zdk ttX3_run 38 rfl rfl) rfl ?_
            refine zj_sipush (zdk ttX3_run 39 rfl rfl) (by decide) ?_
            refine zj_icmp_ne (t := 118) (zdk ttX3_run 40 rfl rfl) (by decide) (by omega) (by decide) (fun c260 => ?_) (fun c260 => ?_)
            · refine zj_iload (zdk ttX3_run 58 rfl rfl) rfl ?_
              refine zj_iconst (zdk ttX3_run 59 rfl rfl) ?_
              refine zj_icmp_le (t := 161) (zdk ttX3_run 60 rfl rfl) (by decide) (by omega) (by decide) (fun c261 => ?_) (fun c261 => ?_)
              · refine zj_iinc (L' := [some (.inr c), some (.inl p1), some (.inl p2), some (.inr p3), some (.inl p4), some (.inl x3), some (.inl (x4 + 1)), some (.inl (h.2 (c + 5) x4))]) (zdk ttX3_run 82 rfl rfl) rfl (by decide) rfl ?_
                refine zj_goto (t := 6) (zdk ttX3_run 83 rfl rfl) (by decide) ?_
                refine zj_kill (k := 7) (L' := [some (.inr c), some (.inl p1), some (.inl p2), some (.inr p3), some (.inl p4), some (.inl x3), some (.inl (x4 + 1)), none]) rfl ?_
                exact ih253  x3 (x4 + 1) h5 (by omega) (by omega) s6 f7 (by omega)
              · refine zj_iinc (L' := [some (.inr c), some (.inl p1), some (.inl p2), some (.inr p3), some (.inl p4), some (.inl (x3 + (-1))), some (.inl x4), some (.inl (h.2 (c + 5) x4))]) (zdk ttX3_run 61 rfl rfl) rfl (by decide) rfl ?_
                refine zj_aload_n (zdk ttX3_run 62 rfl rfl) rfl (by omega) ?_
                refine zj_getr (r := (c + 6)) (zdk ttX3_run 63 rfl rfl) zf_RX3_29 rfl (k_3_0 s6 hc) (rf_3_0_5 s6 hc) ?_
                refine zj_iload (zdk ttX3_run 64 rfl rfl) rfl ?_
                refine zj_iconst (zdk ttX3_run 65 rfl rfl) ?_
                refine zj_isub (zdk ttX3_run 66 rfl rfl) ?_
                refine zj_iload (zdk ttX3_run 67 rfl rfl) rfl ?_
                refine zj_sipush (zdk ttX3_run 68 rfl rfl) (by decide) ?_
                refine zj_isub (zdk ttX3_run 69 rfl rfl) ?_
                refine zj_aload_n (zdk ttX3_run 70 rfl rfl) rfl (by omega) ?_
                refine zj_getr (r := (c + 6)) (zdk ttX3_run 71 rfl rfl) zf_RX3_29 rfl (k_3_0 s6 hc) (rf_3_0_5 s6 hc) ?_
                refine zj_iload (zdk ttX3_run 72 rfl rfl) rfl ?_
                refine zj_iconst (zdk ttX3_run 73 rfl rfl) ?_
                refine zj_isub (zdk ttX3_run 74 rfl rfl) ?_
                have b262 : -2147483648 ≤ (h5.2 (c + 6) ((x3 + (-1)) - 1)) ∧ (h5.2 (c + 6) ((x3 + (-1)) - 1)) ≤ 2147483647 := ab_3_0_5 s6 hc ((x3 + (-1)) - 1)
                refine zj_iald (v := (h5.2 (c + 6) ((x3 + (-1)) - 1))) (zdk ttX3_run 75 rfl rfl) (ka_3_0_5 s6 hc) (by decide) (by omega) rfl ?_
                refine zj_aload_n (zdk ttX3_run 76 rfl rfl) rfl (by omega) ?_
                refine zj_getr (r := (c + 6)) (zdk ttX3_run 77 rfl rfl) zf_RX3_29 rfl (k_3_0 s6 hc) (rf_3_0_5 s6 hc) ?_
                refine zj_iload (zdk ttX3_run 78 rfl rfl) rfl ?_
                have b263 : -2147483648 ≤ (h5.2 (c + 6) (x3 + (-1))) ∧ (h5.2 (c + 6) (x3 + (-1))) ≤ 2147483647 := ab_3_0_5 s6 hc (x3 + (-1))
                refine zj_iald (v := (h5.2 (c + 6) (x3 + (-1)))) (zdk ttX3_run 79 rfl rfl) (ka_3_0_5 s6 hc) (by decide) (by omega) rfl ?_
                refine zj_callS (av := [.inl ((h.2 (c + 5) x4) - 20000), .inl (h5.2 (c + 6) ((x3 + (-1)) - 1)), .inl (h5.2 (c + 6) (x3 + (-1)))]) (st := [.inl ((x3 + (-1)) - 1), .inr (c + 6)]) (zdk ttX3_run 80 rfl rfl) mb_X3_joined ms_RX3_51 rfl rfl (Nat.le_of_ble_eq_true rfl) (s_X3_joined l h5 ((h.2 (c + 5) x4) - 20000) (h5.2 (c + 6) ((x3 + (-1)) - 1)) (h5.2 (c + 6) (x3 + (-1))) s6 (by omega) (by omega) (by omega)) (rm_ok (by decide) (by decide)) (zq_i fun v265 h266 q264 => ?_)
                obtain ⟨rfl, b267⟩ := q264
                refine zj_iast (zdk ttX3_run 81 rfl rfl) (ka_3_0_5 s6 hc) (by decide) (by omega) (fun h268 e269 => ?_)
                refine zj_iinc (L' := [some (.inr c), some (.inl p1), some (.inl p2), some (.inr p3), some (.inl p4), some (.inl (x3 + (-1))), some (.inl (x4 + 1)), some (.inl (h.2 (c + 5) x4))]) (zdk ttX3_run 82 rfl rfl) rfl (by decide) rfl ?_
                refine zj_goto (t := 6) (zdk ttX3_run 83 rfl rfl) (by decide) ?_
                refine zj_kill (k := 7) (L' := [some (.inr c), some (.inl p1), some (.inl p2), some (.inr p3), some (.inl p4), some (.inl (x3 + (-1))), some (.inl (x4 + 1)), none]) rfl ?_
                have s270 : okC h268 := aw_3_0_5 s6 hc e269 (by omega)
                have f271 : zfC (w_X3_run c) h h268 := zfC_w f7 e269 (by omega)
                exact ih253  (x3 + (-1)) (x4 + 1) h268 (by omega) (by omega) s270 f271 (by omega)
            · refine zj_iload (zdk ttX3_run 41 rfl rfl) rfl ?_
              refine zj_if_le (t := 161) (zdk ttX3_run 42 rfl rfl) (by decide) (by omega) (fun c272 => ?_) (fun c272 => ?_)
              · refine zj_iinc (L' := [some (.inr c), some (.inl p1), some (.inl p2), some (.inr p3), some (.inl p4), some (.inl x3), some (.inl (x4 + 1)), some (.inl (h.2 (c + 5) x4))]) (zdk ttX3_run 82 rfl rfl) rfl (by decide) rfl ?_
                refine zj_goto (t := 6) (zdk ttX3_run 83 rfl rfl) (by decide) ?_
                refine zj_kill (k := 7) (L' := [some (.inr c), some (.inl p1), some (.inl p2), some (.inr p3), some (.inl p4), some (.inl x3), some (.inl (x4 + 1)), none]) rfl ?_
                exact ih253  x3 (x4 + 1) h5 (by omega) (by omega) s6 f7 (by omega)
              · refine zj_aload_n (zdk ttX3_run 43 rfl rfl) rfl (by omega) ?_
                refine zj_getr (r := (c + 6)) (zdk ttX3_run 44 rfl rfl) zf_RX3_29 rfl (k_3_0 s6 hc) (rf_3_0_5 s6 hc) ?_
                refine zj_iload (zdk ttX3_run 45 rfl rfl) rfl ?_
                refine zj_iconst (zdk ttX3_run 46 rfl rfl) ?_
                refine zj_isub (zdk ttX3_run 47 rfl rfl) ?_
                refine zj_iconst (zdk ttX3_run 48 rfl rfl) ?_
                refine zj_aload_n (zdk ttX3_run 49 rfl rfl) rfl (by omega) ?_
                refine zj_getr (r := (c + 6)) (zdk ttX3_run 50 rfl rfl) zf_RX3_29 rfl (k_3_0 s6 hc) (rf_3_0_5 s6 hc) ?_
                refine zj_iload (zdk ttX3_run 51 rfl rfl) rfl ?_
                refine zj_iconst (zdk ttX3_run 52 rfl rfl) ?_
                refine zj_isub (zdk ttX3_run 53 rfl rfl) ?_
                have b273 : -2147483648 ≤ (h5.2 (c + 6) (x3 - 1)) ∧ (h5.2 (c + 6) (x3 - 1)) ≤ 2147483647 := ab_3_0_5 s6 hc (x3 - 1)
                refine zj_iald (v := (h5.2 (c + 6) (x3 - 1))) (zdk ttX3_run 54 rfl rfl) (ka_3_0_5 s6 hc) (by decide) (by omega) rfl ?_
                refine zj_isub (zdk ttX3_run 55 rfl rfl) ?_
                refine zj_wrap ?_
                have b274 := zwp_in (1 - (h5.2 (c + 6) (x3 - 1)))
                refine zj_iast (zdk ttX3_run 56 rfl rfl) (ka_3_0_5 s6 hc) (by decide) (by omega) (fun h275 e276 => ?_)
                refine zj_goto (t := 161) (zdk ttX3_run 57 rfl rfl) (by decide) ?_
                refine zj_iinc (L' := [some (.inr c), some (.inl p1), some (.inl p2), some (.inr p3), some (.inl p4), some (.inl x3), some (.inl (x4 + 1)), some (.inl (h.2 (c + 5) x4))]) (zdk ttX3_run 82 rfl rfl) rfl (by decide) rfl ?_
                refine zj_goto (t := 6) (zdk ttX3_run 83 rfl rfl) (by decide) ?_
                refine zj_kill (k := 7) (L' := [some (.inr c), some (.inl p1), some (.inl p2), some (.inr p3), some (.inl p4), some (.inl x3), some (.inl (x4 + 1)), none]) rfl ?_
                have s277 : okC h275 := aw_3_0_5 s6 hc e276 (by omega)
                have f278 : zfC (w_X3_run c) h h275 := zfC_w f7 e276 (by omega)
                exact ih253  x3 (x4 + 1) h275 (by omega) (by omega) s277 f278 (by omega)
          · refine zj_iload (zdk ttX3_run 18 rfl rfl) rfl ?_
            refine zj_bipush (zdk ttX3_run 19 rfl rfl) (by decide) ?_
            refine zj_icmp_ge (t := 161) (zdk ttX3_run 20 rfl rfl) (by decide) (by omega) (by decide) (fun c279 => ?_) (fun c279 => ?_)
            · refine zj_iinc (L' := [some (.inr c), some (.inl p1), some (.inl p2), some (.inr p3), some (.inl p4), some (.inl x3), some (.inl (x4 + 1)), some (.inl (h.2 (c + 5) x4))]) (zdk ttX3_run 82 rfl rfl) rfl (by decide) rfl ?_
              refine zj_goto (t := 6) (zdk ttX3_run 83 rfl rfl) (by decide) ?_
              refine zj_kill (k := 7) (L' := [some (.inr c), some (.inl p1), some (.inl p2), some (.inr p3), some (.inl p4), some (.inl x3), some (.inl (x4 + 1)), none]) rfl ?_
              exact ih253  x3 (x4 + 1) h5 (by omega) (by omega) s6 f7 (by omega)
            · refine zj_aload_n (zdk ttX3_run 21 rfl rfl) rfl (by omega) ?_
              refine zj_getr (r := (c + 6)) (zdk ttX3_run 22 rfl rfl) zf_RX3_29 rfl (k_3_0 s6 hc) (rf_3_0_5 s6 hc) ?_
              refine zj_iload (zdk ttX3_run 23 rfl rfl) rfl ?_
              refine zj_iinc (L' := [some (.inr c), some (.inl p1), some (.inl p2), some (.inr p3), some (.inl p4), some (.inl (x3 + 1)), some (.inl x4), some (.inl (h.2 (c + 5) x4))]) (zdk ttX3_run 24 rfl rfl) rfl (by decide) rfl ?_
              refine zj_iload (zdk ttX3_run 25 rfl rfl) rfl ?_
              refine zj_sipush (zdk ttX3_run 26 rfl rfl) (by decide) ?_
              refine zj_icmp_ge (t := 66) (zdk ttX3_run 27 rfl rfl) (by decide) (by omega) (by decide) (fun c280 => ?_) (fun c280 => ?_)
              · refine zj_aload_n (zdk ttX3_run 30 rfl rfl) rfl (by omega) ?_
                refine zj_iload (zdk ttX3_run 31 rfl rfl) rfl ?_
                refine zj_sipush (zdk ttX3_run 32 rfl rfl) (by decide) ?_
                refine zj_isub (zdk ttX3_run 33 rfl rfl) ?_
                refine zj_iload (zdk ttX3_run 34 rfl rfl) rfl ?_
                refine zj_callV (av := [.inl ((h.2 (c + 5) x4) - 10000), .inl p4]) (st := [.inl x3, .inr (c + 6)]) (zdk ttX3_run 35 rfl rfl) mb_X9_valueOf mv_RX3_45 (ci := 9) rfl rfl (k_9_0 s6 r_p3) rfl rfl (Nat.le_of_ble_eq_true rfl) (s_X9_valueOf l h5 p3 ((h.2 (c + 5) x4) - 10000) p4 s6 r_p3 (by omega) (by omega)) (rm_ok (by decide) (by decide)) (zq_i fun v282 h283 q281 => ?_)
                obtain ⟨rfl, b284⟩ := q281
                refine zj_iast (zdk ttX3_run 36 rfl rfl) (ka_3_0_5 s6 hc) (by decide) (by omega) (fun h285 e286 => ?_)
                refine zj_goto (t := 161) (zdk ttX3_run 37 rfl rfl) (by decide) ?_
                refine zj_iinc (L' := [some (.inr c), some (.inl p1), some (.inl p2), some (.inr p3), some (.inl p4), some (.inl (x3 + 1)), some (.inl (x4 + 1)), some (.inl (h.2 (c + 5) x4))]) (zdk ttX3_run 82 rfl rfl) rfl (by decide) rfl ?_
                refine zj_goto (t := 6) (zdk ttX3_run 83 rfl rfl) (by decide) ?_
                refine zj_kill (k := 7) (L' := [some (.inr c), some (.inl p1), some (.inl p2), some (.inr p3), some (.inl p4), some (.inl (x3 + 1)), some (.inl (x4 + 1)), none]) rfl ?_
                have s287 : okC h285 := aw_3_0_5 s6 hc e286 (by omega)
                have f288 : zfC (w_X3_run c) h h285 := zfC_w f7 e286 (by omega)
                exact ih253  (x3 + 1) (x4 + 1) h285 (by omega) (by omega) s287 f288 (by omega)
              · refine zj_iload (zdk ttX3_run 28 rfl rfl) rfl ?_
                refine zj_goto (t := 78) (zdk ttX3_run 29 rfl rfl) (by decide) ?_
                refine zj_iast (zdk ttX3_run 36 rfl rfl) (ka_3_0_5 s6 hc) (by decide) (by omega) (fun h289 e290 => ?_)
                refine zj_goto (t := 161) (zdk ttX3_run 37 rfl rfl) (by decide) ?_
                refine zj_iinc (L' := [some (.inr c), some (.inl p1), some (.inl p2), some (.inr p3), some (.inl p4), some (.inl (x3 + 1)), some (.inl (x4 + 1)), some (.inl (h.2 (c + 5) x4))]) (zdk ttX3_run 82 rfl rfl) rfl (by decide) rfl ?_
                refine zj_goto (t := 6) (zdk ttX3_run 83 rfl rfl) (by decide) ?_
                refine zj_kill (k := 7) (L' := [some (.inr c), some (.inl p1), some (.inl p2), some (.inr p3), some (.inl p4), some (.inl (x3 + 1)), some (.inl (x4 + 1)), none]) rfl ?_
                have s291 : okC h289 := aw_3_0_5 s6 hc e290 (by omega)
                have f292 : zfC (w_X3_run c) h h289 := zfC_w f7 e290 (by omega)
                exact ih253  (x3 + 1) (x4 + 1) h289 (by omega) (by omega) s291 f292 (by omega)
  exact lp249 _ 0 p1 h (by omega) (by omega) s0 (zfC_r _ _) (Nat.lt_succ_self _)

abbrev tX9_tells : List (Nat × Instr × Nat) := [(0, .iload_n 1, 1), (1, .iconst 1, 1), (2, .if_icmp .ne 9, 3), (5, .sipush 999, 3), (8, .goto 6, 3), (11, .sipush 1000, 3), (14, .istore_n 3, 1), (15, .iconst 0, 1), (16, .istore 4, 2), (18, .iload 4, 2), (20, .aload_n 0, 1), (21, .getfield 21, 3), (24, .getfield 182, 3), (27, .if_icmp .ge 127, 3), (30, .aload_n 0, 1), (31, .getfield 21, 3), (34, .getfield 183, 3), (37, .iload 4, 2), (39, .iaload, 1), (40, .iload_n 1, 1), (41, .if_icmp .eq 6, 3), (44, .goto 104, 3), (47, .aload_n 0, 1), (48, .getfield 21, 3), (51, .getfield 186, 3), (54, .iload 4, 2), (56, .iaload, 1), (57, .aload_n 0, 1), (58, .getfield 21, 3), (61, .getfield 189, 3), (64, .iload 4, 2), (66, .iaload, 1), (67, .if_icmp .ne 7, 3), (70, .iconst 1, 1), (71, .goto 4, 3), (74, .iconst 0, 1), (75, .istore 5, 2), (77, .iload 5, 2), (79, .ifCond .ne 35, 3), (82, .aload_n 0, 1), (83, .getfield 21, 3), (86, .aload_n 0, 1), (87, .getfield 21, 3), (90, .getfield 186, 3), (93, .iload 4, 2), (95, .iaload, 1), (96, .aload_n 0, 1), (97, .getfield 21, 3), (100, .getfield 189, 3), (103, .iload 4, 2), (105, .iaload, 1), (106, .aload_n 0, 1), (107, .iload_n 2, 1), (108, .invokevirtual 192, 3), (111, .ifCond .eq 37, 3), (114, .aload_n 0, 1), (115, .getfield 21, 3), (118, .aload_n 0, 1), (119, .getfield 21, 3), (122, .getfield 196, 3), (125, .iload 4, 2), (127, .iaload, 1), (128, .aload_n 0, 1), (129, .getfield 21, 3), (132, .getfield 186, 3), (135, .iload 4, 2), (137, .iaload, 1), (138, .aload_n 0, 1), (139, .iload_n 2, 1), (140, .invokevirtual 192, 3), (143, .iload_n 3, 1), (144, .invokestatic 199, 3), (147, .ireturn, 1), (148, .iinc 4 1, 3), (151, .goto (-133), 3), (154, .iload_n 1, 1), (155, .lookupswitch 56 #[(0, 25), (1, 42)], 25), (180, .bipush 80, 2), (182, .aload_n 0, 1), (183, .getfield 12, 3), (186, .getfield 202, 3), (189, .iload_n 2, 1), (190, .iaload, 1), (191, .imul, 1), (192, .iload_n 3, 1), (193, .invokestatic 199, 3), (196, .ireturn, 1), (197, .aload_n 0, 1), (198, .getfield 12, 3), (201, .getfield 205, 3), (204, .iload_n 2, 1), (205, .iaload, 1), (206, .iload_n 3, 1), (207, .invokestatic 199, 3), (210, .ireturn, 1), (211, .sipush 500, 3), (214, .bipush 50, 2), (216, .aload_n 0, 1), (217, .getfield 12, 3), (220, .getfield 202, 3), (223, .iload_n 2, 1), (224, .iaload, 1), (225, .imul, 1), (226, .isub, 1), (227, .iload_n 3, 1), (228, .invokestatic 199, 3), (231, .ireturn, 1)]
theorem ttX9_tells : zdt cX9_tells tX9_tells = true := by decide +kernel
abbrev w_X9_tells (c a b : Int) : Prop := a = c + 11
abbrev q_X9_tells (h : zM) (c : Int) (p1 : Int) (p2 : Int) : Option zV → zM → Prop := zqi fun v h' => (0 ≤ v ∧ v ≤ 1000) ∧ okC h' ∧ zfC (w_X9_tells c) h h'
set_option maxRecDepth 100000 in
set_option maxHeartbeats 4000000 in
theorem s_X9_tells (l : Launch) (h : zM) (c : Int) (p1 : Int) (p2 : Int) (s0 : okC h) (hc : zWd c) (b_p1 : (-2147483648) ≤ p1 ∧ p1 ≤ 2147483647) (b_p2 : 0 ≤ p2 ∧ p2 ≤ 17) : zT shC l yX9_tells cX9_tells 6 (some .int) (rmL 4) 0 0 [.inr c, .inl p1, .inl p2] h (q_X9_tells h c p1 p2) := by
  refine zT_of (by decide +kernel) (L0 := [some (.inr c), some (.inl p1), some (.inl p2), none, none, none]) rfl (Nat.le_of_ble_eq_true rfl) ?_
  have b1 := zWd_b hc
  refine zj_iload_n (zdk ttX9_tells 0 rfl rfl) rfl ?_
  refine zj_iconst (zdk ttX9_tells 1 rfl rfl) ?_
  have j4 : ∀ (y3 : Int), (999 ≤ y3 ∧ y3 ≤ 1000) → zJ shC l yX9_tells cX9_tells 6 (some .int) (rmL 4) 0 0 (q_X9_tells h c p1 p2) 0 0 14 [some (.inr c), some (.inl p1), some (.inl p2), none, none, none] [.inl y3] h := by
    intro y3 b5
    refine zj_istore_n (L' := [some (.inr c), some (.inl p1), some (.inl p2), some (.inl y3), none, none]) (zdk ttX9_tells 6 rfl rfl) (by decide) rfl ?_
    refine zj_iconst (zdk ttX9_tells 7 rfl rfl) ?_
    refine zj_istore (L' := [some (.inr c), some (.inl p1), some (.inl p2), some (.inl y3), some (.inl 0), none]) (zdk ttX9_tells 8 rfl rfl) (by decide) rfl ?_
    have lp100 : ∀ (n : Nat) (x6 : Int) (h7 : zM), (0 ≤ x6 ∧ x6 ≤ 16) → okC h7 → zfC (w_X9_tells c) h h7 → (17 - x6).toNat < n → zJ shC l yX9_tells cX9_tells 6 (some .int) (rmL 4) 0 0 (q_X9_tells h c p1 p2) 0 0 18 [some (.inr c), some (.inl p1), some (.inl p2), some (.inl y3), some (.inl x6), none] [] h7 := by
      intro n
      induction n with
      | zero => intro x6 h7 b101 s8 f9 m102; exact absurd m102 (Nat.not_lt_zero _)
      | succ n ih103 =>
        intro x6 h7 b101 s8 f9 m102
        refine zj_iload (zdk ttX9_tells 9 rfl rfl) rfl ?_
        refine zj_aload_n (zdk ttX9_tells 10 rfl rfl) rfl (by omega) ?_
        refine zj_getr (r := (c + 5)) (zdk ttX9_tells 11 rfl rfl) zf_RX9_21 rfl (k_9_0 s8 hc) (rf_9_0_1 s8 hc) ?_
        have b104 : 0 ≤ (h.2 (c + 5) 6) ∧ (h.2 (c + 5) 6) ≤ 16 := fb_9_5_6 s0 hc
        refine zj_geti (v := (h.2 (c + 5) 6)) (zdk ttX9_tells 12 rfl rfl) zf_RX9_182 rfl (k_9_5 s8 hc) (zfC_a f9 (fun z9 => by unfold w_X9_tells at z9; first | (revert z9; decide) | omega)) ?_
        refine zj_icmp_ge (t := 154) (zdk ttX9_tells 13 rfl rfl) (by decide) (by omega) (by omega) (fun c105 => ?_) (fun c105 => ?_)
        · refine zj_iload_n (zdk ttX9_tells 75 rfl rfl) rfl ?_
          have k107 : (¬ p1 = 0 ∧ ¬ p1 = 1) → zJ shC l yX9_tells cX9_tells 6 (some .int) (rmL 4) 0 0 (q_X9_tells h c p1 p2) 0 0 211 [some (.inr c), some (.inl p1), some (.inl p2), some (.inl y3), some (.inl x6), none] [] h7 := by
            intro c106
            refine zj_sipush (zdk ttX9_tells 95 rfl rfl) (by decide) ?_
            refine zj_bipush (zdk ttX9_tells 96 rfl rfl) (by decide) ?_
            refine zj_aload_n (zdk ttX9_tells 97 rfl rfl) rfl (by omega) ?_
            refine zj_getr (r := (c + 1)) (zdk ttX9_tells 98 rfl rfl) zf_RX9_12 rfl (k_9_0 s8 hc) (rf_9_0_0 s8 hc) ?_
            refine zj_getr (r := (c + 3)) (zdk ttX9_tells 99 rfl rfl) zf_RX9_202 rfl (k_9_1 s8 hc) (rf_9_1_1 s8 hc) ?_
            refine zj_iload_n (zdk ttX9_tells 100 rfl rfl) rfl ?_
            have b108 : -2147483648 ≤ (h.2 (c + 3) p2) ∧ (h.2 (c + 3) p2) ≤ 2147483647 := ab_9_1_1 s0 hc p2
            refine zj_iald (v := (h.2 (c + 3) p2)) (zdk ttX9_tells 101 rfl rfl) (ka_9_1_1 s8 hc) (by decide) (by omega) (zfC_a f9 (fun z9 => by unfold w_X9_tells at z9; first | (revert z9; decide) | omega)) ?_
            refine zj_imul (zdk ttX9_tells 102 rfl rfl) ?_
            refine zj_wrap ?_
            have b109 := zwp_in (50 * (h.2 (c + 3) p2))
            refine zj_isub (zdk ttX9_tells 103 rfl rfl) ?_
            refine zj_wrap ?_
            have b110 := zwp_in (500 - (zwp (50 * (h.2 (c + 3) p2))))
            refine zj_iload_n (zdk ttX9_tells 104 rfl rfl) rfl ?_
            refine zj_callS (av := [.inl (zwp (500 - (zwp (50 * (h.2 (c + 3) p2))))), .inl y3]) (st := []) (zdk ttX9_tells 105 rfl rfl) mb_X9_held ms_RX9_199 rfl rfl (Nat.le_of_ble_eq_true rfl) (s_X9_held l h7 (zwp (500 - (zwp (50 * (h.2 (c + 3) p2))))) y3 s8 (by omega) (by omega)) (rm_ok (by decide) (by decide)) (zq_i fun v112 h113 q111 => ?_)
            obtain ⟨rfl, b114, u115, u116⟩ := q111
            exact zj_iret rfl (zdk ttX9_tells 106 rfl rfl) (Nat.le_refl _) (Nat.le_refl _) ⟨v112, rfl, by omega, s8, f9⟩
          have k117 : p1 = 0 → zJ shC l yX9_tells cX9_tells 6 (some .int) (rmL 4) 0 0 (q_X9_tells h c p1 p2) 0 0 180 [some (.inr c), some (.inl p1), some (.inl p2), some (.inl y3), some (.inl x6), none] [] h7 := by
            intro c106
            refine zj_bipush (zdk ttX9_tells 77 rfl rfl) (by decide) ?_
            refine zj_aload_n (zdk ttX9_tells 78 rfl rfl) rfl (by omega) ?_
            refine zj_getr (r := (c + 1)) (zdk ttX9_tells 79 rfl rfl) zf_RX9_12 rfl (k_9_0 s8 hc) (rf_9_0_0 s8 hc) ?_
            refine zj_getr (r := (c + 3)) (zdk ttX9_tells 80 rfl rfl) zf_RX9_202 rfl (k_9_1 s8 hc) (rf_9_1_1 s8 hc) ?_
            refine zj_iload_n (zdk ttX9_tells 81 rfl rfl) rfl ?_
            have b118 : -2147483648 ≤ (h.2 (c + 3) p2) ∧ (h.2 (c + 3) p2) ≤ 2147483647 := ab_9_1_1 s0 hc p2
            refine zj_iald (v := (h.2 (c + 3) p2)) (zdk ttX9_tells 82 rfl rfl) (ka_9_1_1 s8 hc) (by decide) (by omega) (zfC_a f9 (fun z9 => by unfold w_X9_tells at z9; first | (revert z9; decide) | omega)) ?_
            refine zj_imul (zdk ttX9_tells 83 rfl rfl) ?_
            refine zj_wrap ?_
            have b119 := zwp_in (80 * (h.2 (c + 3) p2))
            refine zj_iload_n (zdk ttX9_tells 84 rfl rfl) rfl ?_
            refine zj_callS (av := [.inl (zwp (80 * (h.2 (c + 3) p2))), .inl y3]) (st := []) (zdk ttX9_tells 85 rfl rfl) mb_X9_held ms_RX9_199 rfl rfl (Nat.le_of_ble_eq_true rfl) (s_X9_held l h7 (zwp (80 * (h.2 (c + 3) p2))) y3 s8 (by omega) (by omega)) (rm_ok (by decide) (by decide)) (zq_i fun v121 h122 q120 => ?_)
            obtain ⟨rfl, b123, u124, u125⟩ := q120
            exact zj_iret rfl (zdk ttX9_tells 86 rfl rfl) (Nat.le_refl _) (Nat.le_refl _) ⟨v121, rfl, by omega, s8, f9⟩
          have k126 : p1 = 1 → zJ shC l yX9_tells cX9_tells 6 (some .int) (rmL 4) 0 0 (q_X9_tells h c p1 p2) 0 0 197 [some (.inr c), some (.inl p1), some (.inl p2), some (.inl y3), some (.inl x6), none] [] h7 := by
            intro c106
            refine zj_aload_n (zdk ttX9_tells 87 rfl rfl) rfl (by omega) ?_
            refine zj_getr (r := (c + 1)) (zdk ttX9_tells 88 rfl rfl) zf_RX9_12 rfl (k_9_0 s8 hc) (rf_9_0_0 s8 hc) ?_
            refine zj_getr (r := (c + 2)) (zdk ttX9_tells 89 rfl rfl) zf_RX9_205 rfl (k_9_1 s8 hc) (rf_9_1_0 s8 hc) ?_
            refine zj_iload_n (zdk ttX9_tells 90 rfl rfl) rfl ?_
            have b127 : -2147483648 ≤ (h.2 (c + 2) p2) ∧ (h.2 (c + 2) p2) ≤ 2147483647 := ab_9_1_0 s0 hc p2
            refine zj_iald (v := (h.2 (c + 2) p2)) (zdk ttX9_tells 91 rfl rfl) (ka_9_1_0 s8 hc) (by decide) (by omega) (zfC_a f9 (fun z9 => by unfold w_X9_tells at z9; first | (revert z9; decide) | omega)) ?_
            refine zj_iload_n (zdk ttX9_tells 92 rfl rfl) rfl ?_
            refine zj_callS (av := [.inl (h.2 (c + 2) p2), .inl y3]) (st := []) (zdk ttX9_tells 93 rfl rfl) mb_X9_held ms_RX9_199 rfl rfl (Nat.le_of_ble_eq_true rfl) (s_X9_held l h7 (h.2 (c + 2) p2) y3 s8 (by omega) (by omega)) (rm_ok (by decide) (by decide)) (zq_i fun v129 h130 q128 => ?_)
            obtain ⟨rfl, b131, u132, u133⟩ := q128
            exact zj_iret rfl (zdk ttX9_tells 94 rfl rfl) (Nat.le_refl _) (Nat.le_refl _) ⟨v129, rfl, by omega, s8, f9⟩
          by_cases z134 : p1 = 0
          · exact zj_lookup (t := 180) (zdk ttX9_tells 76 rfl rfl) (by omega) rfl (by rw [z134] <;> rfl) (by decide) (k117 z134)
          by_cases z135 : p1 = 1
          · exact zj_lookup (t := 197) (zdk ttX9_tells 76 rfl rfl) (by omega) rfl (by rw [z135] <;> rfl) (by decide) (k126 z135)
          exact zj_lookup (t := 211) (zdk ttX9_tells 76 rfl rfl) (by omega) rfl (by show Op.lookupswitch.offset [(0, 25), (1, 42)] 56 p1 = _; rw [Op.lookupswitch.offset_cons, if_neg (by omega), Op.lookupswitch.offset_cons, if_neg (by omega), Op.lookupswitch.offset_nil]) (by decide) (k107 (by omega))
        · refine zj_aload_n (zdk ttX9_tells 14 rfl rfl) rfl (by omega) ?_
          refine zj_getr (r := (c + 5)) (zdk ttX9_tells 15 rfl rfl) zf_RX9_21 rfl (k_9_0 s8 hc) (rf_9_0_1 s8 hc) ?_
          refine zj_getr (r := (c + 6)) (zdk ttX9_tells 16 rfl rfl) zf_RX9_183 rfl (k_9_5 s8 hc) (rf_9_5_0 s8 hc) ?_
          refine zj_iload (zdk ttX9_tells 17 rfl rfl) rfl ?_
          have b136 : -2147483648 ≤ (h.2 (c + 6) x6) ∧ (h.2 (c + 6) x6) ≤ 2147483647 := ab_9_5_0 s0 hc x6
          refine zj_iald (v := (h.2 (c + 6) x6)) (zdk ttX9_tells 18 rfl rfl) (ka_9_5_0 s8 hc) (by decide) (by omega) (zfC_a f9 (fun z9 => by unfold w_X9_tells at z9; first | (revert z9; decide) | omega)) ?_
          refine zj_iload_n (zdk ttX9_tells 19 rfl rfl) rfl ?_
          refine zj_icmp_eq (t := 47) (zdk ttX9_tells 20 rfl rfl) (by decide) (by omega) (by omega) (fun c137 => ?_) (fun c137 => ?_)
          · refine zj_aload_n (zdk ttX9_tells 22 rfl rfl) rfl (by omega) ?_
            refine zj_getr (r := (c + 5)) (zdk ttX9_tells 23 rfl rfl) zf_RX9_21 rfl (k_9_0 s8 hc) (rf_9_0_1 s8 hc) ?_
            refine zj_getr (r := (c + 8)) (zdk ttX9_tells 24 rfl rfl) zf_RX9_186 rfl (k_9_5 s8 hc) (rf_9_5_2 s8 hc) ?_
            refine zj_iload (zdk ttX9_tells 25 rfl rfl) rfl ?_
            have b138 : 0 ≤ (h.2 (c + 8) x6) ∧ (h.2 (c + 8) x6) ≤ 400 := ab_9_5_2 s0 hc x6
            refine zj_iald (v := (h.2 (c + 8) x6)) (zdk ttX9_tells 26 rfl rfl) (ka_9_5_2 s8 hc) (by decide) (by omega) (zfC_a f9 (fun z9 => by unfold w_X9_tells at z9; first | (revert z9; decide) | omega)) ?_
            refine zj_aload_n (zdk ttX9_tells 27 rfl rfl) rfl (by omega) ?_
            refine zj_getr (r := (c + 5)) (zdk ttX9_tells 28 rfl rfl) zf_RX9_21 rfl (k_9_0 s8 hc) (rf_9_0_1 s8 hc) ?_
            refine zj_getr (r := (c + 9)) (zdk ttX9_tells 29 rfl rfl) zf_RX9_189 rfl (k_9_5 s8 hc) (rf_9_5_3 s8 hc) ?_
            refine zj_iload (zdk ttX9_tells 30 rfl rfl) rfl ?_
            have b139 : 0 ≤ (h.2 (c + 9) x6) ∧ (h.2 (c + 9) x6) ≤ 400 := ab_9_5_3 s0 hc x6
            refine zj_iald (v := (h.2 (c + 9) x6)) (zdk ttX9_tells 31 rfl rfl) (ka_9_5_3 s8 hc) (by decide) (by omega) (zfC_a f9 (fun z9 => by unfold w_X9_tells at z9; first | (revert z9; decide) | omega)) ?_
            have j142 : ∀ (y141 : Int), (0 ≤ y141 ∧ y141 ≤ 1) → zJ shC l yX9_tells cX9_tells 6 (some .int) (rmL 4) 0 0 (q_X9_tells h c p1 p2) 0 0 75 [some (.inr c), some (.inl p1), some (.inl p2), some (.inl y3), some (.inl x6), none] [.inl y141] h7 := by
              intro y141 b143
              refine zj_istore (L' := [some (.inr c), some (.inl p1), some (.inl p2), some (.inl y3), some (.inl x6), some (.inl y141)]) (zdk ttX9_tells 36 rfl rfl) (by decide) rfl ?_
              refine zj_iload (zdk ttX9_tells 37 rfl rfl) rfl ?_
              refine zj_if_ne (t := 114) (zdk ttX9_tells 38 rfl rfl) (by decide) (by omega) (fun c144 => ?_) (fun c144 => ?_)
              · refine zj_aload_n (zdk ttX9_tells 55 rfl rfl) rfl (by omega) ?_
                refine zj_getr (r := (c + 5)) (zdk ttX9_tells 56 rfl rfl) zf_RX9_21 rfl (k_9_0 s8 hc) (rf_9_0_1 s8 hc) ?_
                refine zj_aload_n (zdk ttX9_tells 57 rfl rfl) rfl (by omega) ?_
                refine zj_getr (r := (c + 5)) (zdk ttX9_tells 58 rfl rfl) zf_RX9_21 rfl (k_9_0 s8 hc) (rf_9_0_1 s8 hc) ?_
                refine zj_getr (r := (c + 7)) (zdk ttX9_tells 59 rfl rfl) zf_RX9_196 rfl (k_9_5 s8 hc) (rf_9_5_1 s8 hc) ?_
                refine zj_iload (zdk ttX9_tells 60 rfl rfl) rfl ?_
                have b145 : 0 ≤ (h.2 (c + 7) x6) ∧ (h.2 (c + 7) x6) ≤ 400 := ab_9_5_1 s0 hc x6
                refine zj_iald (v := (h.2 (c + 7) x6)) (zdk ttX9_tells 61 rfl rfl) (ka_9_5_1 s8 hc) (by decide) (by omega) (zfC_a f9 (fun z9 => by unfold w_X9_tells at z9; first | (revert z9; decide) | omega)) ?_
                refine zj_aload_n (zdk ttX9_tells 62 rfl rfl) rfl (by omega) ?_
                refine zj_getr (r := (c + 5)) (zdk ttX9_tells 63 rfl rfl) zf_RX9_21 rfl (k_9_0 s8 hc) (rf_9_0_1 s8 hc) ?_
                refine zj_getr (r := (c + 8)) (zdk ttX9_tells 64 rfl rfl) zf_RX9_186 rfl (k_9_5 s8 hc) (rf_9_5_2 s8 hc) ?_
                refine zj_iload (zdk ttX9_tells 65 rfl rfl) rfl ?_
                refine zj_iald (v := (h.2 (c + 8) x6)) (zdk ttX9_tells 66 rfl rfl) (ka_9_5_2 s8 hc) (by decide) (by omega) (zfC_a f9 (fun z9 => by unfold w_X9_tells at z9; first | (revert z9; decide) | omega)) ?_
                refine zj_aload_n (zdk ttX9_tells 67 rfl rfl) rfl (by omega) ?_
                refine zj_iload_n (zdk ttX9_tells 68 rfl rfl) rfl ?_
                refine zj_callV (av := [.inl (h.2 (c + 7) x6), .inl (h.2 (c + 8) x6), .inr c, .inl p2]) (st := []) (zdk ttX9_tells 69 rfl rfl) mb_X3_run mv_RX9_192 (ci := 3) rfl rfl (k_9_5 s8 hc) rfl rfl (Nat.le_of_ble_eq_true rfl) (s_X3_run l h7 (c + 5) (h.2 (c + 7) x6) (h.2 (c + 8) x6) c p2 s8 (zs_9_5 hc) (by omega) (by omega) hc (by omega)) (rm_ok (by decide) (by decide)) (zq_i fun v147 h148 q146 => ?_)
                obtain ⟨b149, s150, f151⟩ := q146
                refine zj_iload_n (zdk ttX9_tells 70 rfl rfl) rfl ?_
                refine zj_callS (av := [.inl v147, .inl y3]) (st := []) (zdk ttX9_tells 71 rfl rfl) mb_X9_held ms_RX9_199 rfl rfl (Nat.le_of_ble_eq_true rfl) (s_X9_held l h148 v147 y3 s150 (by omega) (by omega)) (rm_ok (by decide) (by decide)) (zq_i fun v153 h154 q152 => ?_)
                obtain ⟨rfl, b155, u156, u157⟩ := q152
                have f158 : zfC (w_X9_tells c) h h148 := zfC_t f9 f151 (fun a9 b9 z9 => by
                  exact (by omega))
                exact zj_iret rfl (zdk ttX9_tells 72 rfl rfl) (Nat.le_refl _) (Nat.le_refl _) ⟨v153, rfl, by omega, s150, f158⟩
              · refine zj_aload_n (zdk ttX9_tells 39 rfl rfl) rfl (by omega) ?_
                refine zj_getr (r := (c + 5)) (zdk ttX9_tells 40 rfl rfl) zf_RX9_21 rfl (k_9_0 s8 hc) (rf_9_0_1 s8 hc) ?_
                refine zj_aload_n (zdk ttX9_tells 41 rfl rfl) rfl (by omega) ?_
                refine zj_getr (r := (c + 5)) (zdk ttX9_tells 42 rfl rfl) zf_RX9_21 rfl (k_9_0 s8 hc) (rf_9_0_1 s8 hc) ?_
                refine zj_getr (r := (c + 8)) (zdk ttX9_tells 43 rfl rfl) zf_RX9_186 rfl (k_9_5 s8 hc) (rf_9_5_2 s8 hc) ?_
                refine zj_iload (zdk ttX9_tells 44 rfl rfl) rfl ?_
                refine zj_iald (v := (h.2 (c + 8) x6)) (zdk ttX9_tells 45 rfl rfl) (ka_9_5_2 s8 hc) (by decide) (by omega) (zfC_a f9 (fun z9 => by unfold w_X9_tells at z9; first | (revert z9; decide) | omega)) ?_
                refine zj_aload_n (zdk ttX9_tells 46 rfl rfl) rfl (by omega) ?_
                refine zj_getr (r := (c + 5)) (zdk ttX9_tells 47 rfl rfl) zf_RX9_21 rfl (k_9_0 s8 hc) (rf_9_0_1 s8 hc) ?_
                refine zj_getr (r := (c + 9)) (zdk ttX9_tells 48 rfl rfl) zf_RX9_189 rfl (k_9_5 s8 hc) (rf_9_5_3 s8 hc) ?_
                refine zj_iload (zdk ttX9_tells 49 rfl rfl) rfl ?_
                refine zj_iald (v := (h.2 (c + 9) x6)) (zdk ttX9_tells 50 rfl rfl) (ka_9_5_3 s8 hc) (by decide) (by omega) (zfC_a f9 (fun z9 => by unfold w_X9_tells at z9; first | (revert z9; decide) | omega)) ?_
                refine zj_aload_n (zdk ttX9_tells 51 rfl rfl) rfl (by omega) ?_
                refine zj_iload_n (zdk ttX9_tells 52 rfl rfl) rfl ?_
                refine zj_callV (av := [.inl (h.2 (c + 8) x6), .inl (h.2 (c + 9) x6), .inr c, .inl p2]) (st := []) (zdk ttX9_tells 53 rfl rfl) mb_X3_run mv_RX9_192 (ci := 3) rfl rfl (k_9_5 s8 hc) rfl rfl (Nat.le_of_ble_eq_true rfl) (s_X3_run l h7 (c + 5) (h.2 (c + 8) x6) (h.2 (c + 9) x6) c p2 s8 (zs_9_5 hc) (by omega) (by omega) hc (by omega)) (rm_ok (by decide) (by decide)) (zq_i fun v160 h161 q159 => ?_)
                obtain ⟨b162, s163, f164⟩ := q159
                refine zj_if_eq (t := 148) (zdk ttX9_tells 54 rfl rfl) (by decide) (by omega) (fun c165 => ?_) (fun c165 => ?_)
                · refine zj_iinc (L' := [some (.inr c), some (.inl p1), some (.inl p2), some (.inl y3), some (.inl (x6 + 1)), some (.inl y141)]) (zdk ttX9_tells 73 rfl rfl) rfl (by decide) rfl ?_
                  refine zj_goto (t := 18) (zdk ttX9_tells 74 rfl rfl) (by decide) ?_
                  refine zj_kill (k := 5) (L' := [some (.inr c), some (.inl p1), some (.inl p2), some (.inl y3), some (.inl (x6 + 1)), none]) rfl ?_
                  have f166 : zfC (w_X9_tells c) h h161 := zfC_t f9 f164 (fun a9 b9 z9 => by
                    exact (by omega))
                  exact ih103  (x6 + 1) h161 (by omega) s163 f166 (by omega)
                · refine zj_aload_n (zdk ttX9_tells 55 rfl rfl) rfl (by omega) ?_
                  refine zj_getr (r := (c + 5)) (zdk ttX9_tells 56 rfl rfl) zf_RX9_21 rfl (k_9_0 s163 hc) (rf_9_0_1 s163 hc) ?_
                  refine zj_aload_n (zdk ttX9_tells 57 rfl rfl) rfl (by omega) ?_
                  refine zj_getr (r := (c + 5)) (zdk ttX9_tells 58 rfl rfl) zf_RX9_21 rfl (k_9_0 s163 hc) (rf_9_0_1 s163 hc) ?_
                  refine zj_getr (r := (c + 7)) (zdk ttX9_tells 59 rfl rfl) zf_RX9_196 rfl (k_9_5 s163 hc) (rf_9_5_1 s163 hc) ?_
                  refine zj_iload (zdk ttX9_tells 60 rfl rfl) rfl ?_
                  have b167 : 0 ≤ (h.2 (c + 7) x6) ∧ (h.2 (c + 7) x6) ≤ 400 := ab_9_5_1 s0 hc x6
                  refine zj_iald (v := (h.2 (c + 7) x6)) (zdk ttX9_tells 61 rfl rfl) (ka_9_5_1 s163 hc) (by decide) (by omega) ((zfC_a f164 (fun z9 => by unfold w_X3_run at z9; first | (revert z9; decide) | omega)).trans (zfC_a f9 (fun z9 => by unfold w_X9_tells at z9; first | (revert z9; decide) | omega))) ?_
                  refine zj_aload_n (zdk ttX9_tells 62 rfl rfl) rfl (by omega) ?_
                  refine zj_getr (r := (c + 5)) (zdk ttX9_tells 63 rfl rfl) zf_RX9_21 rfl (k_9_0 s163 hc) (rf_9_0_1 s163 hc) ?_
                  refine zj_getr (r := (c + 8)) (zdk ttX9_tells 64 rfl rfl) zf_RX9_186 rfl (k_9_5 s163 hc) (rf_9_5_2 s163 hc) ?_
                  refine zj_iload (zdk ttX9_tells 65 rfl rfl) rfl ?_
                  refine zj_iald (v := (h.2 (c + 8) x6)) (zdk ttX9_tells 66 rfl rfl) (ka_9_5_2 s163 hc) (by decide) (by omega) ((zfC_a f164 (fun z9 => by unfold w_X3_run at z9; first | (revert z9; decide) | omega)).trans (zfC_a f9 (fun z9 => by unfold w_X9_tells at z9; first | (revert z9; decide) | omega))) ?_
                  refine zj_aload_n (zdk ttX9_tells 67 rfl rfl) rfl (by omega) ?_
                  refine zj_iload_n (zdk ttX9_tells 68 rfl rfl) rfl ?_
                  refine zj_callV (av := [.inl (h.2 (c + 7) x6), .inl (h.2 (c + 8) x6), .inr c, .inl p2]) (st := []) (zdk ttX9_tells 69 rfl rfl) mb_X3_run mv_RX9_192 (ci := 3) rfl rfl (k_9_5 s163 hc) rfl rfl (Nat.le_of_ble_eq_true rfl) (s_X3_run l h161 (c + 5) (h.2 (c + 7) x6) (h.2 (c + 8) x6) c p2 s163 (zs_9_5 hc) (by omega) (by omega) hc (by omega)) (rm_ok (by decide) (by decide)) (zq_i fun v169 h170 q168 => ?_)
                  obtain ⟨b171, s172, f173⟩ := q168
                  refine zj_iload_n (zdk ttX9_tells 70 rfl rfl) rfl ?_
                  refine zj_callS (av := [.inl v169, .inl y3]) (st := []) (zdk ttX9_tells 71 rfl rfl) mb_X9_held ms_RX9_199 rfl rfl (Nat.le_of_ble_eq_true rfl) (s_X9_held l h170 v169 y3 s172 (by omega) (by omega)) (rm_ok (by decide) (by decide)) (zq_i fun v175 h176 q174 => ?_)
                  obtain ⟨rfl, b177, u178, u179⟩ := q174
                  have f181 : zfC (w_X9_tells c) h h161 := zfC_t f9 f164 (fun a9 b9 z9 => by
                    exact (by omega))
                  have f180 : zfC (w_X9_tells c) h h170 := zfC_t f181 f173 (fun a9 b9 z9 => by
                    exact (by omega))
                  exact zj_iret rfl (zdk ttX9_tells 72 rfl rfl) (Nat.le_refl _) (Nat.le_refl _) ⟨v175, rfl, by omega, s172, f180⟩
            refine zj_icmp_ne (t := 74) (zdk ttX9_tells 32 rfl rfl) (by decide) (by omega) (by omega) (fun c140 => ?_) (fun c140 => ?_)
            · refine zj_iconst (zdk ttX9_tells 35 rfl rfl) ?_
              exact j142 0 (by omega)
            · refine zj_iconst (zdk ttX9_tells 33 rfl rfl) ?_
              refine zj_goto (t := 75) (zdk ttX9_tells 34 rfl rfl) (by decide) ?_
              exact j142 1 (by omega)
          · refine zj_goto (t := 148) (zdk ttX9_tells 21 rfl rfl) (by decide) ?_
            refine zj_iinc (L' := [some (.inr c), some (.inl p1), some (.inl p2), some (.inl y3), some (.inl (x6 + 1)), none]) (zdk ttX9_tells 73 rfl rfl) rfl (by decide) rfl ?_
            refine zj_goto (t := 18) (zdk ttX9_tells 74 rfl rfl) (by decide) ?_
            exact ih103  (x6 + 1) h7 (by omega) s8 f9 (by omega)
    exact lp100 _ 0 h (by omega) s0 (zfC_r _ _) (Nat.lt_succ_self _)
  refine zj_icmp_ne (t := 11) (zdk ttX9_tells 2 rfl rfl) (by decide) (by omega) (by decide) (fun c2 => ?_) (fun c2 => ?_)
  · refine zj_sipush (zdk ttX9_tells 5 rfl rfl) (by decide) ?_
    exact j4 1000 (by omega)
  · refine zj_sipush (zdk ttX9_tells 3 rfl rfl) (by decide) ?_
    refine zj_goto (t := 14) (zdk ttX9_tells 4 rfl rfl) (by decide) ?_
    exact j4 999 (by omega)

abbrev tX9_happen : List (Nat × Instr × Nat) := [(0, .iload_n 1, 1), (1, .tableswitch 122 1 5 #[35, 53, 73, 84, 95], 35), (36, .aload_n 0, 1), (37, .getfield 12, 3), (40, .dup, 1), (41, .getfield 105, 3), (44, .iconst 1, 1), (45, .iload_n 2, 1), (46, .ishl, 1), (47, .ior, 1), (48, .putfield 105, 3), (51, .goto 80, 3), (54, .aload_n 0, 1), (55, .getfield 12, 3), (58, .dup, 1), (59, .getfield 105, 3), (62, .iconst 1, 1), (63, .iload_n 2, 1), (64, .ishl, 1), (65, .iconst (-1), 1), (66, .ixor, 1), (67, .iand, 1), (68, .putfield 105, 3), (71, .goto 60, 3), (74, .aload_n 0, 1), (75, .getfield 12, 3), (78, .iconst 1, 1), (79, .putfield 108, 3), (82, .goto 49, 3), (85, .aload_n 0, 1), (86, .getfield 12, 3), (89, .iconst 0, 1), (90, .putfield 108, 3), (93, .goto 38, 3), (96, .aload_n 0, 1), (97, .getfield 12, 3), (100, .dup, 1), (101, .getfield 111, 3), (104, .iload_n 2, 1), (105, .aload_n 0, 1), (106, .getfield 12, 3), (109, .getfield 114, 3), (112, .bipush 60, 2), (114, .idiv, 1), (115, .imul, 1), (116, .iadd, 1), (117, .putfield 111, 3), (120, .goto 11, 3), (123, .aload_n 0, 1), (124, .getfield 12, 3), (127, .iload_n 2, 1), (128, .invokevirtual 117, 3), (131, .return_, 1)]
theorem ttX9_happen : zdt cX9_happen tX9_happen = true := by decide +kernel
abbrev w_X9_happen (c a b : Int) : Prop := (a = c + 1 ∧ 5 ≤ b ∧ b ≤ 6) ∨ (a = c + 1 ∧ 9 ≤ b ∧ b ≤ 11)
abbrev q_X9_happen (h : zM) (c : Int) (p1 : Int) (p2 : Int) : Option zV → zM → Prop := zqv fun h' => okC h' ∧ zfC (w_X9_happen c) h h'
set_option maxRecDepth 100000 in
set_option maxHeartbeats 4000000 in
theorem s_X9_happen (l : Launch) (h : zM) (c : Int) (p1 : Int) (p2 : Int) (s0 : okC h) (hc : zWd c) (b_p1 : (-2147483648) ≤ p1 ∧ p1 ≤ 2147483647) (b_p2 : (-2147483648) ≤ p2 ∧ p2 ≤ 2147483647) : zT shC l yX9_happen cX9_happen 3 none (rmL 3) 0 0 [.inr c, .inl p1, .inl p2] h (q_X9_happen h c p1 p2) := by
  refine zT_of (by decide +kernel) (L0 := [some (.inr c), some (.inl p1), some (.inl p2)]) rfl (Nat.le_of_ble_eq_true rfl) ?_
  have b1 := zWd_b hc
  refine zj_iload_n (zdk ttX9_happen 0 rfl rfl) rfl ?_
  have k3 : (p1 < 1 ∨ 5 < p1) → zJ shC l yX9_happen cX9_happen 3 none (rmL 3) 0 0 (q_X9_happen h c p1 p2) 0 0 123 [some (.inr c), some (.inl p1), some (.inl p2)] [] h := by
    intro c2
    refine zj_aload_n (zdk ttX9_happen 48 rfl rfl) rfl (by omega) ?_
    refine zj_getr (r := (c + 1)) (zdk ttX9_happen 49 rfl rfl) zf_RX9_12 rfl (k_9_0 s0 hc) (rf_9_0_0 s0 hc) ?_
    refine zj_iload_n (zdk ttX9_happen 50 rfl rfl) rfl ?_
    refine zj_callV (av := [.inl p2]) (st := []) (zdk ttX9_happen 51 rfl rfl) mb_X1_moveHands mv_RX9_117 (ci := 1) rfl rfl (k_9_1 s0 hc) rfl rfl (Nat.le_of_ble_eq_true rfl) (s_X1_moveHands l h (c + 1) p2 s0 (zs_9_1 hc) (by omega)) (rm_ok (by decide) (by decide)) (zq_v fun h6 q4 => ?_)
    obtain ⟨s8, f9⟩ := q4
    have f10 : zfC (w_X9_happen c) h h6 := zfC_t (zfC_r _ _) f9 (fun a9 b9 z9 => by
      rcases z9 with z9 | z9
      · exact (Or.inl (by omega))
      · exact (Or.inr (by omega)))
    exact zj_vret rfl (zdk ttX9_happen 52 rfl rfl) (Nat.le_refl _) (Nat.le_refl _) ⟨rfl, s8, f10⟩
  have k11 : p1 = 1 → zJ shC l yX9_happen cX9_happen 3 none (rmL 3) 0 0 (q_X9_happen h c p1 p2) 0 0 36 [some (.inr c), some (.inl p1), some (.inl p2)] [] h := by
    intro c2
    refine zj_aload_n (zdk ttX9_happen 2 rfl rfl) rfl (by omega) ?_
    refine zj_getr (r := (c + 1)) (zdk ttX9_happen 3 rfl rfl) zf_RX9_12 rfl (k_9_0 s0 hc) (rf_9_0_0 s0 hc) ?_
    refine zj_dup (zdk ttX9_happen 4 rfl rfl) ?_
    have b12 : -2147483648 ≤ (h.2 (c + 1) 5) ∧ (h.2 (c + 1) 5) ≤ 2147483647 := fb_9_1_5 s0 hc
    refine zj_geti (v := (h.2 (c + 1) 5)) (zdk ttX9_happen 5 rfl rfl) zf_RX9_105 rfl (k_9_1 s0 hc) rfl ?_
    refine zj_iconst (zdk ttX9_happen 6 rfl rfl) ?_
    refine zj_iload_n (zdk ttX9_happen 7 rfl rfl) rfl ?_
    refine zj_ishl (zdk ttX9_happen 8 rfl rfl) ?_
    have b13 := zshl_in 1 p2
    refine zj_ior (zdk ttX9_happen 9 rfl rfl) ?_
    have b14 := zor_in (h.2 (c + 1) 5) (zshl 1 p2)
    refine zj_puti (zdk ttX9_happen 10 rfl rfl) zf_RX9_105 rfl (k_9_1 s0 hc) (Or.inl zw_RX9_105) (k2 := 5) rfl (fun h15 e16 => ?_)
    refine zj_goto (t := 131) (zdk ttX9_happen 11 rfl rfl) (by decide) ?_
    have s17 : okC h15 := fw_9_1_5 s0 hc e16 (by omega)
    have f18 : zfC (w_X9_happen c) h h15 := zfC_w (zfC_r _ _) e16 (Or.inl (by omega))
    exact zj_vret rfl (zdk ttX9_happen 52 rfl rfl) (Nat.le_refl _) (Nat.le_refl _) ⟨rfl, s17, f18⟩
  have k19 : p1 = 2 → zJ shC l yX9_happen cX9_happen 3 none (rmL 3) 0 0 (q_X9_happen h c p1 p2) 0 0 54 [some (.inr c), some (.inl p1), some (.inl p2)] [] h := by
    intro c2
    refine zj_aload_n (zdk ttX9_happen 12 rfl rfl) rfl (by omega) ?_
    refine zj_getr (r := (c + 1)) (zdk ttX9_happen 13 rfl rfl) zf_RX9_12 rfl (k_9_0 s0 hc) (rf_9_0_0 s0 hc) ?_
    refine zj_dup (zdk ttX9_happen 14 rfl rfl) ?_
    have b20 : -2147483648 ≤ (h.2 (c + 1) 5) ∧ (h.2 (c + 1) 5) ≤ 2147483647 := fb_9_1_5 s0 hc
    refine zj_geti (v := (h.2 (c + 1) 5)) (zdk ttX9_happen 15 rfl rfl) zf_RX9_105 rfl (k_9_1 s0 hc) rfl ?_
    refine zj_iconst (zdk ttX9_happen 16 rfl rfl) ?_
    refine zj_iload_n (zdk ttX9_happen 17 rfl rfl) rfl ?_
    refine zj_ishl (zdk ttX9_happen 18 rfl rfl) ?_
    have b21 := zshl_in 1 p2
    refine zj_iconst (zdk ttX9_happen 19 rfl rfl) ?_
    refine zj_ixor (zdk ttX9_happen 20 rfl rfl) ?_
    have b22 := zxor_in (zshl 1 p2) (-1)
    refine zj_iand (zdk ttX9_happen 21 rfl rfl) ?_
    have b23 := zand_in (h.2 (c + 1) 5) (zxor (zshl 1 p2) (-1))
    refine zj_puti (zdk ttX9_happen 22 rfl rfl) zf_RX9_105 rfl (k_9_1 s0 hc) (Or.inl zw_RX9_105) (k2 := 5) rfl (fun h24 e25 => ?_)
    refine zj_goto (t := 131) (zdk ttX9_happen 23 rfl rfl) (by decide) ?_
    have s26 : okC h24 := fw_9_1_5 s0 hc e25 (by omega)
    have f27 : zfC (w_X9_happen c) h h24 := zfC_w (zfC_r _ _) e25 (Or.inl (by omega))
    exact zj_vret rfl (zdk ttX9_happen 52 rfl rfl) (Nat.le_refl _) (Nat.le_refl _) ⟨rfl, s26, f27⟩
  have k28 : p1 = 3 → zJ shC l yX9_happen cX9_happen 3 none (rmL 3) 0 0 (q_X9_happen h c p1 p2) 0 0 74 [some (.inr c), some (.inl p1), some (.inl p2)] [] h := by
    intro c2
    refine zj_aload_n (zdk ttX9_happen 24 rfl rfl) rfl (by omega) ?_
    refine zj_getr (r := (c + 1)) (zdk ttX9_happen 25 rfl rfl) zf_RX9_12 rfl (k_9_0 s0 hc) (rf_9_0_0 s0 hc) ?_
    refine zj_iconst (zdk ttX9_happen 26 rfl rfl) ?_
    refine zj_puti (zdk ttX9_happen 27 rfl rfl) zf_RX9_108 rfl (k_9_1 s0 hc) (Or.inl zw_RX9_108) (k2 := 10) rfl (fun h29 e30 => ?_)
    refine zj_goto (t := 131) (zdk ttX9_happen 28 rfl rfl) (by decide) ?_
    have s31 : okC h29 := fw_9_1_10 s0 hc e30 (by omega)
    have f32 : zfC (w_X9_happen c) h h29 := zfC_w (zfC_r _ _) e30 (Or.inr (by omega))
    exact zj_vret rfl (zdk ttX9_happen 52 rfl rfl) (Nat.le_refl _) (Nat.le_refl _) ⟨rfl, s31, f32⟩
  have k33 : p1 = 4 → zJ shC l yX9_happen cX9_happen 3 none (rmL 3) 0 0 (q_X9_happen h c p1 p2) 0 0 85 [some (.inr c), some (.inl p1), some (.inl p2)] [] h := by
    intro c2
    refine zj_aload_n (zdk ttX9_happen 29 rfl rfl) rfl (by omega) ?_
    refine zj_getr (r := (c + 1)) (zdk ttX9_happen 30 rfl rfl) zf_RX9_12 rfl (k_9_0 s0 hc) (rf_9_0_0 s0 hc) ?_
    refine zj_iconst (zdk ttX9_happen 31 rfl rfl) ?_
    refine zj_puti (zdk ttX9_happen 32 rfl rfl) zf_RX9_108 rfl (k_9_1 s0 hc) (Or.inl zw_RX9_108) (k2 := 10) rfl (fun h34 e35 => ?_)
    refine zj_goto (t := 131) (zdk ttX9_happen 33 rfl rfl) (by decide) ?_
    have s36 : okC h34 := fw_9_1_10 s0 hc e35 (by omega)
    have f37 : zfC (w_X9_happen c) h h34 := zfC_w (zfC_r _ _) e35 (Or.inr (by omega))
    exact zj_vret rfl (zdk ttX9_happen 52 rfl rfl) (Nat.le_refl _) (Nat.le_refl _) ⟨rfl, s36, f37⟩
  have k38 : p1 = 5 → zJ shC l yX9_happen cX9_happen 3 none (rmL 3) 0 0 (q_X9_happen h c p1 p2) 0 0 96 [some (.inr c), some (.inl p1), some (.inl p2)] [] h := by
    intro c2
    refine zj_aload_n (zdk ttX9_happen 34 rfl rfl) rfl (by omega) ?_
    refine zj_getr (r := (c + 1)) (zdk ttX9_happen 35 rfl rfl) zf_RX9_12 rfl (k_9_0 s0 hc) (rf_9_0_0 s0 hc) ?_
    refine zj_dup (zdk ttX9_happen 36 rfl rfl) ?_
    have b39 : -2147483648 ≤ (h.2 (c + 1) 11) ∧ (h.2 (c + 1) 11) ≤ 2147483647 := fb_9_1_11 s0 hc
    refine zj_geti (v := (h.2 (c + 1) 11)) (zdk ttX9_happen 37 rfl rfl) zf_RX9_111 rfl (k_9_1 s0 hc) rfl ?_
    refine zj_iload_n (zdk ttX9_happen 38 rfl rfl) rfl ?_
    refine zj_aload_n (zdk ttX9_happen 39 rfl rfl) rfl (by omega) ?_
    refine zj_getr (r := (c + 1)) (zdk ttX9_happen 40 rfl rfl) zf_RX9_12 rfl (k_9_0 s0 hc) (rf_9_0_0 s0 hc) ?_
    have b40 : 0 ≤ (h.2 (c + 1) 6) ∧ (h.2 (c + 1) 6) ≤ 719 := fb_9_1_6 s0 hc
    refine zj_geti (v := (h.2 (c + 1) 6)) (zdk ttX9_happen 41 rfl rfl) zf_RX9_114 rfl (k_9_1 s0 hc) rfl ?_
    refine zj_bipush (zdk ttX9_happen 42 rfl rfl) (by decide) ?_
    refine zj_idivP (zdk ttX9_happen 43 rfl rfl) (by omega) (by omega) ?_
    refine zj_imul (zdk ttX9_happen 44 rfl rfl) ?_
    refine zj_wrap ?_
    have b41 := zwp_in (p2 * ((h.2 (c + 1) 6) / 60))
    refine zj_iadd (zdk ttX9_happen 45 rfl rfl) ?_
    refine zj_wrap ?_
    have b42 := zwp_in ((h.2 (c + 1) 11) + (zwp (p2 * ((h.2 (c + 1) 6) / 60))))
    refine zj_puti (zdk ttX9_happen 46 rfl rfl) zf_RX9_111 rfl (k_9_1 s0 hc) (Or.inl zw_RX9_111) (k2 := 11) rfl (fun h43 e44 => ?_)
    refine zj_goto (t := 131) (zdk ttX9_happen 47 rfl rfl) (by decide) ?_
    have s45 : okC h43 := fw_9_1_11 s0 hc e44 (by omega)
    have f46 : zfC (w_X9_happen c) h h43 := zfC_w (zfC_r _ _) e44 (Or.inr (by omega))
    exact zj_vret rfl (zdk ttX9_happen 52 rfl rfl) (Nat.le_refl _) (Nat.le_refl _) ⟨rfl, s45, f46⟩
  refine zj_table (t := 123) (zdk ttX9_happen 1 rfl rfl) (by omega) (by decide) k3 (fun z1 z2 => ?_)
  have z3 : p1 = 1 ∨ p1 = 2 ∨ p1 = 3 ∨ p1 = 4 ∨ p1 = 5 := by omega
  rcases z3 with z3 | z3 | z3 | z3 | z3
  · exact ⟨35, 36, by rw [z3] <;> rfl, by decide, k11 z3⟩
  · exact ⟨53, 54, by rw [z3] <;> rfl, by decide, k19 z3⟩
  · exact ⟨73, 74, by rw [z3] <;> rfl, by decide, k28 z3⟩
  · exact ⟨84, 85, by rw [z3] <;> rfl, by decide, k33 z3⟩
  · exact ⟨95, 96, by rw [z3] <;> rfl, by decide, k38 z3⟩

abbrev tX9_isWilling : List (Nat × Instr × Nat) := [(0, .aload_n 0, 1), (1, .iload_n 1, 1), (2, .iload_n 2, 1), (3, .invokevirtual 145, 3), (6, .istore 4, 2), (8, .iload_n 3, 1), (9, .ifCond .eq 17, 3), (12, .iload 4, 2), (14, .sipush 500, 3), (17, .if_icmp .lt 7, 3), (20, .iconst 1, 1), (21, .goto 4, 3), (24, .iconst 0, 1), (25, .ireturn, 1), (26, .iload 4, 2), (28, .ifCond .le 19, 3), (31, .aload_n 0, 1), (32, .getfield 12, 3), (35, .invokevirtual 149, 3), (38, .iload 4, 2), (40, .if_icmp .ge 7, 3), (43, .iconst 1, 1), (44, .goto 4, 3), (47, .iconst 0, 1), (48, .ireturn, 1)]
theorem ttX9_isWilling : zdt cX9_isWilling tX9_isWilling = true := by decide +kernel
abbrev w_X9_isWilling (c a b : Int) : Prop := (a = c + 1 ∧ b = 13) ∨ a = c + 11
abbrev q_X9_isWilling (h : zM) (c : Int) (p1 : Int) (p2 : Int) (p3 : Int) : Option zV → zM → Prop := zqi fun v h' => (0 ≤ v ∧ v ≤ 1) ∧ okC h' ∧ zfC (w_X9_isWilling c) h h'
set_option maxRecDepth 100000 in
set_option maxHeartbeats 4000000 in
theorem s_X9_isWilling (l : Launch) (h : zM) (c : Int) (p1 : Int) (p2 : Int) (p3 : Int) (s0 : okC h) (hc : zWd c) (b_p1 : (-2147483648) ≤ p1 ∧ p1 ≤ 2147483647) (b_p2 : 0 ≤ p2 ∧ p2 ≤ 17) (b_p3 : 0 ≤ p3 ∧ p3 ≤ 1) : zT shC l yX9_isWilling cX9_isWilling 5 (some .boolean) (rmL 5) 0 0 [.inr c, .inl p1, .inl p2, .inl p3] h (q_X9_isWilling h c p1 p2 p3) := by
  refine zT_of (by decide +kernel) (L0 := [some (.inr c), some (.inl p1), some (.inl p2), some (.inl p3), none]) rfl (Nat.le_of_ble_eq_true rfl) ?_
  have b1 := zWd_b hc
  refine zj_aload_n (zdk ttX9_isWilling 0 rfl rfl) rfl (by omega) ?_
  refine zj_iload_n (zdk ttX9_isWilling 1 rfl rfl) rfl ?_
  refine zj_iload_n (zdk ttX9_isWilling 2 rfl rfl) rfl ?_
  refine zj_callV (av := [.inl p1, .inl p2]) (st := []) (zdk ttX9_isWilling 3 rfl rfl) mb_X9_tells mv_RX9_145 (ci := 9) rfl rfl (k_9_0 s0 hc) rfl rfl (Nat.le_of_ble_eq_true rfl) (s_X9_tells l h c p1 p2 s0 hc (by omega) (by omega)) (rm_ok (by decide) (by decide)) (zq_i fun v3 h4 q2 => ?_)
  obtain ⟨b5, s6, f7⟩ := q2
  refine zj_istore (L' := [some (.inr c), some (.inl p1), some (.inl p2), some (.inl p3), some (.inl v3)]) (zdk ttX9_isWilling 4 rfl rfl) (by decide) rfl ?_
  refine zj_iload_n (zdk ttX9_isWilling 5 rfl rfl) rfl ?_
  refine zj_if_eq (t := 26) (zdk ttX9_isWilling 6 rfl rfl) (by decide) (by omega) (fun c8 => ?_) (fun c8 => ?_)
  · refine zj_iload (zdk ttX9_isWilling 14 rfl rfl) rfl ?_
    refine zj_if_le (t := 47) (zdk ttX9_isWilling 15 rfl rfl) (by decide) (by omega) (fun c9 => ?_) (fun c9 => ?_)
    · refine zj_iconst (zdk ttX9_isWilling 23 rfl rfl) ?_
      have f10 : zfC (w_X9_isWilling c) h h4 := zfC_t (zfC_r _ _) f7 (fun a9 b9 z9 => by
        exact (Or.inr (by omega)))
      exact zj_zret rfl (zdk ttX9_isWilling 24 rfl rfl) (Nat.le_refl _) (Nat.le_refl _) (by omega) ⟨0, rfl, by omega, s6, f10⟩
    · refine zj_aload_n (zdk ttX9_isWilling 16 rfl rfl) rfl (by omega) ?_
      refine zj_getr (r := (c + 1)) (zdk ttX9_isWilling 17 rfl rfl) zf_RX9_12 rfl (k_9_0 s6 hc) (rf_9_0_0 s6 hc) ?_
      refine zj_callV (av := []) (st := []) (zdk ttX9_isWilling 18 rfl rfl) mb_X1_drawOfThousand mv_RX9_149 (ci := 1) rfl rfl (k_9_1 s6 hc) rfl rfl (Nat.le_of_ble_eq_true rfl) (s_X1_drawOfThousand l h4 (c + 1) s6 (zs_9_1 hc)) (rm_ok (by decide) (by decide)) (zq_i fun v12 h13 q11 => ?_)
      obtain ⟨b14, s15, f16⟩ := q11
      refine zj_iload (zdk ttX9_isWilling 19 rfl rfl) rfl ?_
      refine zj_icmp_ge (t := 47) (zdk ttX9_isWilling 20 rfl rfl) (by decide) (by omega) (by omega) (fun c17 => ?_) (fun c17 => ?_)
      · refine zj_iconst (zdk ttX9_isWilling 23 rfl rfl) ?_
        have f19 : zfC (w_X9_isWilling c) h h4 := zfC_t (zfC_r _ _) f7 (fun a9 b9 z9 => by
          exact (Or.inr (by omega)))
        have f18 : zfC (w_X9_isWilling c) h h13 := zfC_t f19 f16 (fun a9 b9 z9 => by
          exact (Or.inl (by omega)))
        exact zj_zret rfl (zdk ttX9_isWilling 24 rfl rfl) (Nat.le_refl _) (Nat.le_refl _) (by omega) ⟨0, rfl, by omega, s15, f18⟩
      · refine zj_iconst (zdk ttX9_isWilling 21 rfl rfl) ?_
        refine zj_goto (t := 48) (zdk ttX9_isWilling 22 rfl rfl) (by decide) ?_
        have f21 : zfC (w_X9_isWilling c) h h4 := zfC_t (zfC_r _ _) f7 (fun a9 b9 z9 => by
          exact (Or.inr (by omega)))
        have f20 : zfC (w_X9_isWilling c) h h13 := zfC_t f21 f16 (fun a9 b9 z9 => by
          exact (Or.inl (by omega)))
        exact zj_zret rfl (zdk ttX9_isWilling 24 rfl rfl) (Nat.le_refl _) (Nat.le_refl _) (by omega) ⟨1, rfl, by omega, s15, f20⟩
  · refine zj_iload (zdk ttX9_isWilling 7 rfl rfl) rfl ?_
    refine zj_sipush (zdk ttX9_isWilling 8 rfl rfl) (by decide) ?_
    refine zj_icmp_lt (t := 24) (zdk ttX9_isWilling 9 rfl rfl) (by decide) (by omega) (by decide) (fun c22 => ?_) (fun c22 => ?_)
    · refine zj_iconst (zdk ttX9_isWilling 12 rfl rfl) ?_
      have f23 : zfC (w_X9_isWilling c) h h4 := zfC_t (zfC_r _ _) f7 (fun a9 b9 z9 => by
        exact (Or.inr (by omega)))
      exact zj_zret rfl (zdk ttX9_isWilling 13 rfl rfl) (Nat.le_refl _) (Nat.le_refl _) (by omega) ⟨0, rfl, by omega, s6, f23⟩
    · refine zj_iconst (zdk ttX9_isWilling 10 rfl rfl) ?_
      refine zj_goto (t := 25) (zdk ttX9_isWilling 11 rfl rfl) (by decide) ?_
      have f24 : zfC (w_X9_isWilling c) h h4 := zfC_t (zfC_r _ _) f7 (fun a9 b9 z9 => by
        exact (Or.inr (by omega)))
      exact zj_zret rfl (zdk ttX9_isWilling 13 rfl rfl) (Nat.le_refl _) (Nat.le_refl _) (by omega) ⟨1, rfl, by omega, s6, f24⟩

abbrev tX9_goAboard : List (Nat × Instr × Nat) := [(0, .aload_n 0, 1), (1, .getfield 12, 3), (4, .dup, 1), (5, .getfield 153, 3), (8, .iconst 1, 1), (9, .iload_n 1, 1), (10, .ishl, 1), (11, .iconst (-1), 1), (12, .ixor, 1), (13, .iand, 1), (14, .putfield 153, 3), (17, .aload_n 0, 1), (18, .getfield 12, 3), (21, .getfield 156, 3), (24, .iload_n 1, 1), (25, .dup2, 1), (26, .iaload, 1), (27, .iconst 1, 1), (28, .iadd, 1), (29, .iastore, 1), (30, .aload_n 0, 1), (31, .iconst 1, 1), (32, .iload_n 1, 1), (33, .invokevirtual 145, 3), (36, .istore_n 2, 1), (37, .aload_n 0, 1), (38, .getfield 12, 3), (41, .dup, 1), (42, .getfield 159, 3), (45, .iload_n 2, 1), (46, .iadd, 1), (47, .putfield 159, 3), (50, .aload_n 0, 1), (51, .getfield 45, 3), (54, .aload_n 0, 1), (55, .getfield 12, 3), (58, .getfield 83, 3), (61, .iconst 0, 1), (62, .iload_n 1, 1), (63, .iload_n 2, 1), (64, .invokevirtual 162, 3), (67, .return_, 1)]
theorem ttX9_goAboard : zdt cX9_goAboard tX9_goAboard = true := by decide +kernel
abbrev w_X9_goAboard (c a b : Int) : Prop := (a = c + 1 ∧ b = 4) ∨ (a = c + 1 ∧ b = 7) ∨ a = c + 4 ∨ a = c + 11 ∨ (a = c + 22 ∧ b = 4) ∨ (c + 23 ≤ a ∧ a ≤ c + 26)
abbrev q_X9_goAboard (h : zM) (c : Int) (p1 : Int) : Option zV → zM → Prop := zqv fun h' => okC h' ∧ zfC (w_X9_goAboard c) h h'
set_option maxRecDepth 100000 in
set_option maxHeartbeats 4000000 in
theorem s_X9_goAboard (l : Launch) (h : zM) (c : Int) (p1 : Int) (s0 : okC h) (hc : zWd c) (b_p1 : 0 ≤ p1 ∧ p1 ≤ 17) : zT shC l yX9_goAboard cX9_goAboard 3 none (rmL 5) 0 0 [.inr c, .inl p1] h (q_X9_goAboard h c p1) := by
  refine zT_of (by decide +kernel) (L0 := [some (.inr c), some (.inl p1), none]) rfl (Nat.le_of_ble_eq_true rfl) ?_
  have b1 := zWd_b hc
  refine zj_aload_n (zdk ttX9_goAboard 0 rfl rfl) rfl (by omega) ?_
  refine zj_getr (r := (c + 1)) (zdk ttX9_goAboard 1 rfl rfl) zf_RX9_12 rfl (k_9_0 s0 hc) (rf_9_0_0 s0 hc) ?_
  refine zj_dup (zdk ttX9_goAboard 2 rfl rfl) ?_
  have b2 : -2147483648 ≤ (h.2 (c + 1) 4) ∧ (h.2 (c + 1) 4) ≤ 2147483647 := fb_9_1_4 s0 hc
  refine zj_geti (v := (h.2 (c + 1) 4)) (zdk ttX9_goAboard 3 rfl rfl) zf_RX9_153 rfl (k_9_1 s0 hc) rfl ?_
  refine zj_iconst (zdk ttX9_goAboard 4 rfl rfl) ?_
  refine zj_iload_n (zdk ttX9_goAboard 5 rfl rfl) rfl ?_
  refine zj_ishl (zdk ttX9_goAboard 6 rfl rfl) ?_
  have b3 := zshl_1 (n := p1) (a := 0) (b := 17) (lo := 1) (hi := 131072) (by omega) (by decide) (by decide) (by decide)
  refine zj_iconst (zdk ttX9_goAboard 7 rfl rfl) ?_
  refine zj_ixor (zdk ttX9_goAboard 8 rfl rfl) ?_
  have b4 := zxor_in (zshl 1 p1) (-1)
  refine zj_iand (zdk ttX9_goAboard 9 rfl rfl) ?_
  have b5 := zand_in (h.2 (c + 1) 4) (zxor (zshl 1 p1) (-1))
  refine zj_puti (zdk ttX9_goAboard 10 rfl rfl) zf_RX9_153 rfl (k_9_1 s0 hc) (Or.inl zw_RX9_153) (k2 := 4) rfl (fun h6 e7 => ?_)
  refine zj_aload_n (zdk ttX9_goAboard 11 rfl rfl) rfl (by omega) ?_
  have s8 : okC h6 := fw_9_1_4 s0 hc e7 (by omega)
  refine zj_getr (r := (c + 1)) (zdk ttX9_goAboard 12 rfl rfl) zf_RX9_12 rfl (k_9_0 s8 hc) (rf_9_0_0 s8 hc) ?_
  refine zj_getr (r := (c + 4)) (zdk ttX9_goAboard 13 rfl rfl) zf_RX9_156 rfl (k_9_1 s8 hc) (rf_9_1_2 s8 hc) ?_
  refine zj_iload_n (zdk ttX9_goAboard 14 rfl rfl) rfl ?_
  refine zj_dup2 (zdk ttX9_goAboard 15 rfl rfl) ?_
  have b9 : -2147483648 ≤ (h.2 (c + 4) p1) ∧ (h.2 (c + 4) p1) ≤ 2147483647 := ab_9_1_2 s0 hc p1
  refine zj_iald (v := (h.2 (c + 4) p1)) (zdk ttX9_goAboard 16 rfl rfl) (ka_9_1_2 s8 hc) (by decide) (by omega) (zwr_r e7 (by first | decide | exact (absurd ·.1 (by decide)) | exact (absurd ·.2 (by decide)) | omega)) ?_
  refine zj_iconst (zdk ttX9_goAboard 17 rfl rfl) ?_
  refine zj_iadd (zdk ttX9_goAboard 18 rfl rfl) ?_
  refine zj_wrap ?_
  have b10 := zwp_in ((h.2 (c + 4) p1) + 1)
  refine zj_iast (zdk ttX9_goAboard 19 rfl rfl) (ka_9_1_2 s8 hc) (by decide) (by omega) (fun h11 e12 => ?_)
  refine zj_aload_n (zdk ttX9_goAboard 20 rfl rfl) rfl (by omega) ?_
  refine zj_iconst (zdk ttX9_goAboard 21 rfl rfl) ?_
  refine zj_iload_n (zdk ttX9_goAboard 22 rfl rfl) rfl ?_
  have s13 : okC h11 := aw_9_1_2 s8 hc e12 (by omega)
  refine zj_callV (av := [.inl 1, .inl p1]) (st := []) (zdk ttX9_goAboard 23 rfl rfl) mb_X9_tells mv_RX9_145 (ci := 9) rfl rfl (k_9_0 s13 hc) rfl rfl (Nat.le_of_ble_eq_true rfl) (s_X9_tells l h11 c 1 p1 s13 hc (by omega) (by omega)) (rm_ok (by decide) (by decide)) (zq_i fun v15 h16 q14 => ?_)
  obtain ⟨b17, s18, f19⟩ := q14
  refine zj_istore_n (L' := [some (.inr c), some (.inl p1), some (.inl v15)]) (zdk ttX9_goAboard 24 rfl rfl) (by decide) rfl ?_
  refine zj_aload_n (zdk ttX9_goAboard 25 rfl rfl) rfl (by omega) ?_
  refine zj_getr (r := (c + 1)) (zdk ttX9_goAboard 26 rfl rfl) zf_RX9_12 rfl (k_9_0 s18 hc) (rf_9_0_0 s18 hc) ?_
  refine zj_dup (zdk ttX9_goAboard 27 rfl rfl) ?_
  have b20 : -2147483648 ≤ (h.2 (c + 1) 7) ∧ (h.2 (c + 1) 7) ≤ 2147483647 := fb_9_1_7 s0 hc
  refine zj_geti (v := (h.2 (c + 1) 7)) (zdk ttX9_goAboard 28 rfl rfl) zf_RX9_159 rfl (k_9_1 s18 hc) (((zfC_a f19 (fun z9 => by unfold w_X9_tells at z9; first | (revert z9; decide) | omega)).trans (zwr_r e12 (by first | decide | exact (absurd ·.1 (by decide)) | exact (absurd ·.2 (by decide)) | omega))).trans (zwr_r e7 (by first | decide | exact (absurd ·.1 (by decide)) | exact (absurd ·.2 (by decide)) | omega))) ?_
  refine zj_iload_n (zdk ttX9_goAboard 29 rfl rfl) rfl ?_
  refine zj_iadd (zdk ttX9_goAboard 30 rfl rfl) ?_
  refine zj_wrap ?_
  have b21 := zwp_in ((h.2 (c + 1) 7) + v15)
  refine zj_puti (zdk ttX9_goAboard 31 rfl rfl) zf_RX9_159 rfl (k_9_1 s18 hc) (Or.inl zw_RX9_159) (k2 := 7) rfl (fun h22 e23 => ?_)
  refine zj_aload_n (zdk ttX9_goAboard 32 rfl rfl) rfl (by omega) ?_
  have s24 : okC h22 := fw_9_1_7 s18 hc e23 (by omega)
  refine zj_getr (r := (c + 22)) (zdk ttX9_goAboard 33 rfl rfl) zf_RX9_45 rfl (k_9_0 s24 hc) (rf_9_0_5 s24 hc) ?_
  refine zj_aload_n (zdk ttX9_goAboard 34 rfl rfl) rfl (by omega) ?_
  refine zj_getr (r := (c + 1)) (zdk ttX9_goAboard 35 rfl rfl) zf_RX9_12 rfl (k_9_0 s24 hc) (rf_9_0_0 s24 hc) ?_
  have b25 : -2147483648 ≤ (h.2 (c + 1) 12) ∧ (h.2 (c + 1) 12) ≤ 2147483647 := fb_9_1_12 s0 hc
  refine zj_geti (v := (h.2 (c + 1) 12)) (zdk ttX9_goAboard 36 rfl rfl) zf_RX9_83 rfl (k_9_1 s24 hc) ((((zwr_r e23 (by first | decide | exact (absurd ·.1 (by decide)) | exact (absurd ·.2 (by decide)) | omega)).trans (zfC_a f19 (fun z9 => by unfold w_X9_tells at z9; first | (revert z9; decide) | omega))).trans (zwr_r e12 (by first | decide | exact (absurd ·.1 (by decide)) | exact (absurd ·.2 (by decide)) | omega))).trans (zwr_r e7 (by first | decide | exact (absurd ·.1 (by decide)) | exact (absurd ·.2 (by decide)) | omega))) ?_
  refine zj_iconst (zdk ttX9_goAboard 37 rfl rfl) ?_
  refine zj_iload_n (zdk ttX9_goAboard 38 rfl rfl) rfl ?_
  refine zj_iload_n (zdk ttX9_goAboard 39 rfl rfl) rfl ?_
  refine zj_callV (av := [.inl (h.2 (c + 1) 12), .inl 0, .inl p1, .inl v15]) (st := []) (zdk ttX9_goAboard 40 rfl rfl) mb_X0_write mv_RX9_162 (ci := 0) rfl rfl (k_9_22 s24 hc) rfl rfl (Nat.le_of_ble_eq_true rfl) (s_X0_write l h22 (c + 22) (h.2 (c + 1) 12) 0 p1 v15 s24 (zs_9_22 hc) (by omega) (by omega) (by omega) (by omega)) (rm_ok (by decide) (by decide)) (zq_v fun h28 q26 => ?_)
  obtain ⟨s30, f31⟩ := q26
  have f36 : zfC (w_X9_goAboard c) h h6 := zfC_w (zfC_r _ _) e7 (Or.inl (by omega))
  have f35 : zfC (w_X9_goAboard c) h h11 := zfC_w f36 e12 (Or.inr (Or.inr (Or.inl (by omega))))
  have f34 : zfC (w_X9_goAboard c) h h16 := zfC_t f35 f19 (fun a9 b9 z9 => by
    exact (Or.inr (Or.inr (Or.inr (Or.inl (by omega))))))
  have f33 : zfC (w_X9_goAboard c) h h22 := zfC_w f34 e23 (Or.inr (Or.inl (by omega)))
  have f32 : zfC (w_X9_goAboard c) h h28 := zfC_t f33 f31 (fun a9 b9 z9 => by
    rcases z9 with z9 | z9
    · exact (Or.inr (Or.inr (Or.inr (Or.inr (Or.inl (by omega))))))
    · exact (Or.inr (Or.inr (Or.inr (Or.inr (Or.inr (by omega)))))))
  exact zj_vret rfl (zdk ttX9_goAboard 41 rfl rfl) (Nat.le_refl _) (Nat.le_refl _) ⟨rfl, s30, f32⟩

abbrev tX9_comeBack : List (Nat × Instr × Nat) := [(0, .aload_n 0, 1), (1, .getfield 12, 3), (4, .dup, 1), (5, .getfield 153, 3), (8, .iconst 1, 1), (9, .iload_n 1, 1), (10, .ishl, 1), (11, .ior, 1), (12, .putfield 153, 3), (15, .aload_n 0, 1), (16, .iconst 1, 1), (17, .iload_n 1, 1), (18, .invokevirtual 145, 3), (21, .istore_n 2, 1), (22, .aload_n 0, 1), (23, .getfield 12, 3), (26, .dup, 1), (27, .getfield 159, 3), (30, .iload_n 2, 1), (31, .isub, 1), (32, .putfield 159, 3), (35, .aload_n 0, 1), (36, .getfield 45, 3), (39, .aload_n 0, 1), (40, .getfield 12, 3), (43, .getfield 83, 3), (46, .iconst 1, 1), (47, .iload_n 1, 1), (48, .iload_n 2, 1), (49, .invokevirtual 162, 3), (52, .return_, 1)]
theorem ttX9_comeBack : zdt cX9_comeBack tX9_comeBack = true := by decide +kernel
abbrev w_X9_comeBack (c a b : Int) : Prop := (a = c + 1 ∧ b = 4) ∨ (a = c + 1 ∧ b = 7) ∨ a = c + 11 ∨ (a = c + 22 ∧ b = 4) ∨ (c + 23 ≤ a ∧ a ≤ c + 26)
abbrev q_X9_comeBack (h : zM) (c : Int) (p1 : Int) : Option zV → zM → Prop := zqv fun h' => okC h' ∧ zfC (w_X9_comeBack c) h h'
set_option maxRecDepth 100000 in
set_option maxHeartbeats 4000000 in
theorem s_X9_comeBack (l : Launch) (h : zM) (c : Int) (p1 : Int) (s0 : okC h) (hc : zWd c) (b_p1 : 0 ≤ p1 ∧ p1 ≤ 17) : zT shC l yX9_comeBack cX9_comeBack 3 none (rmL 5) 0 0 [.inr c, .inl p1] h (q_X9_comeBack h c p1) := by
  refine zT_of (by decide +kernel) (L0 := [some (.inr c), some (.inl p1), none]) rfl (Nat.le_of_ble_eq_true rfl) ?_
  have b1 := zWd_b hc
  refine zj_aload_n (zdk ttX9_comeBack 0 rfl rfl) rfl (by omega) ?_
  refine zj_getr (r := (c + 1)) (zdk ttX9_comeBack 1 rfl rfl) zf_RX9_12 rfl (k_9_0 s0 hc) (rf_9_0_0 s0 hc) ?_
  refine zj_dup (zdk ttX9_comeBack 2 rfl rfl) ?_
  have b2 : -2147483648 ≤ (h.2 (c + 1) 4) ∧ (h.2 (c + 1) 4) ≤ 2147483647 := fb_9_1_4 s0 hc
  refine zj_geti (v := (h.2 (c + 1) 4)) (zdk ttX9_comeBack 3 rfl rfl) zf_RX9_153 rfl (k_9_1 s0 hc) rfl ?_
  refine zj_iconst (zdk ttX9_comeBack 4 rfl rfl) ?_
  refine zj_iload_n (zdk ttX9_comeBack 5 rfl rfl) rfl ?_
  refine zj_ishl (zdk ttX9_comeBack 6 rfl rfl) ?_
  have b3 := zshl_1 (n := p1) (a := 0) (b := 17) (lo := 1) (hi := 131072) (by omega) (by decide) (by decide) (by decide)
  refine zj_ior (zdk ttX9_comeBack 7 rfl rfl) ?_
  have b4 := zor_in (h.2 (c + 1) 4) (zshl 1 p1)
  refine zj_puti (zdk ttX9_comeBack 8 rfl rfl) zf_RX9_153 rfl (k_9_1 s0 hc) (Or.inl zw_RX9_153) (k2 := 4) rfl (fun h5 e6 => ?_)
  refine zj_aload_n (zdk ttX9_comeBack 9 rfl rfl) rfl (by omega) ?_
  refine zj_iconst (zdk ttX9_comeBack 10 rfl rfl) ?_
  refine zj_iload_n (zdk ttX9_comeBack 11 rfl rfl) rfl ?_
  have s7 : okC h5 := fw_9_1_4 s0 hc e6 (by omega)
  refine zj_callV (av := [.inl 1, .inl p1]) (st := []) (zdk ttX9_comeBack 12 rfl rfl) mb_X9_tells mv_RX9_145 (ci := 9) rfl rfl (k_9_0 s7 hc) rfl rfl (Nat.le_of_ble_eq_true rfl) (s_X9_tells l h5 c 1 p1 s7 hc (by omega) (by omega)) (rm_ok (by decide) (by decide)) (zq_i fun v9 h10 q8 => ?_)
  obtain ⟨b11, s12, f13⟩ := q8
  refine zj_istore_n (L' := [some (.inr c), some (.inl p1), some (.inl v9)]) (zdk ttX9_comeBack 13 rfl rfl) (by decide) rfl ?_
  refine zj_aload_n (zdk ttX9_comeBack 14 rfl rfl) rfl (by omega) ?_
  refine zj_getr (r := (c + 1)) (zdk ttX9_comeBack 15 rfl rfl) zf_RX9_12 rfl (k_9_0 s12 hc) (rf_9_0_0 s12 hc) ?_
  refine zj_dup (zdk ttX9_comeBack 16 rfl rfl) ?_
  have b14 : -2147483648 ≤ (h.2 (c + 1) 7) ∧ (h.2 (c + 1) 7) ≤ 2147483647 := fb_9_1_7 s0 hc
  refine zj_geti (v := (h.2 (c + 1) 7)) (zdk ttX9_comeBack 17 rfl rfl) zf_RX9_159 rfl (k_9_1 s12 hc) ((zfC_a f13 (fun z9 => by unfold w_X9_tells at z9; first | (revert z9; decide) | omega)).trans (zwr_r e6 (by first | decide | exact (absurd ·.1 (by decide)) | exact (absurd ·.2 (by decide)) | omega))) ?_
  refine zj_iload_n (zdk ttX9_comeBack 18 rfl rfl) rfl ?_
  refine zj_isub (zdk ttX9_comeBack 19 rfl rfl) ?_
  refine zj_wrap ?_
  have b15 := zwp_in ((h.2 (c + 1) 7) - v9)
  refine zj_puti (zdk ttX9_comeBack 20 rfl rfl) zf_RX9_159 rfl (k_9_1 s12 hc) (Or.inl zw_RX9_159) (k2 := 7) rfl (fun h16 e17 => ?_)
  refine zj_aload_n (zdk ttX9_comeBack 21 rfl rfl) rfl (by omega) ?_
  have s18 : okC h16 := fw_9_1_7 s12 hc e17 (by omega)
  refine zj_getr (r := (c + 22)) (zdk ttX9_comeBack 22 rfl rfl) zf_RX9_45 rfl (k_9_0 s18 hc) (rf_9_0_5 s18 hc) ?_
  refine zj_aload_n (zdk ttX9_comeBack 23 rfl rfl) rfl (by omega) ?_
  refine zj_getr (r := (c + 1)) (zdk ttX9_comeBack 24 rfl rfl) zf_RX9_12 rfl (k_9_0 s18 hc) (rf_9_0_0 s18 hc) ?_
  have b19 : -2147483648 ≤ (h.2 (c + 1) 12) ∧ (h.2 (c + 1) 12) ≤ 2147483647 := fb_9_1_12 s0 hc
  refine zj_geti (v := (h.2 (c + 1) 12)) (zdk ttX9_comeBack 25 rfl rfl) zf_RX9_83 rfl (k_9_1 s18 hc) (((zwr_r e17 (by first | decide | exact (absurd ·.1 (by decide)) | exact (absurd ·.2 (by decide)) | omega)).trans (zfC_a f13 (fun z9 => by unfold w_X9_tells at z9; first | (revert z9; decide) | omega))).trans (zwr_r e6 (by first | decide | exact (absurd ·.1 (by decide)) | exact (absurd ·.2 (by decide)) | omega))) ?_
  refine zj_iconst (zdk ttX9_comeBack 26 rfl rfl) ?_
  refine zj_iload_n (zdk ttX9_comeBack 27 rfl rfl) rfl ?_
  refine zj_iload_n (zdk ttX9_comeBack 28 rfl rfl) rfl ?_
  refine zj_callV (av := [.inl (h.2 (c + 1) 12), .inl 1, .inl p1, .inl v9]) (st := []) (zdk ttX9_comeBack 29 rfl rfl) mb_X0_write mv_RX9_162 (ci := 0) rfl rfl (k_9_22 s18 hc) rfl rfl (Nat.le_of_ble_eq_true rfl) (s_X0_write l h16 (c + 22) (h.2 (c + 1) 12) 1 p1 v9 s18 (zs_9_22 hc) (by omega) (by omega) (by omega) (by omega)) (rm_ok (by decide) (by decide)) (zq_v fun h22 q20 => ?_)
  obtain ⟨s24, f25⟩ := q20
  have f29 : zfC (w_X9_comeBack c) h h5 := zfC_w (zfC_r _ _) e6 (Or.inl (by omega))
  have f28 : zfC (w_X9_comeBack c) h h10 := zfC_t f29 f13 (fun a9 b9 z9 => by
    exact (Or.inr (Or.inr (Or.inl (by omega)))))
  have f27 : zfC (w_X9_comeBack c) h h16 := zfC_w f28 e17 (Or.inr (Or.inl (by omega)))
  have f26 : zfC (w_X9_comeBack c) h h22 := zfC_t f27 f25 (fun a9 b9 z9 => by
    rcases z9 with z9 | z9
    · exact (Or.inr (Or.inr (Or.inr (Or.inl (by omega)))))
    · exact (Or.inr (Or.inr (Or.inr (Or.inr (by omega))))))
  exact zj_vret rfl (zdk ttX9_comeBack 30 rfl rfl) (Nat.le_refl _) (Nat.le_refl _) ⟨rfl, s24, f26⟩

abbrev tX9_sailOut : List (Nat × Instr × Nat) := [(0, .iload_n 1, 1), (1, .istore_n 3, 1), (2, .iconst 0, 1), (3, .istore 4, 2), (5, .iload 4, 2), (7, .aload_n 0, 1), (8, .getfield 12, 3), (11, .getfield 121, 3), (14, .if_icmp .ge 120, 3), (17, .iload_n 3, 1), (18, .ifCond .le 116, 3), (21, .aload_n 0, 1), (22, .getfield 12, 3), (25, .iload 4, 2), (27, .invokevirtual 124, 3), (30, .ifCond .eq 98, 3), (33, .aload_n 0, 1), (34, .getfield 12, 3), (37, .iload 4, 2), (39, .invokevirtual 128, 3), (42, .ifCond .ne 86, 3), (45, .aload_n 0, 1), (46, .iconst 0, 1), (47, .iload 4, 2), (49, .iload_n 2, 1), (50, .invokevirtual 131, 3), (53, .ifCond .ne 6, 3), (56, .goto 72, 3), (59, .aload_n 0, 1), (60, .iload 4, 2), (62, .invokevirtual 135, 3), (65, .iinc 3 (-1), 3), (68, .iconst 0, 1), (69, .istore 5, 2), (71, .iload 5, 2), (73, .aload_n 0, 1), (74, .getfield 12, 3), (77, .getfield 121, 3), (80, .if_icmp .ge 48, 3), (83, .iload_n 3, 1), (84, .ifCond .le 44, 3), (87, .aload_n 0, 1), (88, .getfield 38, 3), (91, .iload 4, 2), (93, .iload 5, 2), (95, .invokevirtual 138, 3), (98, .ifCond .eq 24, 3), (101, .aload_n 0, 1), (102, .getfield 12, 3), (105, .iload 5, 2), (107, .invokevirtual 124, 3), (110, .ifCond .eq 12, 3), (113, .aload_n 0, 1), (114, .iload 5, 2), (116, .invokevirtual 135, 3), (119, .iinc 3 (-1), 3), (122, .iinc 5 1, 3), (125, .goto (-54), 3), (128, .iinc 4 1, 3), (131, .goto (-126), 3), (134, .return_, 1)]
theorem ttX9_sailOut : zdt cX9_sailOut tX9_sailOut = true := by decide +kernel
abbrev w_X9_sailOut (c a b : Int) : Prop := (a = c + 1 ∧ b = 4) ∨ (a = c + 1 ∧ b = 7) ∨ (a = c + 1 ∧ b = 13) ∨ a = c + 4 ∨ a = c + 11 ∨ (a = c + 22 ∧ b = 4) ∨ (c + 23 ≤ a ∧ a ≤ c + 26)
abbrev q_X9_sailOut (h : zM) (c : Int) (p1 : Int) (p2 : Int) : Option zV → zM → Prop := zqv fun h' => okC h' ∧ zfC (w_X9_sailOut c) h h'
set_option maxRecDepth 100000 in
set_option maxHeartbeats 4000000 in
theorem s_X9_sailOut (l : Launch) (h : zM) (c : Int) (p1 : Int) (p2 : Int) (s0 : okC h) (hc : zWd c) (b_p1 : (-2147483648) ≤ p1 ∧ p1 ≤ 2147483647) (b_p2 : 0 ≤ p2 ∧ p2 ≤ 1) : zT shC l yX9_sailOut cX9_sailOut 6 none (rmL 6) 0 0 [.inr c, .inl p1, .inl p2] h (q_X9_sailOut h c p1 p2) := by
  refine zT_of (by decide +kernel) (L0 := [some (.inr c), some (.inl p1), some (.inl p2), none, none, none]) rfl (Nat.le_of_ble_eq_true rfl) ?_
  have b1 := zWd_b hc
  refine zj_iload_n (zdk ttX9_sailOut 0 rfl rfl) rfl ?_
  refine zj_istore_n (L' := [some (.inr c), some (.inl p1), some (.inl p2), some (.inl p1), none, none]) (zdk ttX9_sailOut 1 rfl rfl) (by decide) rfl ?_
  refine zj_iconst (zdk ttX9_sailOut 2 rfl rfl) ?_
  refine zj_istore (L' := [some (.inr c), some (.inl p1), some (.inl p2), some (.inl p1), some (.inl 0), none]) (zdk ttX9_sailOut 3 rfl rfl) (by decide) rfl ?_
  have lp1141 : ∀ (n : Nat) (x2 x3 : Int) (h4 : zM), (-2147483648 ≤ x2 ∧ x2 ≤ 2147483647) → (0 ≤ x3 ∧ x3 ≤ 18) → okC h4 → zfC (w_X9_sailOut c) h h4 → (19 - x3).toNat < n → zJ shC l yX9_sailOut cX9_sailOut 6 none (rmL 6) 0 0 (q_X9_sailOut h c p1 p2) 0 0 5 [some (.inr c), some (.inl p1), some (.inl p2), some (.inl x2), some (.inl x3), none] [] h4 := by
    intro n
    induction n with
    | zero => intro x2 x3 h4 b1142 b1143 s5 f6 m1144; exact absurd m1144 (Nat.not_lt_zero _)
    | succ n ih1145 =>
      intro x2 x3 h4 b1142 b1143 s5 f6 m1144
      refine zj_iload (zdk ttX9_sailOut 4 rfl rfl) rfl ?_
      refine zj_aload_n (zdk ttX9_sailOut 5 rfl rfl) rfl (by omega) ?_
      refine zj_getr (r := (c + 1)) (zdk ttX9_sailOut 6 rfl rfl) zf_RX9_12 rfl (k_9_0 s5 hc) (rf_9_0_0 s5 hc) ?_
      have b1146 : 0 ≤ (h.2 (c + 1) 3) ∧ (h.2 (c + 1) 3) ≤ 18 := fb_9_1_3 s0 hc
      refine zj_geti (v := (h.2 (c + 1) 3)) (zdk ttX9_sailOut 7 rfl rfl) zf_RX9_121 rfl (k_9_1 s5 hc) (zfC_a f6 (fun z9 => by unfold w_X9_sailOut at z9; first | (revert z9; decide) | omega)) ?_
      refine zj_icmp_ge (t := 134) (zdk ttX9_sailOut 8 rfl rfl) (by decide) (by omega) (by omega) (fun c1147 => ?_) (fun c1147 => ?_)
      · exact zj_vret rfl (zdk ttX9_sailOut 60 rfl rfl) (Nat.le_refl _) (Nat.le_refl _) ⟨rfl, s5, f6⟩
      · refine zj_iload_n (zdk ttX9_sailOut 9 rfl rfl) rfl ?_
        refine zj_if_le (t := 134) (zdk ttX9_sailOut 10 rfl rfl) (by decide) (by omega) (fun c1148 => ?_) (fun c1148 => ?_)
        · exact zj_vret rfl (zdk ttX9_sailOut 60 rfl rfl) (Nat.le_refl _) (Nat.le_refl _) ⟨rfl, s5, f6⟩
        · refine zj_aload_n (zdk ttX9_sailOut 11 rfl rfl) rfl (by omega) ?_
          refine zj_getr (r := (c + 1)) (zdk ttX9_sailOut 12 rfl rfl) zf_RX9_12 rfl (k_9_0 s5 hc) (rf_9_0_0 s5 hc) ?_
          refine zj_iload (zdk ttX9_sailOut 13 rfl rfl) rfl ?_
          refine zj_callV (av := [.inl x3]) (st := []) (zdk ttX9_sailOut 14 rfl rfl) mb_X1_isHere mv_RX9_124 (ci := 1) rfl rfl (k_9_1 s5 hc) rfl rfl (Nat.le_of_ble_eq_true rfl) (s_X1_isHere l h4 (c + 1) x3 s5 (zs_9_1 hc) (by omega)) (rm_ok (by decide) (by decide)) (zq_i fun v1150 h1151 q1149 => ?_)
          obtain ⟨rfl, b1153, ⟨rfl, b1152⟩ | ⟨rfl, b1152⟩⟩ := q1149
          · refine zj_if_eq (t := 128) (zdk ttX9_sailOut 15 rfl rfl) (by decide) (by decide) (fun c1154 => ?_) (fun c1154 => ?_)
            · refine zj_iinc (L' := [some (.inr c), some (.inl p1), some (.inl p2), some (.inl x2), some (.inl (x3 + 1)), none]) (zdk ttX9_sailOut 58 rfl rfl) rfl (by decide) rfl ?_
              refine zj_goto (t := 5) (zdk ttX9_sailOut 59 rfl rfl) (by decide) ?_
              exact ih1145  x2 (x3 + 1) h4 (by omega) (by omega) s5 f6 (by omega)
            · exact absurd c1154 (by omega)
          · refine zj_if_eq (t := 128) (zdk ttX9_sailOut 15 rfl rfl) (by decide) (by decide) (fun c1155 => ?_) (fun c1155 => ?_)
            · exact absurd c1155 (by omega)
            · refine zj_aload_n (zdk ttX9_sailOut 16 rfl rfl) rfl (by omega) ?_
              refine zj_getr (r := (c + 1)) (zdk ttX9_sailOut 17 rfl rfl) zf_RX9_12 rfl (k_9_0 s5 hc) (rf_9_0_0 s5 hc) ?_
              refine zj_iload (zdk ttX9_sailOut 18 rfl rfl) rfl ?_
              refine zj_callV (av := [.inl x3]) (st := []) (zdk ttX9_sailOut 19 rfl rfl) mb_X1_isBegged mv_RX9_128 (ci := 1) rfl rfl (k_9_1 s5 hc) rfl rfl (Nat.le_of_ble_eq_true rfl) (s_X1_isBegged l h4 (c + 1) x3 s5 (zs_9_1 hc) (by omega)) (rm_ok (by decide) (by decide)) (zq_i fun v1157 h1158 q1156 => ?_)
              obtain ⟨rfl, b1160, ⟨rfl, b1159⟩ | ⟨rfl, b1159⟩⟩ := q1156
              · refine zj_if_ne (t := 128) (zdk ttX9_sailOut 20 rfl rfl) (by decide) (by decide) (fun c1161 => ?_) (fun c1161 => ?_)
                · exact absurd c1161 (by omega)
                · refine zj_aload_n (zdk ttX9_sailOut 21 rfl rfl) rfl (by omega) ?_
                  refine zj_iconst (zdk ttX9_sailOut 22 rfl rfl) ?_
                  refine zj_iload (zdk ttX9_sailOut 23 rfl rfl) rfl ?_
                  refine zj_iload_n (zdk ttX9_sailOut 24 rfl rfl) rfl ?_
                  refine zj_callV (av := [.inl 0, .inl x3, .inl p2]) (st := []) (zdk ttX9_sailOut 25 rfl rfl) mb_X9_isWilling mv_RX9_131 (ci := 9) rfl rfl (k_9_0 s5 hc) rfl rfl (Nat.le_of_ble_eq_true rfl) (s_X9_isWilling l h4 c 0 x3 p2 s5 hc (by omega) (by omega) (by omega)) (rm_ok (by decide) (by decide)) (zq_i fun v1163 h1164 q1162 => ?_)
                  obtain ⟨b1165, s1166, f1167⟩ := q1162
                  refine zj_if_ne (t := 59) (zdk ttX9_sailOut 26 rfl rfl) (by decide) (by omega) (fun c1168 => ?_) (fun c1168 => ?_)
                  · refine zj_aload_n (zdk ttX9_sailOut 28 rfl rfl) rfl (by omega) ?_
                    refine zj_iload (zdk ttX9_sailOut 29 rfl rfl) rfl ?_
                    refine zj_callV (av := [.inl x3]) (st := []) (zdk ttX9_sailOut 30 rfl rfl) mb_X9_goAboard mv_RX9_135 (ci := 9) rfl rfl (k_9_0 s1166 hc) rfl rfl (Nat.le_of_ble_eq_true rfl) (s_X9_goAboard l h1164 c x3 s1166 hc (by omega)) (rm_ok (by decide) (by decide)) (zq_v fun h1171 q1169 => ?_)
                    obtain ⟨s1173, f1174⟩ := q1169
                    refine zj_iinc (L' := [some (.inr c), some (.inl p1), some (.inl p2), some (.inl (x2 + (-1))), some (.inl x3), none]) (zdk ttX9_sailOut 31 rfl rfl) rfl (by decide) rfl ?_
                    refine zj_iconst (zdk ttX9_sailOut 32 rfl rfl) ?_
                    refine zj_istore (L' := [some (.inr c), some (.inl p1), some (.inl p2), some (.inl (x2 + (-1))), some (.inl x3), some (.inl 0)]) (zdk ttX9_sailOut 33 rfl rfl) (by decide) rfl ?_
                    have lp1306 : ∀ (n : Nat) (x1175 x1176 : Int) (h1177 : zM), (0 ≤ x1175 ∧ x1175 ≤ 2147483646) → (0 ≤ x1176 ∧ x1176 ≤ 18) → okC h1177 → zfC (w_X9_sailOut c) h h1177 → (19 - x1176).toNat < n → zJ shC l yX9_sailOut cX9_sailOut 6 none (rmL 6) 0 0 (q_X9_sailOut h c p1 p2) 0 0 71 [some (.inr c), some (.inl p1), some (.inl p2), some (.inl x1175), some (.inl x3), some (.inl x1176)] [] h1177 := by
                      intro n
                      induction n with
                      | zero => intro x1175 x1176 h1177 b1307 b1308 s1178 f1179 m1309; exact absurd m1309 (Nat.not_lt_zero _)
                      | succ n ih1310 =>
                        intro x1175 x1176 h1177 b1307 b1308 s1178 f1179 m1309
                        refine zj_iload (zdk ttX9_sailOut 34 rfl rfl) rfl ?_
                        refine zj_aload_n (zdk ttX9_sailOut 35 rfl rfl) rfl (by omega) ?_
                        refine zj_getr (r := (c + 1)) (zdk ttX9_sailOut 36 rfl rfl) zf_RX9_12 rfl (k_9_0 s1178 hc) (rf_9_0_0 s1178 hc) ?_
                        refine zj_geti (v := (h.2 (c + 1) 3)) (zdk ttX9_sailOut 37 rfl rfl) zf_RX9_121 rfl (k_9_1 s1178 hc) (zfC_a f1179 (fun z9 => by unfold w_X9_sailOut at z9; first | (revert z9; decide) | omega)) ?_
                        refine zj_icmp_ge (t := 128) (zdk ttX9_sailOut 38 rfl rfl) (by decide) (by omega) (by omega) (fun c1311 => ?_) (fun c1311 => ?_)
                        · refine zj_iinc (L' := [some (.inr c), some (.inl p1), some (.inl p2), some (.inl x1175), some (.inl (x3 + 1)), some (.inl x1176)]) (zdk ttX9_sailOut 58 rfl rfl) rfl (by decide) rfl ?_
                          refine zj_goto (t := 5) (zdk ttX9_sailOut 59 rfl rfl) (by decide) ?_
                          refine zj_kill (k := 5) (L' := [some (.inr c), some (.inl p1), some (.inl p2), some (.inl x1175), some (.inl (x3 + 1)), none]) rfl ?_
                          exact ih1145  x1175 (x3 + 1) h1177 (by omega) (by omega) s1178 f1179 (by omega)
                        · refine zj_iload_n (zdk ttX9_sailOut 39 rfl rfl) rfl ?_
                          refine zj_if_le (t := 128) (zdk ttX9_sailOut 40 rfl rfl) (by decide) (by omega) (fun c1312 => ?_) (fun c1312 => ?_)
                          · refine zj_iinc (L' := [some (.inr c), some (.inl p1), some (.inl p2), some (.inl x1175), some (.inl (x3 + 1)), some (.inl x1176)]) (zdk ttX9_sailOut 58 rfl rfl) rfl (by decide) rfl ?_
                            refine zj_goto (t := 5) (zdk ttX9_sailOut 59 rfl rfl) (by decide) ?_
                            refine zj_kill (k := 5) (L' := [some (.inr c), some (.inl p1), some (.inl p2), some (.inl x1175), some (.inl (x3 + 1)), none]) rfl ?_
                            exact ih1145  x1175 (x3 + 1) h1177 (by omega) (by omega) s1178 f1179 (by omega)
                          · refine zj_aload_n (zdk ttX9_sailOut 41 rfl rfl) rfl (by omega) ?_
                            refine zj_getr (r := (c + 20)) (zdk ttX9_sailOut 42 rfl rfl) zf_RX9_38 rfl (k_9_0 s1178 hc) (rf_9_0_4 s1178 hc) ?_
                            refine zj_iload (zdk ttX9_sailOut 43 rfl rfl) rfl ?_
                            refine zj_iload (zdk ttX9_sailOut 44 rfl rfl) rfl ?_
                            refine zj_callV (av := [.inl x3, .inl x1176]) (st := []) (zdk ttX9_sailOut 45 rfl rfl) mb_X2_areKin mv_RX9_138 (ci := 2) rfl rfl (k_9_20 s1178 hc) rfl rfl (Nat.le_of_ble_eq_true rfl) (s_X2_areKin l h1177 (c + 20) x3 x1176 s1178 (zs_9_20 hc) (by omega) (by omega)) (rm_ok (by decide) (by decide)) (zq_i fun v1314 h1315 q1313 => ?_)
                            obtain ⟨rfl, ⟨rfl, b1316⟩ | ⟨rfl, b1316⟩⟩ := q1313
                            · refine zj_if_eq (t := 122) (zdk ttX9_sailOut 46 rfl rfl) (by decide) (by decide) (fun c1317 => ?_) (fun c1317 => ?_)
                              · refine zj_iinc (L' := [some (.inr c), some (.inl p1), some (.inl p2), some (.inl x1175), some (.inl x3), some (.inl (x1176 + 1))]) (zdk ttX9_sailOut 56 rfl rfl) rfl (by decide) rfl ?_
                                refine zj_goto (t := 71) (zdk ttX9_sailOut 57 rfl rfl) (by decide) ?_
                                exact ih1310  x1175 (x1176 + 1) h1177 (by omega) (by omega) s1178 f1179 (by omega)
                              · exact absurd c1317 (by omega)
                            · refine zj_if_eq (t := 122) (zdk ttX9_sailOut 46 rfl rfl) (by decide) (by decide) (fun c1318 => ?_) (fun c1318 => ?_)
                              · exact absurd c1318 (by omega)
                              · refine zj_aload_n (zdk ttX9_sailOut 47 rfl rfl) rfl (by omega) ?_
                                refine zj_getr (r := (c + 1)) (zdk ttX9_sailOut 48 rfl rfl) zf_RX9_12 rfl (k_9_0 s1178 hc) (rf_9_0_0 s1178 hc) ?_
                                refine zj_iload (zdk ttX9_sailOut 49 rfl rfl) rfl ?_
                                refine zj_callV (av := [.inl x1176]) (st := []) (zdk ttX9_sailOut 50 rfl rfl) mb_X1_isHere mv_RX9_124 (ci := 1) rfl rfl (k_9_1 s1178 hc) rfl rfl (Nat.le_of_ble_eq_true rfl) (s_X1_isHere l h1177 (c + 1) x1176 s1178 (zs_9_1 hc) (by omega)) (rm_ok (by decide) (by decide)) (zq_i fun v1320 h1321 q1319 => ?_)
                                obtain ⟨rfl, b1323, ⟨rfl, b1322⟩ | ⟨rfl, b1322⟩⟩ := q1319
                                · refine zj_if_eq (t := 122) (zdk ttX9_sailOut 51 rfl rfl) (by decide) (by decide) (fun c1324 => ?_) (fun c1324 => ?_)
                                  · refine zj_iinc (L' := [some (.inr c), some (.inl p1), some (.inl p2), some (.inl x1175), some (.inl x3), some (.inl (x1176 + 1))]) (zdk ttX9_sailOut 56 rfl rfl) rfl (by decide) rfl ?_
                                    refine zj_goto (t := 71) (zdk ttX9_sailOut 57 rfl rfl) (by decide) ?_
                                    exact ih1310  x1175 (x1176 + 1) h1177 (by omega) (by omega) s1178 f1179 (by omega)
                                  · exact absurd c1324 (by omega)
                                · refine zj_if_eq (t := 122) (zdk ttX9_sailOut 51 rfl rfl) (by decide) (by decide) (fun c1325 => ?_) (fun c1325 => ?_)
                                  · exact absurd c1325 (by omega)
                                  · refine zj_aload_n (zdk ttX9_sailOut 52 rfl rfl) rfl (by omega) ?_
                                    refine zj_iload (zdk ttX9_sailOut 53 rfl rfl) rfl ?_
                                    refine zj_callV (av := [.inl x1176]) (st := []) (zdk ttX9_sailOut 54 rfl rfl) mb_X9_goAboard mv_RX9_135 (ci := 9) rfl rfl (k_9_0 s1178 hc) rfl rfl (Nat.le_of_ble_eq_true rfl) (s_X9_goAboard l h1177 c x1176 s1178 hc (by omega)) (rm_ok (by decide) (by decide)) (zq_v fun h1328 q1326 => ?_)
                                    obtain ⟨s1330, f1331⟩ := q1326
                                    refine zj_iinc (L' := [some (.inr c), some (.inl p1), some (.inl p2), some (.inl (x1175 + (-1))), some (.inl x3), some (.inl x1176)]) (zdk ttX9_sailOut 55 rfl rfl) rfl (by decide) rfl ?_
                                    refine zj_iinc (L' := [some (.inr c), some (.inl p1), some (.inl p2), some (.inl (x1175 + (-1))), some (.inl x3), some (.inl (x1176 + 1))]) (zdk ttX9_sailOut 56 rfl rfl) rfl (by decide) rfl ?_
                                    refine zj_goto (t := 71) (zdk ttX9_sailOut 57 rfl rfl) (by decide) ?_
                                    have f1332 : zfC (w_X9_sailOut c) h h1328 := zfC_t f1179 f1331 (fun a9 b9 z9 => by
                                      rcases z9 with z9 | z9 | z9 | z9 | z9 | z9
                                      · exact (Or.inl (by omega))
                                      · exact (Or.inr (Or.inl (by omega)))
                                      · exact (Or.inr (Or.inr (Or.inr (Or.inl (by omega)))))
                                      · exact (Or.inr (Or.inr (Or.inr (Or.inr (Or.inl (by omega))))))
                                      · exact (Or.inr (Or.inr (Or.inr (Or.inr (Or.inr (Or.inl (by omega)))))))
                                      · exact (Or.inr (Or.inr (Or.inr (Or.inr (Or.inr (Or.inr (by omega))))))))
                                    exact ih1310  (x1175 + (-1)) (x1176 + 1) h1328 (by omega) (by omega) s1330 f1332 (by omega)
                    have f1334 : zfC (w_X9_sailOut c) h h1164 := zfC_t f6 f1167 (fun a9 b9 z9 => by
                      rcases z9 with z9 | z9
                      · exact (Or.inr (Or.inr (Or.inl (by omega))))
                      · exact (Or.inr (Or.inr (Or.inr (Or.inr (Or.inl (by omega)))))))
                    have f1333 : zfC (w_X9_sailOut c) h h1171 := zfC_t f1334 f1174 (fun a9 b9 z9 => by
                      rcases z9 with z9 | z9 | z9 | z9 | z9 | z9
                      · exact (Or.inl (by omega))
                      · exact (Or.inr (Or.inl (by omega)))
                      · exact (Or.inr (Or.inr (Or.inr (Or.inl (by omega)))))
                      · exact (Or.inr (Or.inr (Or.inr (Or.inr (Or.inl (by omega))))))
                      · exact (Or.inr (Or.inr (Or.inr (Or.inr (Or.inr (Or.inl (by omega)))))))
                      · exact (Or.inr (Or.inr (Or.inr (Or.inr (Or.inr (Or.inr (by omega))))))))
                    exact lp1306 _ (x2 + (-1)) 0 h1171 (by omega) (by omega) s1173 f1333 (Nat.lt_succ_self _)
                  · refine zj_goto (t := 128) (zdk ttX9_sailOut 27 rfl rfl) (by decide) ?_
                    refine zj_iinc (L' := [some (.inr c), some (.inl p1), some (.inl p2), some (.inl x2), some (.inl (x3 + 1)), none]) (zdk ttX9_sailOut 58 rfl rfl) rfl (by decide) rfl ?_
                    refine zj_goto (t := 5) (zdk ttX9_sailOut 59 rfl rfl) (by decide) ?_
                    have f1335 : zfC (w_X9_sailOut c) h h1164 := zfC_t f6 f1167 (fun a9 b9 z9 => by
                      rcases z9 with z9 | z9
                      · exact (Or.inr (Or.inr (Or.inl (by omega))))
                      · exact (Or.inr (Or.inr (Or.inr (Or.inr (Or.inl (by omega)))))))
                    exact ih1145  x2 (x3 + 1) h1164 (by omega) (by omega) s1166 f1335 (by omega)
              · refine zj_if_ne (t := 128) (zdk ttX9_sailOut 20 rfl rfl) (by decide) (by decide) (fun c1336 => ?_) (fun c1336 => ?_)
                · refine zj_iinc (L' := [some (.inr c), some (.inl p1), some (.inl p2), some (.inl x2), some (.inl (x3 + 1)), none]) (zdk ttX9_sailOut 58 rfl rfl) rfl (by decide) rfl ?_
                  refine zj_goto (t := 5) (zdk ttX9_sailOut 59 rfl rfl) (by decide) ?_
                  exact ih1145  x2 (x3 + 1) h4 (by omega) (by omega) s5 f6 (by omega)
                · exact absurd c1336 (by omega)
  exact lp1141 _ p1 0 h (by omega) (by omega) s0 (zfC_r _ _) (Nat.lt_succ_self _)

abbrev tX9_sailBack : List (Nat × Instr × Nat) := [(0, .iload_n 1, 1), (1, .istore_n 3, 1), (2, .iconst 0, 1), (3, .istore 4, 2), (5, .iload 4, 2), (7, .aload_n 0, 1), (8, .getfield 12, 3), (11, .getfield 121, 3), (14, .if_icmp .ge 45, 3), (17, .iload_n 3, 1), (18, .ifCond .le 41, 3), (21, .aload_n 0, 1), (22, .getfield 12, 3), (25, .iload 4, 2), (27, .invokevirtual 124, 3), (30, .ifCond .ne 23, 3), (33, .aload_n 0, 1), (34, .iconst 2, 1), (35, .iload 4, 2), (37, .iload_n 2, 1), (38, .invokevirtual 131, 3), (41, .ifCond .eq 12, 3), (44, .aload_n 0, 1), (45, .iload 4, 2), (47, .invokevirtual 142, 3), (50, .iinc 3 (-1), 3), (53, .iinc 4 1, 3), (56, .goto (-51), 3), (59, .return_, 1)]
theorem ttX9_sailBack : zdt cX9_sailBack tX9_sailBack = true := by decide +kernel
abbrev w_X9_sailBack (c a b : Int) : Prop := (a = c + 1 ∧ b = 4) ∨ (a = c + 1 ∧ b = 7) ∨ (a = c + 1 ∧ b = 13) ∨ a = c + 11 ∨ (a = c + 22 ∧ b = 4) ∨ (c + 23 ≤ a ∧ a ≤ c + 26)
abbrev q_X9_sailBack (h : zM) (c : Int) (p1 : Int) (p2 : Int) : Option zV → zM → Prop := zqv fun h' => okC h' ∧ zfC (w_X9_sailBack c) h h'
set_option maxRecDepth 100000 in
set_option maxHeartbeats 4000000 in
theorem s_X9_sailBack (l : Launch) (h : zM) (c : Int) (p1 : Int) (p2 : Int) (s0 : okC h) (hc : zWd c) (b_p1 : (-2147483648) ≤ p1 ∧ p1 ≤ 2147483647) (b_p2 : 0 ≤ p2 ∧ p2 ≤ 1) : zT shC l yX9_sailBack cX9_sailBack 5 none (rmL 6) 0 0 [.inr c, .inl p1, .inl p2] h (q_X9_sailBack h c p1 p2) := by
  refine zT_of (by decide +kernel) (L0 := [some (.inr c), some (.inl p1), some (.inl p2), none, none]) rfl (Nat.le_of_ble_eq_true rfl) ?_
  have b1 := zWd_b hc
  refine zj_iload_n (zdk ttX9_sailBack 0 rfl rfl) rfl ?_
  refine zj_istore_n (L' := [some (.inr c), some (.inl p1), some (.inl p2), some (.inl p1), none]) (zdk ttX9_sailBack 1 rfl rfl) (by decide) rfl ?_
  refine zj_iconst (zdk ttX9_sailBack 2 rfl rfl) ?_
  refine zj_istore (L' := [some (.inr c), some (.inl p1), some (.inl p2), some (.inl p1), some (.inl 0)]) (zdk ttX9_sailBack 3 rfl rfl) (by decide) rfl ?_
  have lp145 : ∀ (n : Nat) (x2 x3 : Int) (h4 : zM), (-2147483648 ≤ x2 ∧ x2 ≤ 2147483647) → (0 ≤ x3 ∧ x3 ≤ 18) → okC h4 → zfC (w_X9_sailBack c) h h4 → (19 - x3).toNat < n → zJ shC l yX9_sailBack cX9_sailBack 5 none (rmL 6) 0 0 (q_X9_sailBack h c p1 p2) 0 0 5 [some (.inr c), some (.inl p1), some (.inl p2), some (.inl x2), some (.inl x3)] [] h4 := by
    intro n
    induction n with
    | zero => intro x2 x3 h4 b146 b147 s5 f6 m148; exact absurd m148 (Nat.not_lt_zero _)
    | succ n ih149 =>
      intro x2 x3 h4 b146 b147 s5 f6 m148
      refine zj_iload (zdk ttX9_sailBack 4 rfl rfl) rfl ?_
      refine zj_aload_n (zdk ttX9_sailBack 5 rfl rfl) rfl (by omega) ?_
      refine zj_getr (r := (c + 1)) (zdk ttX9_sailBack 6 rfl rfl) zf_RX9_12 rfl (k_9_0 s5 hc) (rf_9_0_0 s5 hc) ?_
      have b150 : 0 ≤ (h.2 (c + 1) 3) ∧ (h.2 (c + 1) 3) ≤ 18 := fb_9_1_3 s0 hc
      refine zj_geti (v := (h.2 (c + 1) 3)) (zdk ttX9_sailBack 7 rfl rfl) zf_RX9_121 rfl (k_9_1 s5 hc) (zfC_a f6 (fun z9 => by unfold w_X9_sailBack at z9; first | (revert z9; decide) | omega)) ?_
      refine zj_icmp_ge (t := 59) (zdk ttX9_sailBack 8 rfl rfl) (by decide) (by omega) (by omega) (fun c151 => ?_) (fun c151 => ?_)
      · exact zj_vret rfl (zdk ttX9_sailBack 28 rfl rfl) (Nat.le_refl _) (Nat.le_refl _) ⟨rfl, s5, f6⟩
      · refine zj_iload_n (zdk ttX9_sailBack 9 rfl rfl) rfl ?_
        refine zj_if_le (t := 59) (zdk ttX9_sailBack 10 rfl rfl) (by decide) (by omega) (fun c152 => ?_) (fun c152 => ?_)
        · exact zj_vret rfl (zdk ttX9_sailBack 28 rfl rfl) (Nat.le_refl _) (Nat.le_refl _) ⟨rfl, s5, f6⟩
        · refine zj_aload_n (zdk ttX9_sailBack 11 rfl rfl) rfl (by omega) ?_
          refine zj_getr (r := (c + 1)) (zdk ttX9_sailBack 12 rfl rfl) zf_RX9_12 rfl (k_9_0 s5 hc) (rf_9_0_0 s5 hc) ?_
          refine zj_iload (zdk ttX9_sailBack 13 rfl rfl) rfl ?_
          refine zj_callV (av := [.inl x3]) (st := []) (zdk ttX9_sailBack 14 rfl rfl) mb_X1_isHere mv_RX9_124 (ci := 1) rfl rfl (k_9_1 s5 hc) rfl rfl (Nat.le_of_ble_eq_true rfl) (s_X1_isHere l h4 (c + 1) x3 s5 (zs_9_1 hc) (by omega)) (rm_ok (by decide) (by decide)) (zq_i fun v154 h155 q153 => ?_)
          obtain ⟨rfl, b157, ⟨rfl, b156⟩ | ⟨rfl, b156⟩⟩ := q153
          · refine zj_if_ne (t := 53) (zdk ttX9_sailBack 15 rfl rfl) (by decide) (by decide) (fun c158 => ?_) (fun c158 => ?_)
            · exact absurd c158 (by omega)
            · refine zj_aload_n (zdk ttX9_sailBack 16 rfl rfl) rfl (by omega) ?_
              refine zj_iconst (zdk ttX9_sailBack 17 rfl rfl) ?_
              refine zj_iload (zdk ttX9_sailBack 18 rfl rfl) rfl ?_
              refine zj_iload_n (zdk ttX9_sailBack 19 rfl rfl) rfl ?_
              refine zj_callV (av := [.inl 2, .inl x3, .inl p2]) (st := []) (zdk ttX9_sailBack 20 rfl rfl) mb_X9_isWilling mv_RX9_131 (ci := 9) rfl rfl (k_9_0 s5 hc) rfl rfl (Nat.le_of_ble_eq_true rfl) (s_X9_isWilling l h4 c 2 x3 p2 s5 hc (by omega) (by omega) (by omega)) (rm_ok (by decide) (by decide)) (zq_i fun v160 h161 q159 => ?_)
              obtain ⟨b162, s163, f164⟩ := q159
              refine zj_if_eq (t := 53) (zdk ttX9_sailBack 21 rfl rfl) (by decide) (by omega) (fun c165 => ?_) (fun c165 => ?_)
              · refine zj_iinc (L' := [some (.inr c), some (.inl p1), some (.inl p2), some (.inl x2), some (.inl (x3 + 1))]) (zdk ttX9_sailBack 26 rfl rfl) rfl (by decide) rfl ?_
                refine zj_goto (t := 5) (zdk ttX9_sailBack 27 rfl rfl) (by decide) ?_
                have f166 : zfC (w_X9_sailBack c) h h161 := zfC_t f6 f164 (fun a9 b9 z9 => by
                  rcases z9 with z9 | z9
                  · exact (Or.inr (Or.inr (Or.inl (by omega))))
                  · exact (Or.inr (Or.inr (Or.inr (Or.inl (by omega))))))
                exact ih149  x2 (x3 + 1) h161 (by omega) (by omega) s163 f166 (by omega)
              · refine zj_aload_n (zdk ttX9_sailBack 22 rfl rfl) rfl (by omega) ?_
                refine zj_iload (zdk ttX9_sailBack 23 rfl rfl) rfl ?_
                refine zj_callV (av := [.inl x3]) (st := []) (zdk ttX9_sailBack 24 rfl rfl) mb_X9_comeBack mv_RX9_142 (ci := 9) rfl rfl (k_9_0 s163 hc) rfl rfl (Nat.le_of_ble_eq_true rfl) (s_X9_comeBack l h161 c x3 s163 hc (by omega)) (rm_ok (by decide) (by decide)) (zq_v fun h169 q167 => ?_)
                obtain ⟨s171, f172⟩ := q167
                refine zj_iinc (L' := [some (.inr c), some (.inl p1), some (.inl p2), some (.inl (x2 + (-1))), some (.inl x3)]) (zdk ttX9_sailBack 25 rfl rfl) rfl (by decide) rfl ?_
                refine zj_iinc (L' := [some (.inr c), some (.inl p1), some (.inl p2), some (.inl (x2 + (-1))), some (.inl (x3 + 1))]) (zdk ttX9_sailBack 26 rfl rfl) rfl (by decide) rfl ?_
                refine zj_goto (t := 5) (zdk ttX9_sailBack 27 rfl rfl) (by decide) ?_
                have f174 : zfC (w_X9_sailBack c) h h161 := zfC_t f6 f164 (fun a9 b9 z9 => by
                  rcases z9 with z9 | z9
                  · exact (Or.inr (Or.inr (Or.inl (by omega))))
                  · exact (Or.inr (Or.inr (Or.inr (Or.inl (by omega))))))
                have f173 : zfC (w_X9_sailBack c) h h169 := zfC_t f174 f172 (fun a9 b9 z9 => by
                  rcases z9 with z9 | z9 | z9 | z9 | z9
                  · exact (Or.inl (by omega))
                  · exact (Or.inr (Or.inl (by omega)))
                  · exact (Or.inr (Or.inr (Or.inr (Or.inl (by omega)))))
                  · exact (Or.inr (Or.inr (Or.inr (Or.inr (Or.inl (by omega))))))
                  · exact (Or.inr (Or.inr (Or.inr (Or.inr (Or.inr (by omega)))))))
                exact ih149  (x2 + (-1)) (x3 + 1) h169 (by omega) (by omega) s171 f173 (by omega)
          · refine zj_if_ne (t := 53) (zdk ttX9_sailBack 15 rfl rfl) (by decide) (by decide) (fun c175 => ?_) (fun c175 => ?_)
            · refine zj_iinc (L' := [some (.inr c), some (.inl p1), some (.inl p2), some (.inl x2), some (.inl (x3 + 1))]) (zdk ttX9_sailBack 26 rfl rfl) rfl (by decide) rfl ?_
              refine zj_goto (t := 5) (zdk ttX9_sailBack 27 rfl rfl) (by decide) ?_
              exact ih149  x2 (x3 + 1) h4 (by omega) (by omega) s5 f6 (by omega)
            · exact absurd c175 (by omega)
  exact lp145 _ p1 0 h (by omega) (by omega) s0 (zfC_r _ _) (Nat.lt_succ_self _)

abbrev tX9_runClock : List (Nat × Instr × Nat) := [(0, .sipush (-1440), 3), (3, .sipush 1440, 3), (6, .aload_n 0, 1), (7, .getfield 12, 3), (10, .getfield 159, 3), (13, .invokestatic 166, 3), (16, .invokestatic 171, 3), (19, .istore_n 1, 1), (20, .aload_n 0, 1), (21, .getfield 12, 3), (24, .getfield 114, 3), (27, .iload_n 1, 1), (28, .invokestatic 174, 3), (31, .istore_n 2, 1), (32, .aload_n 0, 1), (33, .getfield 12, 3), (36, .iload_n 1, 1), (37, .invokevirtual 117, 3), (40, .aload_n 0, 1), (41, .getfield 12, 3), (44, .dup, 1), (45, .getfield 159, 3), (48, .iload_n 1, 1), (49, .isub, 1), (50, .putfield 159, 3), (53, .aload_n 0, 1), (54, .getfield 12, 3), (57, .dup, 1), (58, .getfield 179, 3), (61, .iload_n 2, 1), (62, .iadd, 1), (63, .putfield 179, 3), (66, .iload_n 2, 1), (67, .ifCond .le 20, 3), (70, .aload_n 0, 1), (71, .getfield 45, 3), (74, .aload_n 0, 1), (75, .getfield 12, 3), (78, .getfield 83, 3), (81, .iconst 2, 1), (82, .iconst (-1), 1), (83, .iload_n 2, 1), (84, .invokevirtual 162, 3), (87, .iload_n 1, 1), (88, .ifCond .ne 26, 3), (91, .aload_n 0, 1), (92, .getfield 45, 3), (95, .aload_n 0, 1), (96, .getfield 12, 3), (99, .getfield 83, 3), (102, .iconst 3, 1), (103, .iconst (-1), 1), (104, .aload_n 0, 1), (105, .getfield 12, 3), (108, .getfield 114, 3), (111, .invokevirtual 162, 3), (114, .iload_n 1, 1), (115, .ifCond .ge 21, 3), (118, .aload_n 0, 1), (119, .getfield 45, 3), (122, .aload_n 0, 1), (123, .getfield 12, 3), (126, .getfield 83, 3), (129, .iconst 4, 1), (130, .iconst (-1), 1), (131, .iload_n 1, 1), (132, .ineg, 1), (133, .invokevirtual 162, 3), (136, .return_, 1)]
theorem ttX9_runClock : zdt cX9_runClock tX9_runClock = true := by decide +kernel
abbrev w_X9_runClock (c a b : Int) : Prop := (a = c + 1 ∧ 6 ≤ b ∧ b ≤ 9) ∨ (a = c + 22 ∧ b = 4) ∨ (c + 23 ≤ a ∧ a ≤ c + 26)
abbrev q_X9_runClock (h : zM) (c : Int) : Option zV → zM → Prop := zqv fun h' => okC h' ∧ zfC (w_X9_runClock c) h h'
set_option maxRecDepth 100000 in
set_option maxHeartbeats 4000000 in
theorem s_X9_runClock (l : Launch) (h : zM) (c : Int) (s0 : okC h) (hc : zWd c) : zT shC l yX9_runClock cX9_runClock 3 none (rmL 3) 0 0 [.inr c] h (q_X9_runClock h c) := by
  refine zT_of (by decide +kernel) (L0 := [some (.inr c), none, none]) rfl (Nat.le_of_ble_eq_true rfl) ?_
  have b1 := zWd_b hc
  refine zj_sipush (zdk ttX9_runClock 0 rfl rfl) (by decide) ?_
  refine zj_sipush (zdk ttX9_runClock 1 rfl rfl) (by decide) ?_
  refine zj_aload_n (zdk ttX9_runClock 2 rfl rfl) rfl (by omega) ?_
  refine zj_getr (r := (c + 1)) (zdk ttX9_runClock 3 rfl rfl) zf_RX9_12 rfl (k_9_0 s0 hc) (rf_9_0_0 s0 hc) ?_
  have b2 : -2147483648 ≤ (h.2 (c + 1) 7) ∧ (h.2 (c + 1) 7) ≤ 2147483647 := fb_9_1_7 s0 hc
  refine zj_geti (v := (h.2 (c + 1) 7)) (zdk ttX9_runClock 4 rfl rfl) zf_RX9_159 rfl (k_9_1 s0 hc) rfl ?_
  refine zj_min (zdk ttX9_runClock 5 rfl rfl) mx_RX9_166 (by decide) (by omega) (Nat.le_of_ble_eq_true rfl) (rm_m (by decide)) ?_
  have b3 := zm_min_f 1440 (h.2 (c + 1) 7)
  refine zj_max (zdk ttX9_runClock 6 rfl rfl) mx_RX9_171 (by decide) (by omega) (Nat.le_of_ble_eq_true rfl) (rm_m (by decide)) ?_
  have b4 := zm_max_f (-1440) (zm_min 1440 (h.2 (c + 1) 7))
  refine zj_istore_n (L' := [some (.inr c), some (.inl (zm_max (-1440) (zm_min 1440 (h.2 (c + 1) 7)))), none]) (zdk ttX9_runClock 7 rfl rfl) (by decide) rfl ?_
  refine zj_aload_n (zdk ttX9_runClock 8 rfl rfl) rfl (by omega) ?_
  refine zj_getr (r := (c + 1)) (zdk ttX9_runClock 9 rfl rfl) zf_RX9_12 rfl (k_9_0 s0 hc) (rf_9_0_0 s0 hc) ?_
  have b5 : 0 ≤ (h.2 (c + 1) 6) ∧ (h.2 (c + 1) 6) ≤ 719 := fb_9_1_6 s0 hc
  refine zj_geti (v := (h.2 (c + 1) 6)) (zdk ttX9_runClock 10 rfl rfl) zf_RX9_114 rfl (k_9_1 s0 hc) rfl ?_
  refine zj_iload_n (zdk ttX9_runClock 11 rfl rfl) rfl ?_
  refine zj_callS (av := [.inl (h.2 (c + 1) 6), .inl (zm_max (-1440) (zm_min 1440 (h.2 (c + 1) 7)))]) (st := []) (zdk ttX9_runClock 12 rfl rfl) mb_X8_strokesOver ms_RX9_174 rfl rfl (Nat.le_of_ble_eq_true rfl) (s_X8_strokesOver l h (h.2 (c + 1) 6) (zm_max (-1440) (zm_min 1440 (h.2 (c + 1) 7))) s0 (by omega) (by omega)) (rm_ok (by decide) (by decide)) (zq_i fun v7 h8 q6 => ?_)
  obtain ⟨rfl, b9⟩ := q6
  refine zj_istore_n (L' := [some (.inr c), some (.inl (zm_max (-1440) (zm_min 1440 (h.2 (c + 1) 7)))), some (.inl v7)]) (zdk ttX9_runClock 13 rfl rfl) (by decide) rfl ?_
  refine zj_aload_n (zdk ttX9_runClock 14 rfl rfl) rfl (by omega) ?_
  refine zj_getr (r := (c + 1)) (zdk ttX9_runClock 15 rfl rfl) zf_RX9_12 rfl (k_9_0 s0 hc) (rf_9_0_0 s0 hc) ?_
  refine zj_iload_n (zdk ttX9_runClock 16 rfl rfl) rfl ?_
  refine zj_callV (av := [.inl (zm_max (-1440) (zm_min 1440 (h.2 (c + 1) 7)))]) (st := []) (zdk ttX9_runClock 17 rfl rfl) mb_X1_moveHands mv_RX9_117 (ci := 1) rfl rfl (k_9_1 s0 hc) rfl rfl (Nat.le_of_ble_eq_true rfl) (s_X1_moveHands l h (c + 1) (zm_max (-1440) (zm_min 1440 (h.2 (c + 1) 7))) s0 (zs_9_1 hc) (by omega)) (rm_ok (by decide) (by decide)) (zq_v fun h12 q10 => ?_)
  obtain ⟨s14, f15⟩ := q10
  refine zj_aload_n (zdk ttX9_runClock 18 rfl rfl) rfl (by omega) ?_
  refine zj_getr (r := (c + 1)) (zdk ttX9_runClock 19 rfl rfl) zf_RX9_12 rfl (k_9_0 s14 hc) (rf_9_0_0 s14 hc) ?_
  refine zj_dup (zdk ttX9_runClock 20 rfl rfl) ?_
  refine zj_geti (v := (h.2 (c + 1) 7)) (zdk ttX9_runClock 21 rfl rfl) zf_RX9_159 rfl (k_9_1 s14 hc) (zfC_a f15 (fun z9 => by unfold w_X1_moveHands at z9; first | (revert z9; decide) | omega)) ?_
  refine zj_iload_n (zdk ttX9_runClock 22 rfl rfl) rfl ?_
  refine zj_isub (zdk ttX9_runClock 23 rfl rfl) ?_
  refine zj_wrap ?_
  have b16 := zwp_in ((h.2 (c + 1) 7) - (zm_max (-1440) (zm_min 1440 (h.2 (c + 1) 7))))
  refine zj_puti (zdk ttX9_runClock 24 rfl rfl) zf_RX9_159 rfl (k_9_1 s14 hc) (Or.inl zw_RX9_159) (k2 := 7) rfl (fun h17 e18 => ?_)
  refine zj_aload_n (zdk ttX9_runClock 25 rfl rfl) rfl (by omega) ?_
  have s19 : okC h17 := fw_9_1_7 s14 hc e18 (by omega)
  refine zj_getr (r := (c + 1)) (zdk ttX9_runClock 26 rfl rfl) zf_RX9_12 rfl (k_9_0 s19 hc) (rf_9_0_0 s19 hc) ?_
  refine zj_dup (zdk ttX9_runClock 27 rfl rfl) ?_
  have b20 : -2147483648 ≤ (h.2 (c + 1) 8) ∧ (h.2 (c + 1) 8) ≤ 2147483647 := fb_9_1_8 s0 hc
  refine zj_geti (v := (h.2 (c + 1) 8)) (zdk ttX9_runClock 28 rfl rfl) zf_RX9_179 rfl (k_9_1 s19 hc) ((zwr_r e18 (by first | decide | exact (absurd ·.1 (by decide)) | exact (absurd ·.2 (by decide)) | omega)).trans (zfC_a f15 (fun z9 => by unfold w_X1_moveHands at z9; first | (revert z9; decide) | omega))) ?_
  refine zj_iload_n (zdk ttX9_runClock 29 rfl rfl) rfl ?_
  refine zj_iadd (zdk ttX9_runClock 30 rfl rfl) ?_
  refine zj_wrap ?_
  have b21 := zwp_in ((h.2 (c + 1) 8) + v7)
  refine zj_puti (zdk ttX9_runClock 31 rfl rfl) zf_RX9_179 rfl (k_9_1 s19 hc) (Or.inl zw_RX9_179) (k2 := 8) rfl (fun h22 e23 => ?_)
  refine zj_iload_n (zdk ttX9_runClock 32 rfl rfl) rfl ?_
  have j36 : ∀ (h33 : zM), okC h33 → zfC (w_X9_runClock c) h h33 → zJ shC l yX9_runClock cX9_runClock 3 none (rmL 3) 0 0 (q_X9_runClock h c) 0 0 87 [some (.inr c), some (.inl (zm_max (-1440) (zm_min 1440 (h.2 (c + 1) 7)))), some (.inl v7)] [] h33 := by
    intro h33 s34 f35
    refine zj_iload_n (zdk ttX9_runClock 43 rfl rfl) rfl ?_
    refine zj_if_ne (t := 114) (zdk ttX9_runClock 44 rfl rfl) (by decide) (by omega) (fun c37 => ?_) (fun c37 => ?_)
    · refine zj_iload_n (zdk ttX9_runClock 56 rfl rfl) rfl ?_
      refine zj_if_ge (t := 136) (zdk ttX9_runClock 57 rfl rfl) (by decide) (by omega) (fun c38 => ?_) (fun c38 => ?_)
      · exact zj_vret rfl (zdk ttX9_runClock 68 rfl rfl) (Nat.le_refl _) (Nat.le_refl _) ⟨rfl, s34, f35⟩
      · refine zj_aload_n (zdk ttX9_runClock 58 rfl rfl) rfl (by omega) ?_
        refine zj_getr (r := (c + 22)) (zdk ttX9_runClock 59 rfl rfl) zf_RX9_45 rfl (k_9_0 s34 hc) (rf_9_0_5 s34 hc) ?_
        refine zj_aload_n (zdk ttX9_runClock 60 rfl rfl) rfl (by omega) ?_
        refine zj_getr (r := (c + 1)) (zdk ttX9_runClock 61 rfl rfl) zf_RX9_12 rfl (k_9_0 s34 hc) (rf_9_0_0 s34 hc) ?_
        have b39 : -2147483648 ≤ (h.2 (c + 1) 12) ∧ (h.2 (c + 1) 12) ≤ 2147483647 := fb_9_1_12 s0 hc
        refine zj_geti (v := (h.2 (c + 1) 12)) (zdk ttX9_runClock 62 rfl rfl) zf_RX9_83 rfl (k_9_1 s34 hc) (zfC_a f35 (fun z9 => by unfold w_X9_runClock at z9; first | (revert z9; decide) | omega)) ?_
        refine zj_iconst (zdk ttX9_runClock 63 rfl rfl) ?_
        refine zj_iconst (zdk ttX9_runClock 64 rfl rfl) ?_
        refine zj_iload_n (zdk ttX9_runClock 65 rfl rfl) rfl ?_
        refine zj_ineg (zdk ttX9_runClock 66 rfl rfl) ?_
        refine zj_callV (av := [.inl (h.2 (c + 1) 12), .inl 4, .inl (-1), .inl (-(zm_max (-1440) (zm_min 1440 (h.2 (c + 1) 7))))]) (st := []) (zdk ttX9_runClock 67 rfl rfl) mb_X0_write mv_RX9_162 (ci := 0) rfl rfl (k_9_22 s34 hc) rfl rfl (Nat.le_of_ble_eq_true rfl) (s_X0_write l h33 (c + 22) (h.2 (c + 1) 12) 4 (-1) (-(zm_max (-1440) (zm_min 1440 (h.2 (c + 1) 7)))) s34 (zs_9_22 hc) (by omega) (by omega) (by omega) (by omega)) (rm_ok (by decide) (by decide)) (zq_v fun h42 q40 => ?_)
        obtain ⟨s44, f45⟩ := q40
        have f46 : zfC (w_X9_runClock c) h h42 := zfC_t f35 f45 (fun a9 b9 z9 => by
          rcases z9 with z9 | z9
          · exact (Or.inr (Or.inl (by omega)))
          · exact (Or.inr (Or.inr (by omega))))
        exact zj_vret rfl (zdk ttX9_runClock 68 rfl rfl) (Nat.le_refl _) (Nat.le_refl _) ⟨rfl, s44, f46⟩
    · refine zj_aload_n (zdk ttX9_runClock 45 rfl rfl) rfl (by omega) ?_
      refine zj_getr (r := (c + 22)) (zdk ttX9_runClock 46 rfl rfl) zf_RX9_45 rfl (k_9_0 s34 hc) (rf_9_0_5 s34 hc) ?_
      refine zj_aload_n (zdk ttX9_runClock 47 rfl rfl) rfl (by omega) ?_
      refine zj_getr (r := (c + 1)) (zdk ttX9_runClock 48 rfl rfl) zf_RX9_12 rfl (k_9_0 s34 hc) (rf_9_0_0 s34 hc) ?_
      have b47 : -2147483648 ≤ (h.2 (c + 1) 12) ∧ (h.2 (c + 1) 12) ≤ 2147483647 := fb_9_1_12 s0 hc
      refine zj_geti (v := (h.2 (c + 1) 12)) (zdk ttX9_runClock 49 rfl rfl) zf_RX9_83 rfl (k_9_1 s34 hc) (zfC_a f35 (fun z9 => by unfold w_X9_runClock at z9; first | (revert z9; decide) | omega)) ?_
      refine zj_iconst (zdk ttX9_runClock 50 rfl rfl) ?_
      refine zj_iconst (zdk ttX9_runClock 51 rfl rfl) ?_
      refine zj_aload_n (zdk ttX9_runClock 52 rfl rfl) rfl (by omega) ?_
      refine zj_getr (r := (c + 1)) (zdk ttX9_runClock 53 rfl rfl) zf_RX9_12 rfl (k_9_0 s34 hc) (rf_9_0_0 s34 hc) ?_
      have b48 : 0 ≤ (h33.2 (c + 1) 6) ∧ (h33.2 (c + 1) 6) ≤ 719 := fb_9_1_6 s34 hc
      refine zj_geti (v := (h33.2 (c + 1) 6)) (zdk ttX9_runClock 54 rfl rfl) zf_RX9_114 rfl (k_9_1 s34 hc) rfl ?_
      refine zj_callV (av := [.inl (h.2 (c + 1) 12), .inl 3, .inl (-1), .inl (h33.2 (c + 1) 6)]) (st := []) (zdk ttX9_runClock 55 rfl rfl) mb_X0_write mv_RX9_162 (ci := 0) rfl rfl (k_9_22 s34 hc) rfl rfl (Nat.le_of_ble_eq_true rfl) (s_X0_write l h33 (c + 22) (h.2 (c + 1) 12) 3 (-1) (h33.2 (c + 1) 6) s34 (zs_9_22 hc) (by omega) (by omega) (by omega) (by omega)) (rm_ok (by decide) (by decide)) (zq_v fun h51 q49 => ?_)
      obtain ⟨s53, f54⟩ := q49
      refine zj_iload_n (zdk ttX9_runClock 56 rfl rfl) rfl ?_
      refine zj_if_ge (t := 136) (zdk ttX9_runClock 57 rfl rfl) (by decide) (by omega) (fun c55 => ?_) (fun c55 => ?_)
      · have f56 : zfC (w_X9_runClock c) h h51 := zfC_t f35 f54 (fun a9 b9 z9 => by
          rcases z9 with z9 | z9
          · exact (Or.inr (Or.inl (by omega)))
          · exact (Or.inr (Or.inr (by omega))))
        exact zj_vret rfl (zdk ttX9_runClock 68 rfl rfl) (Nat.le_refl _) (Nat.le_refl _) ⟨rfl, s53, f56⟩
      · exact absurd c55 (by omega)
  refine zj_if_le (t := 87) (zdk ttX9_runClock 33 rfl rfl) (by decide) (by omega) (fun c24 => ?_) (fun c24 => ?_)
  · have s57 : okC h22 := fw_9_1_8 s19 hc e23 (by omega)
    have f60 : zfC (w_X9_runClock c) h h12 := zfC_t (zfC_r _ _) f15 (fun a9 b9 z9 => by
      rcases z9 with z9 | z9
      · exact (Or.inl (by omega))
      · exact (Or.inl (by omega)))
    have f59 : zfC (w_X9_runClock c) h h17 := zfC_w f60 e18 (Or.inl (by omega))
    have f58 : zfC (w_X9_runClock c) h h22 := zfC_w f59 e23 (Or.inl (by omega))
    exact j36 h22 s57 f58
  · refine zj_aload_n (zdk ttX9_runClock 34 rfl rfl) rfl (by omega) ?_
    have s61 : okC h22 := fw_9_1_8 s19 hc e23 (by omega)
    refine zj_getr (r := (c + 22)) (zdk ttX9_runClock 35 rfl rfl) zf_RX9_45 rfl (k_9_0 s61 hc) (rf_9_0_5 s61 hc) ?_
    refine zj_aload_n (zdk ttX9_runClock 36 rfl rfl) rfl (by omega) ?_
    refine zj_getr (r := (c + 1)) (zdk ttX9_runClock 37 rfl rfl) zf_RX9_12 rfl (k_9_0 s61 hc) (rf_9_0_0 s61 hc) ?_
    have b62 : -2147483648 ≤ (h.2 (c + 1) 12) ∧ (h.2 (c + 1) 12) ≤ 2147483647 := fb_9_1_12 s0 hc
    refine zj_geti (v := (h.2 (c + 1) 12)) (zdk ttX9_runClock 38 rfl rfl) zf_RX9_83 rfl (k_9_1 s61 hc) (((zwr_r e23 (by first | decide | exact (absurd ·.1 (by decide)) | exact (absurd ·.2 (by decide)) | omega)).trans (zwr_r e18 (by first | decide | exact (absurd ·.1 (by decide)) | exact (absurd ·.2 (by decide)) | omega))).trans (zfC_a f15 (fun z9 => by unfold w_X1_moveHands at z9; first | (revert z9; decide) | omega))) ?_
    refine zj_iconst (zdk ttX9_runClock 39 rfl rfl) ?_
    refine zj_iconst (zdk ttX9_runClock 40 rfl rfl) ?_
    refine zj_iload_n (zdk ttX9_runClock 41 rfl rfl) rfl ?_
    refine zj_callV (av := [.inl (h.2 (c + 1) 12), .inl 2, .inl (-1), .inl v7]) (st := []) (zdk ttX9_runClock 42 rfl rfl) mb_X0_write mv_RX9_162 (ci := 0) rfl rfl (k_9_22 s61 hc) rfl rfl (Nat.le_of_ble_eq_true rfl) (s_X0_write l h22 (c + 22) (h.2 (c + 1) 12) 2 (-1) v7 s61 (zs_9_22 hc) (by omega) (by omega) (by omega) (by omega)) (rm_ok (by decide) (by decide)) (zq_v fun h65 q63 => ?_)
    obtain ⟨s67, f68⟩ := q63
    have f72 : zfC (w_X9_runClock c) h h12 := zfC_t (zfC_r _ _) f15 (fun a9 b9 z9 => by
      rcases z9 with z9 | z9
      · exact (Or.inl (by omega))
      · exact (Or.inl (by omega)))
    have f71 : zfC (w_X9_runClock c) h h17 := zfC_w f72 e18 (Or.inl (by omega))
    have f70 : zfC (w_X9_runClock c) h h22 := zfC_w f71 e23 (Or.inl (by omega))
    have f69 : zfC (w_X9_runClock c) h h65 := zfC_t f70 f68 (fun a9 b9 z9 => by
      rcases z9 with z9 | z9
      · exact (Or.inr (Or.inl (by omega)))
      · exact (Or.inr (Or.inr (by omega))))
    exact j36 h65 s67 f69

abbrev tX9_passDay : List (Nat × Instr × Nat) := [(0, .iconst 0, 1), (1, .istore_n 2, 1), (2, .iload_n 2, 1), (3, .aload_n 0, 1), (4, .getfield 32, 3), (7, .getfield 75, 3), (10, .if_icmp .ge 50, 3), (13, .aload_n 0, 1), (14, .getfield 32, 3), (17, .getfield 79, 3), (20, .iload_n 2, 1), (21, .iaload, 1), (22, .aload_n 0, 1), (23, .getfield 12, 3), (26, .getfield 83, 3), (29, .if_icmp .ne 25, 3), (32, .aload_n 0, 1), (33, .aload_n 0, 1), (34, .getfield 32, 3), (37, .getfield 85, 3), (40, .iload_n 2, 1), (41, .iaload, 1), (42, .aload_n 0, 1), (43, .getfield 32, 3), (46, .getfield 88, 3), (49, .iload_n 2, 1), (50, .iaload, 1), (51, .invokevirtual 91, 3), (54, .iinc 2 1, 3), (57, .goto (-55), 3), (60, .iconst 0, 1), (61, .istore_n 2, 1), (62, .iload_n 2, 1), (63, .aload_n 0, 1), (64, .getfield 28, 3), (67, .getfield 75, 3), (70, .if_icmp .ge 75, 3), (73, .aload_n 0, 1), (74, .getfield 28, 3), (77, .getfield 79, 3), (80, .iload_n 2, 1), (81, .iaload, 1), (82, .aload_n 0, 1), (83, .getfield 12, 3), (86, .getfield 83, 3), (89, .if_icmp .eq 6, 3), (92, .goto 47, 3), (95, .aload_n 0, 1), (96, .getfield 28, 3), (99, .getfield 85, 3), (102, .iload_n 2, 1), (103, .iaload, 1), (104, .iconst 2, 1), (105, .if_icmp .ne 20, 3), (108, .aload_n 0, 1), (109, .aload_n 0, 1), (110, .getfield 28, 3), (113, .getfield 88, 3), (116, .iload_n 2, 1), (117, .iaload, 1), (118, .iload_n 1, 1), (119, .invokevirtual 95, 3), (122, .goto 17, 3), (125, .aload_n 0, 1), (126, .aload_n 0, 1), (127, .getfield 28, 3), (130, .getfield 88, 3), (133, .iload_n 2, 1), (134, .iaload, 1), (135, .iload_n 1, 1), (136, .invokevirtual 99, 3), (139, .iinc 2 1, 3), (142, .goto (-80), 3), (145, .aload_n 0, 1), (146, .invokevirtual 102, 3), (149, .aload_n 0, 1), (150, .getfield 12, 3), (153, .dup, 1), (154, .getfield 83, 3), (157, .iconst 1, 1), (158, .iadd, 1), (159, .putfield 83, 3), (162, .return_, 1)]
theorem ttX9_passDay : zdt cX9_passDay tX9_passDay = true := by decide +kernel
abbrev w_X9_passDay (c a b : Int) : Prop := (a = c + 1 ∧ 4 ≤ b ∧ b ≤ 13) ∨ a = c + 4 ∨ a = c + 11 ∨ (a = c + 22 ∧ b = 4) ∨ (c + 23 ≤ a ∧ a ≤ c + 26)
abbrev q_X9_passDay (h : zM) (c : Int) (p1 : Int) : Option zV → zM → Prop := zqv fun h' => okC h' ∧ zfC (w_X9_passDay c) h h'
set_option maxRecDepth 100000 in
set_option maxHeartbeats 4000000 in
theorem s_X9_passDay (l : Launch) (h : zM) (c : Int) (p1 : Int) (s0 : okC h) (hc : zWd c) (b_p1 : 0 ≤ p1 ∧ p1 ≤ 1) : zT shC l yX9_passDay cX9_passDay 3 none (rmL 7) 0 0 [.inr c, .inl p1] h (q_X9_passDay h c p1) := by
  refine zT_of (by decide +kernel) (L0 := [some (.inr c), some (.inl p1), none]) rfl (Nat.le_of_ble_eq_true rfl) ?_
  have b1 := zWd_b hc
  refine zj_iconst (zdk ttX9_passDay 0 rfl rfl) ?_
  refine zj_istore_n (L' := [some (.inr c), some (.inl p1), some (.inl 0)]) (zdk ttX9_passDay 1 rfl rfl) (by decide) rfl ?_
  have lp84 : ∀ (n : Nat) (x2 : Int) (h3 : zM), (0 ≤ x2 ∧ x2 ≤ 16) → okC h3 → zfC (w_X9_passDay c) h h3 → (17 - x2).toNat < n → zJ shC l yX9_passDay cX9_passDay 3 none (rmL 7) 0 0 (q_X9_passDay h c p1) 0 0 2 [some (.inr c), some (.inl p1), some (.inl x2)] [] h3 := by
    intro n
    induction n with
    | zero => intro x2 h3 b85 s4 f5 m86; exact absurd m86 (Nat.not_lt_zero _)
    | succ n ih87 =>
      intro x2 h3 b85 s4 f5 m86
      refine zj_iload_n (zdk ttX9_passDay 2 rfl rfl) rfl ?_
      refine zj_aload_n (zdk ttX9_passDay 3 rfl rfl) rfl (by omega) ?_
      refine zj_getr (r := (c + 16)) (zdk ttX9_passDay 4 rfl rfl) zf_RX9_32 rfl (k_9_0 s4 hc) (rf_9_0_3 s4 hc) ?_
      have b88 : 0 ≤ (h.2 (c + 16) 3) ∧ (h.2 (c + 16) 3) ≤ 16 := fb_9_16_3 s0 hc
      refine zj_geti (v := (h.2 (c + 16) 3)) (zdk ttX9_passDay 5 rfl rfl) zf_RX9_75 rfl (k_9_16 s4 hc) (zfC_a f5 (fun z9 => by unfold w_X9_passDay at z9; first | (revert z9; decide) | omega)) ?_
      refine zj_icmp_ge (t := 60) (zdk ttX9_passDay 6 rfl rfl) (by decide) (by omega) (by omega) (fun c89 => ?_) (fun c89 => ?_)
      · refine zj_iconst (zdk ttX9_passDay 30 rfl rfl) ?_
        refine zj_istore_n (L' := [some (.inr c), some (.inl p1), some (.inl 0)]) (zdk ttX9_passDay 31 rfl rfl) (by decide) rfl ?_
        have lp231 : ∀ (n : Nat) (x101 : Int) (h102 : zM), (0 ≤ x101 ∧ x101 ≤ 16) → okC h102 → zfC (w_X9_passDay c) h h102 → (17 - x101).toNat < n → zJ shC l yX9_passDay cX9_passDay 3 none (rmL 7) 0 0 (q_X9_passDay h c p1) 0 0 62 [some (.inr c), some (.inl p1), some (.inl x101)] [] h102 := by
          intro n
          induction n with
          | zero => intro x101 h102 b232 s103 f104 m233; exact absurd m233 (Nat.not_lt_zero _)
          | succ n ih234 =>
            intro x101 h102 b232 s103 f104 m233
            refine zj_iload_n (zdk ttX9_passDay 32 rfl rfl) rfl ?_
            refine zj_aload_n (zdk ttX9_passDay 33 rfl rfl) rfl (by omega) ?_
            refine zj_getr (r := (c + 12)) (zdk ttX9_passDay 34 rfl rfl) zf_RX9_28 rfl (k_9_0 s103 hc) (rf_9_0_2 s103 hc) ?_
            have b235 : 0 ≤ (h.2 (c + 12) 3) ∧ (h.2 (c + 12) 3) ≤ 16 := fb_9_12_3 s0 hc
            refine zj_geti (v := (h.2 (c + 12) 3)) (zdk ttX9_passDay 35 rfl rfl) zf_RX9_75 rfl (k_9_12 s103 hc) (zfC_a f104 (fun z9 => by unfold w_X9_passDay at z9; first | (revert z9; decide) | omega)) ?_
            refine zj_icmp_ge (t := 145) (zdk ttX9_passDay 36 rfl rfl) (by decide) (by omega) (by omega) (fun c236 => ?_) (fun c236 => ?_)
            · refine zj_aload_n (zdk ttX9_passDay 73 rfl rfl) rfl (by omega) ?_
              refine zj_callV (av := []) (st := []) (zdk ttX9_passDay 74 rfl rfl) mb_X9_runClock mv_RX9_102 (ci := 9) rfl rfl (k_9_0 s103 hc) rfl rfl (Nat.le_of_ble_eq_true rfl) (s_X9_runClock l h102 c s103 hc) (rm_ok (by decide) (by decide)) (zq_v fun h239 q237 => ?_)
              obtain ⟨s241, f242⟩ := q237
              refine zj_aload_n (zdk ttX9_passDay 75 rfl rfl) rfl (by omega) ?_
              refine zj_getr (r := (c + 1)) (zdk ttX9_passDay 76 rfl rfl) zf_RX9_12 rfl (k_9_0 s241 hc) (rf_9_0_0 s241 hc) ?_
              refine zj_dup (zdk ttX9_passDay 77 rfl rfl) ?_
              have b243 : -2147483648 ≤ (h102.2 (c + 1) 12) ∧ (h102.2 (c + 1) 12) ≤ 2147483647 := fb_9_1_12 s103 hc
              refine zj_geti (v := (h102.2 (c + 1) 12)) (zdk ttX9_passDay 78 rfl rfl) zf_RX9_83 rfl (k_9_1 s241 hc) (zfC_a f242 (fun z9 => by unfold w_X9_runClock at z9; first | (revert z9; decide) | omega)) ?_
              refine zj_iconst (zdk ttX9_passDay 79 rfl rfl) ?_
              refine zj_iadd (zdk ttX9_passDay 80 rfl rfl) ?_
              refine zj_wrap ?_
              have b244 := zwp_in ((h102.2 (c + 1) 12) + 1)
              refine zj_puti (zdk ttX9_passDay 81 rfl rfl) zf_RX9_83 rfl (k_9_1 s241 hc) (Or.inl zw_RX9_83) (k2 := 12) rfl (fun h245 e246 => ?_)
              have s247 : okC h245 := fw_9_1_12 s241 hc e246 (by omega)
              have f249 : zfC (w_X9_passDay c) h h239 := zfC_t f104 f242 (fun a9 b9 z9 => by
                rcases z9 with z9 | z9 | z9
                · exact (Or.inl (by omega))
                · exact (Or.inr (Or.inr (Or.inr (Or.inl (by omega)))))
                · exact (Or.inr (Or.inr (Or.inr (Or.inr (by omega))))))
              have f248 : zfC (w_X9_passDay c) h h245 := zfC_w f249 e246 (Or.inl (by omega))
              exact zj_vret rfl (zdk ttX9_passDay 82 rfl rfl) (Nat.le_refl _) (Nat.le_refl _) ⟨rfl, s247, f248⟩
            · refine zj_aload_n (zdk ttX9_passDay 37 rfl rfl) rfl (by omega) ?_
              refine zj_getr (r := (c + 12)) (zdk ttX9_passDay 38 rfl rfl) zf_RX9_28 rfl (k_9_0 s103 hc) (rf_9_0_2 s103 hc) ?_
              refine zj_getr (r := (c + 13)) (zdk ttX9_passDay 39 rfl rfl) zf_RX9_79 rfl (k_9_12 s103 hc) (rf_9_12_0 s103 hc) ?_
              refine zj_iload_n (zdk ttX9_passDay 40 rfl rfl) rfl ?_
              have b250 : -2147483648 ≤ (h.2 (c + 13) x101) ∧ (h.2 (c + 13) x101) ≤ 2147483647 := ab_9_12_0 s0 hc x101
              refine zj_iald (v := (h.2 (c + 13) x101)) (zdk ttX9_passDay 41 rfl rfl) (ka_9_12_0 s103 hc) (by decide) (by omega) (zfC_a f104 (fun z9 => by unfold w_X9_passDay at z9; first | (revert z9; decide) | omega)) ?_
              refine zj_aload_n (zdk ttX9_passDay 42 rfl rfl) rfl (by omega) ?_
              refine zj_getr (r := (c + 1)) (zdk ttX9_passDay 43 rfl rfl) zf_RX9_12 rfl (k_9_0 s103 hc) (rf_9_0_0 s103 hc) ?_
              have b251 : -2147483648 ≤ (h102.2 (c + 1) 12) ∧ (h102.2 (c + 1) 12) ≤ 2147483647 := fb_9_1_12 s103 hc
              refine zj_geti (v := (h102.2 (c + 1) 12)) (zdk ttX9_passDay 44 rfl rfl) zf_RX9_83 rfl (k_9_1 s103 hc) rfl ?_
              refine zj_icmp_eq (t := 95) (zdk ttX9_passDay 45 rfl rfl) (by decide) (by omega) (by omega) (fun c252 => ?_) (fun c252 => ?_)
              · refine zj_aload_n (zdk ttX9_passDay 47 rfl rfl) rfl (by omega) ?_
                refine zj_getr (r := (c + 12)) (zdk ttX9_passDay 48 rfl rfl) zf_RX9_28 rfl (k_9_0 s103 hc) (rf_9_0_2 s103 hc) ?_
                refine zj_getr (r := (c + 14)) (zdk ttX9_passDay 49 rfl rfl) zf_RX9_85 rfl (k_9_12 s103 hc) (rf_9_12_1 s103 hc) ?_
                refine zj_iload_n (zdk ttX9_passDay 50 rfl rfl) rfl ?_
                have b253 : -2147483648 ≤ (h.2 (c + 14) x101) ∧ (h.2 (c + 14) x101) ≤ 2147483647 := ab_9_12_1 s0 hc x101
                refine zj_iald (v := (h.2 (c + 14) x101)) (zdk ttX9_passDay 51 rfl rfl) (ka_9_12_1 s103 hc) (by decide) (by omega) (zfC_a f104 (fun z9 => by unfold w_X9_passDay at z9; first | (revert z9; decide) | omega)) ?_
                refine zj_iconst (zdk ttX9_passDay 52 rfl rfl) ?_
                refine zj_icmp_ne (t := 125) (zdk ttX9_passDay 53 rfl rfl) (by decide) (by omega) (by decide) (fun c254 => ?_) (fun c254 => ?_)
                · refine zj_aload_n (zdk ttX9_passDay 63 rfl rfl) rfl (by omega) ?_
                  refine zj_aload_n (zdk ttX9_passDay 64 rfl rfl) rfl (by omega) ?_
                  refine zj_getr (r := (c + 12)) (zdk ttX9_passDay 65 rfl rfl) zf_RX9_28 rfl (k_9_0 s103 hc) (rf_9_0_2 s103 hc) ?_
                  refine zj_getr (r := (c + 15)) (zdk ttX9_passDay 66 rfl rfl) zf_RX9_88 rfl (k_9_12 s103 hc) (rf_9_12_2 s103 hc) ?_
                  refine zj_iload_n (zdk ttX9_passDay 67 rfl rfl) rfl ?_
                  have b255 : -2147483648 ≤ (h.2 (c + 15) x101) ∧ (h.2 (c + 15) x101) ≤ 2147483647 := ab_9_12_2 s0 hc x101
                  refine zj_iald (v := (h.2 (c + 15) x101)) (zdk ttX9_passDay 68 rfl rfl) (ka_9_12_2 s103 hc) (by decide) (by omega) (zfC_a f104 (fun z9 => by unfold w_X9_passDay at z9; first | (revert z9; decide) | omega)) ?_
                  refine zj_iload_n (zdk ttX9_passDay 69 rfl rfl) rfl ?_
                  refine zj_callV (av := [.inl (h.2 (c + 15) x101), .inl p1]) (st := []) (zdk ttX9_passDay 70 rfl rfl) mb_X9_sailBack mv_RX9_99 (ci := 9) rfl rfl (k_9_0 s103 hc) rfl rfl (Nat.le_of_ble_eq_true rfl) (s_X9_sailBack l h102 c (h.2 (c + 15) x101) p1 s103 hc (by omega) (by omega)) (rm_ok (by decide) (by decide)) (zq_v fun h258 q256 => ?_)
                  obtain ⟨s260, f261⟩ := q256
                  refine zj_iinc (L' := [some (.inr c), some (.inl p1), some (.inl (x101 + 1))]) (zdk ttX9_passDay 71 rfl rfl) rfl (by decide) rfl ?_
                  refine zj_goto (t := 62) (zdk ttX9_passDay 72 rfl rfl) (by decide) ?_
                  have f262 : zfC (w_X9_passDay c) h h258 := zfC_t f104 f261 (fun a9 b9 z9 => by
                    rcases z9 with z9 | z9 | z9 | z9 | z9 | z9
                    · exact (Or.inl (by omega))
                    · exact (Or.inl (by omega))
                    · exact (Or.inl (by omega))
                    · exact (Or.inr (Or.inr (Or.inl (by omega))))
                    · exact (Or.inr (Or.inr (Or.inr (Or.inl (by omega)))))
                    · exact (Or.inr (Or.inr (Or.inr (Or.inr (by omega))))))
                  exact ih234  (x101 + 1) h258 (by omega) s260 f262 (by omega)
                · refine zj_aload_n (zdk ttX9_passDay 54 rfl rfl) rfl (by omega) ?_
                  refine zj_aload_n (zdk ttX9_passDay 55 rfl rfl) rfl (by omega) ?_
                  refine zj_getr (r := (c + 12)) (zdk ttX9_passDay 56 rfl rfl) zf_RX9_28 rfl (k_9_0 s103 hc) (rf_9_0_2 s103 hc) ?_
                  refine zj_getr (r := (c + 15)) (zdk ttX9_passDay 57 rfl rfl) zf_RX9_88 rfl (k_9_12 s103 hc) (rf_9_12_2 s103 hc) ?_
                  refine zj_iload_n (zdk ttX9_passDay 58 rfl rfl) rfl ?_
                  have b263 : -2147483648 ≤ (h.2 (c + 15) x101) ∧ (h.2 (c + 15) x101) ≤ 2147483647 := ab_9_12_2 s0 hc x101
                  refine zj_iald (v := (h.2 (c + 15) x101)) (zdk ttX9_passDay 59 rfl rfl) (ka_9_12_2 s103 hc) (by decide) (by omega) (zfC_a f104 (fun z9 => by unfold w_X9_passDay at z9; first | (revert z9; decide) | omega)) ?_
                  refine zj_iload_n (zdk ttX9_passDay 60 rfl rfl) rfl ?_
                  refine zj_callV (av := [.inl (h.2 (c + 15) x101), .inl p1]) (st := []) (zdk ttX9_passDay 61 rfl rfl) mb_X9_sailOut mv_RX9_95 (ci := 9) rfl rfl (k_9_0 s103 hc) rfl rfl (Nat.le_of_ble_eq_true rfl) (s_X9_sailOut l h102 c (h.2 (c + 15) x101) p1 s103 hc (by omega) (by omega)) (rm_ok (by decide) (by decide)) (zq_v fun h266 q264 => ?_)
                  obtain ⟨s268, f269⟩ := q264
                  refine zj_goto (t := 139) (zdk ttX9_passDay 62 rfl rfl) (by decide) ?_
                  refine zj_iinc (L' := [some (.inr c), some (.inl p1), some (.inl (x101 + 1))]) (zdk ttX9_passDay 71 rfl rfl) rfl (by decide) rfl ?_
                  refine zj_goto (t := 62) (zdk ttX9_passDay 72 rfl rfl) (by decide) ?_
                  have f270 : zfC (w_X9_passDay c) h h266 := zfC_t f104 f269 (fun a9 b9 z9 => by
                    rcases z9 with z9 | z9 | z9 | z9 | z9 | z9 | z9
                    · exact (Or.inl (by omega))
                    · exact (Or.inl (by omega))
                    · exact (Or.inl (by omega))
                    · exact (Or.inr (Or.inl (by omega)))
                    · exact (Or.inr (Or.inr (Or.inl (by omega))))
                    · exact (Or.inr (Or.inr (Or.inr (Or.inl (by omega)))))
                    · exact (Or.inr (Or.inr (Or.inr (Or.inr (by omega))))))
                  exact ih234  (x101 + 1) h266 (by omega) s268 f270 (by omega)
              · refine zj_goto (t := 139) (zdk ttX9_passDay 46 rfl rfl) (by decide) ?_
                refine zj_iinc (L' := [some (.inr c), some (.inl p1), some (.inl (x101 + 1))]) (zdk ttX9_passDay 71 rfl rfl) rfl (by decide) rfl ?_
                refine zj_goto (t := 62) (zdk ttX9_passDay 72 rfl rfl) (by decide) ?_
                exact ih234  (x101 + 1) h102 (by omega) s103 f104 (by omega)
        exact lp231 _ 0 h3 (by omega) s4 f5 (Nat.lt_succ_self _)
      · refine zj_aload_n (zdk ttX9_passDay 7 rfl rfl) rfl (by omega) ?_
        refine zj_getr (r := (c + 16)) (zdk ttX9_passDay 8 rfl rfl) zf_RX9_32 rfl (k_9_0 s4 hc) (rf_9_0_3 s4 hc) ?_
        refine zj_getr (r := (c + 17)) (zdk ttX9_passDay 9 rfl rfl) zf_RX9_79 rfl (k_9_16 s4 hc) (rf_9_16_0 s4 hc) ?_
        refine zj_iload_n (zdk ttX9_passDay 10 rfl rfl) rfl ?_
        have b271 : -2147483648 ≤ (h.2 (c + 17) x2) ∧ (h.2 (c + 17) x2) ≤ 2147483647 := ab_9_16_0 s0 hc x2
        refine zj_iald (v := (h.2 (c + 17) x2)) (zdk ttX9_passDay 11 rfl rfl) (ka_9_16_0 s4 hc) (by decide) (by omega) (zfC_a f5 (fun z9 => by unfold w_X9_passDay at z9; first | (revert z9; decide) | omega)) ?_
        refine zj_aload_n (zdk ttX9_passDay 12 rfl rfl) rfl (by omega) ?_
        refine zj_getr (r := (c + 1)) (zdk ttX9_passDay 13 rfl rfl) zf_RX9_12 rfl (k_9_0 s4 hc) (rf_9_0_0 s4 hc) ?_
        have b272 : -2147483648 ≤ (h3.2 (c + 1) 12) ∧ (h3.2 (c + 1) 12) ≤ 2147483647 := fb_9_1_12 s4 hc
        refine zj_geti (v := (h3.2 (c + 1) 12)) (zdk ttX9_passDay 14 rfl rfl) zf_RX9_83 rfl (k_9_1 s4 hc) rfl ?_
        refine zj_icmp_ne (t := 54) (zdk ttX9_passDay 15 rfl rfl) (by decide) (by omega) (by omega) (fun c273 => ?_) (fun c273 => ?_)
        · refine zj_iinc (L' := [some (.inr c), some (.inl p1), some (.inl (x2 + 1))]) (zdk ttX9_passDay 28 rfl rfl) rfl (by decide) rfl ?_
          refine zj_goto (t := 2) (zdk ttX9_passDay 29 rfl rfl) (by decide) ?_
          exact ih87  (x2 + 1) h3 (by omega) s4 f5 (by omega)
        · refine zj_aload_n (zdk ttX9_passDay 16 rfl rfl) rfl (by omega) ?_
          refine zj_aload_n (zdk ttX9_passDay 17 rfl rfl) rfl (by omega) ?_
          refine zj_getr (r := (c + 16)) (zdk ttX9_passDay 18 rfl rfl) zf_RX9_32 rfl (k_9_0 s4 hc) (rf_9_0_3 s4 hc) ?_
          refine zj_getr (r := (c + 18)) (zdk ttX9_passDay 19 rfl rfl) zf_RX9_85 rfl (k_9_16 s4 hc) (rf_9_16_1 s4 hc) ?_
          refine zj_iload_n (zdk ttX9_passDay 20 rfl rfl) rfl ?_
          have b274 : -2147483648 ≤ (h.2 (c + 18) x2) ∧ (h.2 (c + 18) x2) ≤ 2147483647 := ab_9_16_1 s0 hc x2
          refine zj_iald (v := (h.2 (c + 18) x2)) (zdk ttX9_passDay 21 rfl rfl) (ka_9_16_1 s4 hc) (by decide) (by omega) (zfC_a f5 (fun z9 => by unfold w_X9_passDay at z9; first | (revert z9; decide) | omega)) ?_
          refine zj_aload_n (zdk ttX9_passDay 22 rfl rfl) rfl (by omega) ?_
          refine zj_getr (r := (c + 16)) (zdk ttX9_passDay 23 rfl rfl) zf_RX9_32 rfl (k_9_0 s4 hc) (rf_9_0_3 s4 hc) ?_
          refine zj_getr (r := (c + 19)) (zdk ttX9_passDay 24 rfl rfl) zf_RX9_88 rfl (k_9_16 s4 hc) (rf_9_16_2 s4 hc) ?_
          refine zj_iload_n (zdk ttX9_passDay 25 rfl rfl) rfl ?_
          have b275 : -2147483648 ≤ (h.2 (c + 19) x2) ∧ (h.2 (c + 19) x2) ≤ 2147483647 := ab_9_16_2 s0 hc x2
          refine zj_iald (v := (h.2 (c + 19) x2)) (zdk ttX9_passDay 26 rfl rfl) (ka_9_16_2 s4 hc) (by decide) (by omega) (zfC_a f5 (fun z9 => by unfold w_X9_passDay at z9; first | (revert z9; decide) | omega)) ?_
          refine zj_callV (av := [.inl (h.2 (c + 18) x2), .inl (h.2 (c + 19) x2)]) (st := []) (zdk ttX9_passDay 27 rfl rfl) mb_X9_happen mv_RX9_91 (ci := 9) rfl rfl (k_9_0 s4 hc) rfl rfl (Nat.le_of_ble_eq_true rfl) (s_X9_happen l h3 c (h.2 (c + 18) x2) (h.2 (c + 19) x2) s4 hc (by omega) (by omega)) (rm_ok (by decide) (by decide)) (zq_v fun h278 q276 => ?_)
          obtain ⟨s280, f281⟩ := q276
          refine zj_iinc (L' := [some (.inr c), some (.inl p1), some (.inl (x2 + 1))]) (zdk ttX9_passDay 28 rfl rfl) rfl (by decide) rfl ?_
          refine zj_goto (t := 2) (zdk ttX9_passDay 29 rfl rfl) (by decide) ?_
          have f282 : zfC (w_X9_passDay c) h h278 := zfC_t f5 f281 (fun a9 b9 z9 => by
            rcases z9 with z9 | z9
            · exact (Or.inl (by omega))
            · exact (Or.inl (by omega)))
          exact ih87  (x2 + 1) h278 (by omega) s280 f282 (by omega)
  exact lp84 _ 0 h (by omega) s0 (zfC_r _ _) (Nat.lt_succ_self _)

abbrev tX9_copyFrom : List (Nat × Instr × Nat) := [(0, .aload_n 0, 1), (1, .getfield 12, 3), (4, .aload_n 1, 1), (5, .getfield 12, 3), (8, .invokevirtual 56, 3), (11, .aload_n 0, 1), (12, .getfield 21, 3), (15, .aload_n 1, 1), (16, .getfield 21, 3), (19, .invokevirtual 60, 3), (22, .aload_n 0, 1), (23, .getfield 28, 3), (26, .aload_n 1, 1), (27, .getfield 28, 3), (30, .invokevirtual 63, 3), (33, .aload_n 0, 1), (34, .getfield 32, 3), (37, .aload_n 1, 1), (38, .getfield 32, 3), (41, .invokevirtual 63, 3), (44, .aload_n 0, 1), (45, .getfield 38, 3), (48, .aload_n 1, 1), (49, .getfield 38, 3), (52, .invokevirtual 66, 3), (55, .aload_n 0, 1), (56, .getfield 45, 3), (59, .aload_n 1, 1), (60, .getfield 45, 3), (63, .invokevirtual 69, 3), (66, .aload_n 0, 1), (67, .getfield 52, 3), (70, .aload_n 1, 1), (71, .getfield 52, 3), (74, .invokevirtual 72, 3), (77, .return_, 1)]
theorem ttX9_copyFrom : zdt cX9_copyFrom tX9_copyFrom = true := by decide +kernel
abbrev w_X9_copyFrom (c a b : Int) : Prop := (a = c + 1 ∧ 3 ≤ b ∧ b ≤ 13) ∨ (c + 2 ≤ a ∧ a ≤ c + 4) ∨ (a = c + 5 ∧ 6 ≤ b ∧ b ≤ 7) ∨ (c + 6 ≤ a ∧ a ≤ c + 10) ∨ (a = c + 12 ∧ b = 3) ∨ (c + 13 ≤ a ∧ a ≤ c + 15) ∨ (a = c + 16 ∧ b = 3) ∨ (c + 17 ≤ a ∧ a ≤ c + 19) ∨ (a = c + 20 ∧ b = 1) ∨ a = c + 21 ∨ (a = c + 22 ∧ b = 4) ∨ (c + 23 ≤ a ∧ a ≤ c + 26) ∨ (a = c + 27 ∧ b = 2) ∨ (a = c + 27 ∧ b = 4) ∨ (a = c + 27 ∧ b = 6) ∨ (a = c + 27 ∧ b = 9) ∨ (c + 28 ≤ a ∧ a ≤ c + 33)
abbrev q_X9_copyFrom (h : zM) (c : Int) (p1 : Int) : Option zV → zM → Prop := zqv fun h' => okC h' ∧ zfC (w_X9_copyFrom c) h h' ∧ (h'.2 (c + 27) 2 = h.2 (p1 + 27) 2) ∧ (h'.2 (c + 27) 4 = h.2 (p1 + 27) 4) ∧ (h'.2 (c + 27) 6 = h.2 (p1 + 27) 6) ∧ (h'.2 (c + 27) 9 = h.2 (p1 + 27) 9) ∧ (h'.2 (c + 1) 3 = h.2 (p1 + 1) 3)
set_option maxRecDepth 100000 in
set_option maxHeartbeats 4000000 in
theorem s_X9_copyFrom (l : Launch) (h : zM) (c : Int) (p1 : Int) (s0 : okC h) (hc : zWd c) (r_p1 : zWd p1) : zT shC l yX9_copyFrom cX9_copyFrom 2 none (rmL 2) 0 0 [.inr c, .inr p1] h (q_X9_copyFrom h c p1) := by
  refine zT_of (by decide +kernel) (L0 := [some (.inr c), some (.inr p1)]) rfl (Nat.le_of_ble_eq_true rfl) ?_
  have b1 := zWd_b hc
  have b2 := zWd_b r_p1
  have sep9 := zWd_sep hc r_p1
  refine zj_aload_n (zdk ttX9_copyFrom 0 rfl rfl) rfl (by omega) ?_
  refine zj_getr (r := (c + 1)) (zdk ttX9_copyFrom 1 rfl rfl) zf_RX9_12 rfl (k_9_0 s0 hc) (rf_9_0_0 s0 hc) ?_
  refine zj_aload_n (zdk ttX9_copyFrom 2 rfl rfl) rfl (by omega) ?_
  refine zj_getr (r := (p1 + 1)) (zdk ttX9_copyFrom 3 rfl rfl) zf_RX9_12 rfl (k_9_0 s0 r_p1) (rf_9_0_0 s0 r_p1) ?_
  refine zj_callV (av := [.inr (p1 + 1)]) (st := []) (zdk ttX9_copyFrom 4 rfl rfl) mb_X1_copyFrom mv_RX9_56 (ci := 1) rfl rfl (k_9_1 s0 hc) rfl rfl (Nat.le_of_ble_eq_true rfl) (s_X1_copyFrom l h (c + 1) (p1 + 1) s0 (zs_9_1 hc) (zs_9_1 r_p1)) (rm_ok (by decide) (by decide)) (zq_v fun h5 q3 => ?_)
  obtain ⟨s7, f9, u8⟩ := q3
  refine zj_aload_n (zdk ttX9_copyFrom 5 rfl rfl) rfl (by omega) ?_
  refine zj_getr (r := (c + 5)) (zdk ttX9_copyFrom 6 rfl rfl) zf_RX9_21 rfl (k_9_0 s7 hc) (rf_9_0_1 s7 hc) ?_
  refine zj_aload_n (zdk ttX9_copyFrom 7 rfl rfl) rfl (by omega) ?_
  refine zj_getr (r := (p1 + 5)) (zdk ttX9_copyFrom 8 rfl rfl) zf_RX9_21 rfl (k_9_0 s7 r_p1) (rf_9_0_1 s7 r_p1) ?_
  refine zj_callV (av := [.inr (p1 + 5)]) (st := []) (zdk ttX9_copyFrom 9 rfl rfl) mb_X3_copyFrom mv_RX9_60 (ci := 3) rfl rfl (k_9_5 s7 hc) rfl rfl (Nat.le_of_ble_eq_true rfl) (s_X3_copyFrom l h5 (c + 5) (p1 + 5) s7 (zs_9_5 hc) (zs_9_5 r_p1)) (rm_ok (by decide) (by decide)) (zq_v fun h12 q10 => ?_)
  obtain ⟨s14, f15⟩ := q10
  refine zj_aload_n (zdk ttX9_copyFrom 10 rfl rfl) rfl (by omega) ?_
  refine zj_getr (r := (c + 12)) (zdk ttX9_copyFrom 11 rfl rfl) zf_RX9_28 rfl (k_9_0 s14 hc) (rf_9_0_2 s14 hc) ?_
  refine zj_aload_n (zdk ttX9_copyFrom 12 rfl rfl) rfl (by omega) ?_
  refine zj_getr (r := (p1 + 12)) (zdk ttX9_copyFrom 13 rfl rfl) zf_RX9_28 rfl (k_9_0 s14 r_p1) (rf_9_0_2 s14 r_p1) ?_
  refine zj_callV (av := [.inr (p1 + 12)]) (st := []) (zdk ttX9_copyFrom 14 rfl rfl) mb_X4_copyFrom mv_RX9_63 (ci := 4) rfl rfl (k_9_12 s14 hc) rfl rfl (Nat.le_of_ble_eq_true rfl) (s_X4_copyFrom l h12 (c + 12) (p1 + 12) s14 (zs_9_12 hc) (zs_9_12 r_p1)) (rm_ok (by decide) (by decide)) (zq_v fun h18 q16 => ?_)
  obtain ⟨s20, f21⟩ := q16
  refine zj_aload_n (zdk ttX9_copyFrom 15 rfl rfl) rfl (by omega) ?_
  refine zj_getr (r := (c + 16)) (zdk ttX9_copyFrom 16 rfl rfl) zf_RX9_32 rfl (k_9_0 s20 hc) (rf_9_0_3 s20 hc) ?_
  refine zj_aload_n (zdk ttX9_copyFrom 17 rfl rfl) rfl (by omega) ?_
  refine zj_getr (r := (p1 + 16)) (zdk ttX9_copyFrom 18 rfl rfl) zf_RX9_32 rfl (k_9_0 s20 r_p1) (rf_9_0_3 s20 r_p1) ?_
  refine zj_callV (av := [.inr (p1 + 16)]) (st := []) (zdk ttX9_copyFrom 19 rfl rfl) mb_X4_copyFrom mv_RX9_63 (ci := 4) rfl rfl (k_9_16 s20 hc) rfl rfl (Nat.le_of_ble_eq_true rfl) (s_X4_copyFrom l h18 (c + 16) (p1 + 16) s20 (zs_9_16 hc) (zs_9_16 r_p1)) (rm_ok (by decide) (by decide)) (zq_v fun h24 q22 => ?_)
  obtain ⟨s26, f27⟩ := q22
  refine zj_aload_n (zdk ttX9_copyFrom 20 rfl rfl) rfl (by omega) ?_
  refine zj_getr (r := (c + 20)) (zdk ttX9_copyFrom 21 rfl rfl) zf_RX9_38 rfl (k_9_0 s26 hc) (rf_9_0_4 s26 hc) ?_
  refine zj_aload_n (zdk ttX9_copyFrom 22 rfl rfl) rfl (by omega) ?_
  refine zj_getr (r := (p1 + 20)) (zdk ttX9_copyFrom 23 rfl rfl) zf_RX9_38 rfl (k_9_0 s26 r_p1) (rf_9_0_4 s26 r_p1) ?_
  refine zj_callV (av := [.inr (p1 + 20)]) (st := []) (zdk ttX9_copyFrom 24 rfl rfl) mb_X2_copyFrom mv_RX9_66 (ci := 2) rfl rfl (k_9_20 s26 hc) rfl rfl (Nat.le_of_ble_eq_true rfl) (s_X2_copyFrom l h24 (c + 20) (p1 + 20) s26 (zs_9_20 hc) (zs_9_20 r_p1)) (rm_ok (by decide) (by decide)) (zq_v fun h30 q28 => ?_)
  obtain ⟨s32, f33⟩ := q28
  refine zj_aload_n (zdk ttX9_copyFrom 25 rfl rfl) rfl (by omega) ?_
  refine zj_getr (r := (c + 22)) (zdk ttX9_copyFrom 26 rfl rfl) zf_RX9_45 rfl (k_9_0 s32 hc) (rf_9_0_5 s32 hc) ?_
  refine zj_aload_n (zdk ttX9_copyFrom 27 rfl rfl) rfl (by omega) ?_
  refine zj_getr (r := (p1 + 22)) (zdk ttX9_copyFrom 28 rfl rfl) zf_RX9_45 rfl (k_9_0 s32 r_p1) (rf_9_0_5 s32 r_p1) ?_
  refine zj_callV (av := [.inr (p1 + 22)]) (st := []) (zdk ttX9_copyFrom 29 rfl rfl) mb_X0_copyFrom mv_RX9_69 (ci := 0) rfl rfl (k_9_22 s32 hc) rfl rfl (Nat.le_of_ble_eq_true rfl) (s_X0_copyFrom l h30 (c + 22) (p1 + 22) s32 (zs_9_22 hc) (zs_9_22 r_p1)) (rm_ok (by decide) (by decide)) (zq_v fun h36 q34 => ?_)
  obtain ⟨s38, f39⟩ := q34
  refine zj_aload_n (zdk ttX9_copyFrom 30 rfl rfl) rfl (by omega) ?_
  refine zj_getr (r := (c + 27)) (zdk ttX9_copyFrom 31 rfl rfl) zf_RX9_52 rfl (k_9_0 s38 hc) (rf_9_0_6 s38 hc) ?_
  refine zj_aload_n (zdk ttX9_copyFrom 32 rfl rfl) rfl (by omega) ?_
  refine zj_getr (r := (p1 + 27)) (zdk ttX9_copyFrom 33 rfl rfl) zf_RX9_52 rfl (k_9_0 s38 r_p1) (rf_9_0_6 s38 r_p1) ?_
  refine zj_callV (av := [.inr (p1 + 27)]) (st := []) (zdk ttX9_copyFrom 34 rfl rfl) mb_X5_copyFrom mv_RX9_72 (ci := 5) rfl rfl (k_9_27 s38 hc) rfl rfl (Nat.le_of_ble_eq_true rfl) (s_X5_copyFrom l h36 (c + 27) (p1 + 27) s38 (zs_9_27 hc) (zs_9_27 r_p1)) (rm_ok (by decide) (by decide)) (zq_v fun h42 q40 => ?_)
  obtain ⟨s44, f49, u45, u46, u47, u48⟩ := q40
  have f56 : zfC (w_X9_copyFrom c) h h5 := zfC_t (zfC_r _ _) f9 (fun a9 b9 z9 => by
    rcases z9 with z9 | z9
    · exact (Or.inl (by omega))
    · exact (Or.inr (Or.inl (by omega))))
  have f55 : zfC (w_X9_copyFrom c) h h12 := zfC_t f56 f15 (fun a9 b9 z9 => by
    rcases z9 with z9 | z9
    · exact (Or.inr (Or.inr (Or.inl (by omega))))
    · exact (Or.inr (Or.inr (Or.inr (Or.inl (by omega))))))
  have f54 : zfC (w_X9_copyFrom c) h h18 := zfC_t f55 f21 (fun a9 b9 z9 => by
    rcases z9 with z9 | z9
    · exact (Or.inr (Or.inr (Or.inr (Or.inr (Or.inl (by omega))))))
    · exact (Or.inr (Or.inr (Or.inr (Or.inr (Or.inr (Or.inl (by omega))))))))
  have f53 : zfC (w_X9_copyFrom c) h h24 := zfC_t f54 f27 (fun a9 b9 z9 => by
    rcases z9 with z9 | z9
    · exact (Or.inr (Or.inr (Or.inr (Or.inr (Or.inr (Or.inr (Or.inl (by omega))))))))
    · exact (Or.inr (Or.inr (Or.inr (Or.inr (Or.inr (Or.inr (Or.inr (Or.inl (by omega))))))))))
  have f52 : zfC (w_X9_copyFrom c) h h30 := zfC_t f53 f33 (fun a9 b9 z9 => by
    rcases z9 with z9 | z9
    · exact (Or.inr (Or.inr (Or.inr (Or.inr (Or.inr (Or.inr (Or.inr (Or.inr (Or.inl (by omega))))))))))
    · exact (Or.inr (Or.inr (Or.inr (Or.inr (Or.inr (Or.inr (Or.inr (Or.inr (Or.inr (Or.inl (by omega))))))))))))
  have f51 : zfC (w_X9_copyFrom c) h h36 := zfC_t f52 f39 (fun a9 b9 z9 => by
    rcases z9 with z9 | z9
    · exact (Or.inr (Or.inr (Or.inr (Or.inr (Or.inr (Or.inr (Or.inr (Or.inr (Or.inr (Or.inr (Or.inl (by omega))))))))))))
    · exact (Or.inr (Or.inr (Or.inr (Or.inr (Or.inr (Or.inr (Or.inr (Or.inr (Or.inr (Or.inr (Or.inr (Or.inl (by omega))))))))))))))
  have f50 : zfC (w_X9_copyFrom c) h h42 := zfC_t f51 f49 (fun a9 b9 z9 => by
    rcases z9 with z9 | z9 | z9 | z9 | z9
    · exact (Or.inr (Or.inr (Or.inr (Or.inr (Or.inr (Or.inr (Or.inr (Or.inr (Or.inr (Or.inr (Or.inr (Or.inr (Or.inl (by omega))))))))))))))
    · exact (Or.inr (Or.inr (Or.inr (Or.inr (Or.inr (Or.inr (Or.inr (Or.inr (Or.inr (Or.inr (Or.inr (Or.inr (Or.inr (Or.inl (by omega)))))))))))))))
    · exact (Or.inr (Or.inr (Or.inr (Or.inr (Or.inr (Or.inr (Or.inr (Or.inr (Or.inr (Or.inr (Or.inr (Or.inr (Or.inr (Or.inr (Or.inl (by omega))))))))))))))))
    · exact (Or.inr (Or.inr (Or.inr (Or.inr (Or.inr (Or.inr (Or.inr (Or.inr (Or.inr (Or.inr (Or.inr (Or.inr (Or.inr (Or.inr (Or.inr (Or.inl (by omega)))))))))))))))))
    · exact (Or.inr (Or.inr (Or.inr (Or.inr (Or.inr (Or.inr (Or.inr (Or.inr (Or.inr (Or.inr (Or.inr (Or.inr (Or.inr (Or.inr (Or.inr (Or.inr (by omega))))))))))))))))))
  have b57 : h36.2 (p1 + 27) 2 = (h.2 (p1 + 27) 2) := ((((((zfC_a f39 (fun z9 => by unfold w_X0_copyFrom at z9; first | (revert z9; decide) | omega)).trans (zfC_a f33 (fun z9 => by unfold w_X2_copyFrom at z9; first | (revert z9; decide) | omega))).trans (zfC_a f27 (fun z9 => by unfold w_X4_copyFrom at z9; first | (revert z9; decide) | omega))).trans (zfC_a f21 (fun z9 => by unfold w_X4_copyFrom at z9; first | (revert z9; decide) | omega))).trans (zfC_a f15 (fun z9 => by unfold w_X3_copyFrom at z9; first | (revert z9; decide) | omega))).trans (zfC_a f9 (fun z9 => by unfold w_X1_copyFrom at z9; first | (revert z9; decide) | omega)))
  have b58 : h36.2 (p1 + 27) 4 = (h.2 (p1 + 27) 4) := ((((((zfC_a f39 (fun z9 => by unfold w_X0_copyFrom at z9; first | (revert z9; decide) | omega)).trans (zfC_a f33 (fun z9 => by unfold w_X2_copyFrom at z9; first | (revert z9; decide) | omega))).trans (zfC_a f27 (fun z9 => by unfold w_X4_copyFrom at z9; first | (revert z9; decide) | omega))).trans (zfC_a f21 (fun z9 => by unfold w_X4_copyFrom at z9; first | (revert z9; decide) | omega))).trans (zfC_a f15 (fun z9 => by unfold w_X3_copyFrom at z9; first | (revert z9; decide) | omega))).trans (zfC_a f9 (fun z9 => by unfold w_X1_copyFrom at z9; first | (revert z9; decide) | omega)))
  have b59 : h36.2 (p1 + 27) 6 = (h.2 (p1 + 27) 6) := ((((((zfC_a f39 (fun z9 => by unfold w_X0_copyFrom at z9; first | (revert z9; decide) | omega)).trans (zfC_a f33 (fun z9 => by unfold w_X2_copyFrom at z9; first | (revert z9; decide) | omega))).trans (zfC_a f27 (fun z9 => by unfold w_X4_copyFrom at z9; first | (revert z9; decide) | omega))).trans (zfC_a f21 (fun z9 => by unfold w_X4_copyFrom at z9; first | (revert z9; decide) | omega))).trans (zfC_a f15 (fun z9 => by unfold w_X3_copyFrom at z9; first | (revert z9; decide) | omega))).trans (zfC_a f9 (fun z9 => by unfold w_X1_copyFrom at z9; first | (revert z9; decide) | omega)))
  have b60 : h36.2 (p1 + 27) 9 = (h.2 (p1 + 27) 9) := ((((((zfC_a f39 (fun z9 => by unfold w_X0_copyFrom at z9; first | (revert z9; decide) | omega)).trans (zfC_a f33 (fun z9 => by unfold w_X2_copyFrom at z9; first | (revert z9; decide) | omega))).trans (zfC_a f27 (fun z9 => by unfold w_X4_copyFrom at z9; first | (revert z9; decide) | omega))).trans (zfC_a f21 (fun z9 => by unfold w_X4_copyFrom at z9; first | (revert z9; decide) | omega))).trans (zfC_a f15 (fun z9 => by unfold w_X3_copyFrom at z9; first | (revert z9; decide) | omega))).trans (zfC_a f9 (fun z9 => by unfold w_X1_copyFrom at z9; first | (revert z9; decide) | omega)))
  have b61 : h42.2 (c + 1) 3 = (h5.2 (c + 1) 3) := ((((((zfC_a f49 (fun z9 => by unfold w_X5_copyFrom at z9; first | (revert z9; decide) | omega)).trans (zfC_a f39 (fun z9 => by unfold w_X0_copyFrom at z9; first | (revert z9; decide) | omega))).trans (zfC_a f33 (fun z9 => by unfold w_X2_copyFrom at z9; first | (revert z9; decide) | omega))).trans (zfC_a f27 (fun z9 => by unfold w_X4_copyFrom at z9; first | (revert z9; decide) | omega))).trans (zfC_a f21 (fun z9 => by unfold w_X4_copyFrom at z9; first | (revert z9; decide) | omega))).trans (zfC_a f15 (fun z9 => by unfold w_X3_copyFrom at z9; first | (revert z9; decide) | omega)))
  exact zj_vret rfl (zdk ttX9_copyFrom 35 rfl rfl) (Nat.le_refl _) (Nat.le_refl _) ⟨rfl, s44, f50, by omega, by omega, by omega, by omega, by omega⟩

abbrev tX6_putFour : List (Nat × Instr × Nat) := [(0, .bipush 24, 2), (2, .istore_n 2, 1), (3, .iload_n 2, 1), (4, .ifCond .lt 42, 3), (7, .aload_n 0, 1), (8, .getfield 21, 3), (11, .sipush 400, 3), (14, .if_icmp .ge 32, 3), (17, .aload_n 0, 1), (18, .getfield 11, 3), (21, .aload_n 0, 1), (22, .dup, 1), (23, .getfield 21, 3), (26, .dup_x1, 1), (27, .iconst 1, 1), (28, .iadd, 1), (29, .putfield 21, 3), (32, .iload_n 1, 1), (33, .iload_n 2, 1), (34, .iushr, 1), (35, .sipush 255, 3), (38, .iand, 1), (39, .iastore, 1), (40, .iinc 2 (-8), 3), (43, .goto (-40), 3), (46, .return_, 1)]
theorem ttX6_putFour : zdt cX6_putFour tX6_putFour = true := by decide +kernel
abbrev w_X6_putFour (a b : Int) : Prop := (a = 103 ∧ b = 3) ∨ a = 104
abbrev q_X6_putFour (h : zM) (p1 : Int) : Option zV → zM → Prop := zqv fun h' => okC h' ∧ zfC w_X6_putFour h h' ∧ (h.2 103 3 ≤ 396 → h'.2 103 3 = h.2 103 3 + 4)
set_option maxRecDepth 100000 in
set_option maxHeartbeats 4000000 in
theorem s_X6_putFour (l : Launch) (h : zM) (p1 : Int) (s0 : okC h) (b_p1 : (-2147483648) ≤ p1 ∧ p1 ≤ 2147483647) : zT shC l yX6_putFour cX6_putFour 3 none (rmL 1) 0 0 [.inr 103, .inl p1] h (q_X6_putFour h p1) := by
  refine zT_of (by decide +kernel) (L0 := [some (.inr 103), some (.inl p1), none]) rfl (Nat.le_of_ble_eq_true rfl) ?_
  refine zj_bipush (zdk ttX6_putFour 0 rfl rfl) (by decide) ?_
  refine zj_istore_n (L' := [some (.inr 103), some (.inl p1), some (.inl 24)]) (zdk ttX6_putFour 1 rfl rfl) (by decide) rfl ?_
  have lp15 : ∀ (n : Nat) (x1 : Int) (h2 : zM), (-8 ≤ x1 ∧ x1 ≤ 24) → okC h2 → zfC w_X6_putFour h h2 → (h.2 103 3 ≤ 396 → (h2.2 103 3) * 8 + x1 = h.2 103 3 * 8 + 24) → ((x1 = 24 ∨ x1 = 16 ∨ x1 = 8 ∨ x1 = 0 ∨ x1 = -8)) → (x1 + 8).toNat < n → zJ shC l yX6_putFour cX6_putFour 3 none (rmL 1) 0 0 (q_X6_putFour h p1) 0 0 3 [some (.inr 103), some (.inl p1), some (.inl x1)] [] h2 := by
    intro n
    induction n with
    | zero => intro x1 h2 b16 s3 f4 u17 u18 m19; exact absurd m19 (Nat.not_lt_zero _)
    | succ n ih20 =>
      intro x1 h2 b16 s3 f4 u17 u18 m19
      refine zj_iload_n (zdk ttX6_putFour 2 rfl rfl) rfl ?_
      refine zj_if_lt (t := 46) (zdk ttX6_putFour 3 rfl rfl) (by decide) (by omega) (fun c21 => ?_) (fun c21 => ?_)
      · exact zj_vret rfl (zdk ttX6_putFour 25 rfl rfl) (Nat.le_refl _) (Nat.le_refl _) ⟨rfl, s3, f4, by omega⟩
      · refine zj_aload_n (zdk ttX6_putFour 4 rfl rfl) rfl (by decide) ?_
        have b22 : 0 ≤ (h2.2 103 3) ∧ (h2.2 103 3) ≤ 400 := fb_L103_3 s3
        refine zj_geti (v := (h2.2 103 3)) (zdk ttX6_putFour 5 rfl rfl) zf_RX6_21 rfl (k_L103 s3) rfl ?_
        refine zj_sipush (zdk ttX6_putFour 6 rfl rfl) (by decide) ?_
        refine zj_icmp_ge (t := 46) (zdk ttX6_putFour 7 rfl rfl) (by decide) (by omega) (by decide) (fun c23 => ?_) (fun c23 => ?_)
        · exact zj_vret rfl (zdk ttX6_putFour 25 rfl rfl) (Nat.le_refl _) (Nat.le_refl _) ⟨rfl, s3, f4, by omega⟩
        · refine zj_aload_n (zdk ttX6_putFour 8 rfl rfl) rfl (by decide) ?_
          refine zj_getr (r := 104) (zdk ttX6_putFour 9 rfl rfl) zf_RX6_11 rfl (k_L103 s3) (rf_L103_0 s3) ?_
          refine zj_aload_n (zdk ttX6_putFour 10 rfl rfl) rfl (by decide) ?_
          refine zj_dup (zdk ttX6_putFour 11 rfl rfl) ?_
          refine zj_geti (v := (h2.2 103 3)) (zdk ttX6_putFour 12 rfl rfl) zf_RX6_21 rfl (k_L103 s3) rfl ?_
          refine zj_dup_x1 (zdk ttX6_putFour 13 rfl rfl) ?_
          refine zj_iconst (zdk ttX6_putFour 14 rfl rfl) ?_
          refine zj_iadd (zdk ttX6_putFour 15 rfl rfl) ?_
          refine zj_puti (zdk ttX6_putFour 16 rfl rfl) zf_RX6_21 rfl (k_L103 s3) (Or.inl zw_RX6_21) (k2 := 3) rfl (fun h24 e25 => ?_)
          refine zj_iload_n (zdk ttX6_putFour 17 rfl rfl) rfl ?_
          refine zj_iload_n (zdk ttX6_putFour 18 rfl rfl) rfl ?_
          refine zj_iushr (zdk ttX6_putFour 19 rfl rfl) ?_
          have b26 := zushr_in p1 x1
          refine zj_sipush (zdk ttX6_putFour 20 rfl rfl) (by decide) ?_
          refine zj_iand (zdk ttX6_putFour 21 rfl rfl) ?_
          have b27 := zand_m (d := 256) 8 (by decide) (c := 255) (by decide) (by decide) (zushr p1 x1)
          have s28 : okC h24 := fw_L103_3 s3 e25 (by omega)
          refine zj_iast (zdk ttX6_putFour 22 rfl rfl) (ka_L103_0 s28) (by decide) (by omega) (fun h29 e30 => ?_)
          refine zj_iinc (L' := [some (.inr 103), some (.inl p1), some (.inl (x1 + (-8)))]) (zdk ttX6_putFour 23 rfl rfl) rfl (by decide) rfl ?_
          refine zj_goto (t := 3) (zdk ttX6_putFour 24 rfl rfl) (by decide) ?_
          have b31 : h29.2 103 3 = ((h2.2 103 3) + 1) := ((zwr_r e30 (by first | decide | exact (absurd ·.1 (by decide)) | exact (absurd ·.2 (by decide)) | omega)).trans (zwr_v e25))
          have s32 : okC h29 := aw_L103_0 s28 e30 (by omega)
          have f34 : zfC w_X6_putFour h h24 := zfC_w f4 e25 (Or.inl (by omega))
          have f33 : zfC w_X6_putFour h h29 := zfC_w f34 e30 (Or.inr (by omega))
          exact ih20  (x1 + (-8)) h29 (by omega) s32 f33 (by omega) (by omega) (by omega)
  exact lp15 _ 24 h (by omega) s0 (zfC_r _ _) (by omega) (by omega) (Nat.lt_succ_self _)

abbrev tX6_rewind : List (Nat × Instr × Nat) := [(0, .aload_n 0, 1), (1, .iconst 0, 1), (2, .putfield 34, 3), (5, .aload_n 0, 1), (6, .iconst (-1), 1), (7, .putfield 37, 3), (10, .return_, 1)]
theorem ttX6_rewind : zdt cX6_rewind tX6_rewind = true := by decide +kernel
abbrev w_X6_rewind (a b : Int) : Prop := (a = 103 ∧ 7 ≤ b ∧ b ≤ 8)
abbrev q_X6_rewind (h : zM) : Option zV → zM → Prop := zqv fun h' => okC h' ∧ zfC w_X6_rewind h h'
set_option maxRecDepth 100000 in
set_option maxHeartbeats 4000000 in
theorem s_X6_rewind (l : Launch) (h : zM) (s0 : okC h) : zT shC l yX6_rewind cX6_rewind 1 none (rmL 1) 0 0 [.inr 103] h (q_X6_rewind h) := by
  refine zT_of (by decide +kernel) (L0 := [some (.inr 103)]) rfl (Nat.le_of_ble_eq_true rfl) ?_
  refine zj_aload_n (zdk ttX6_rewind 0 rfl rfl) rfl (by decide) ?_
  refine zj_iconst (zdk ttX6_rewind 1 rfl rfl) ?_
  refine zj_puti (zdk ttX6_rewind 2 rfl rfl) zf_RX6_34 rfl (k_L103 s0) (Or.inl zw_RX6_34) (k2 := 7) rfl (fun h1 e2 => ?_)
  refine zj_aload_n (zdk ttX6_rewind 3 rfl rfl) rfl (by decide) ?_
  refine zj_iconst (zdk ttX6_rewind 4 rfl rfl) ?_
  have s3 : okC h1 := fw_L103_7 s0 e2 (by omega)
  refine zj_puti (zdk ttX6_rewind 5 rfl rfl) zf_RX6_37 rfl (k_L103 s3) (Or.inl zw_RX6_37) (k2 := 8) rfl (fun h4 e5 => ?_)
  have s6 : okC h4 := fw_L103_8 s3 e5 (by omega)
  have f8 : zfC w_X6_rewind h h1 := zfC_w (zfC_r _ _) e2 (by omega)
  have f7 : zfC w_X6_rewind h h4 := zfC_w f8 e5 (by omega)
  exact zj_vret rfl (zdk ttX6_rewind 6 rfl rfl) (Nat.le_refl _) (Nat.le_refl _) ⟨rfl, s6, f7⟩

abbrev tX6_putToken : List (Nat × Instr × Nat) := [(0, .aload_n 0, 1), (1, .getfield 25, 3), (4, .sipush 400, 3), (7, .if_icmp .gt 33, 3), (10, .aload_n 0, 1), (11, .getfield 15, 3), (14, .aload_n 0, 1), (15, .getfield 25, 3), (18, .iload_n 1, 1), (19, .iastore, 1), (20, .aload_n 0, 1), (21, .getfield 18, 3), (24, .aload_n 0, 1), (25, .getfield 25, 3), (28, .iload_n 2, 1), (29, .iastore, 1), (30, .aload_n 0, 1), (31, .dup, 1), (32, .getfield 25, 3), (35, .iconst 1, 1), (36, .iadd, 1), (37, .putfield 25, 3), (40, .return_, 1)]
theorem ttX6_putToken : zdt cX6_putToken tX6_putToken = true := by decide +kernel
abbrev w_X6_putToken (a b : Int) : Prop := (a = 103 ∧ b = 4) ∨ (105 ≤ a ∧ a ≤ 106)
abbrev q_X6_putToken (h : zM) (p1 : Int) (p2 : Int) : Option zV → zM → Prop := zqv fun h' => okC h' ∧ zfC w_X6_putToken h h'
set_option maxRecDepth 100000 in
set_option maxHeartbeats 4000000 in
theorem s_X6_putToken (l : Launch) (h : zM) (p1 : Int) (p2 : Int) (s0 : okC h) (b_p1 : (-2147483648) ≤ p1 ∧ p1 ≤ 2147483647) (b_p2 : (-2147483648) ≤ p2 ∧ p2 ≤ 2147483647) : zT shC l yX6_putToken cX6_putToken 3 none (rmL 1) 0 0 [.inr 103, .inl p1, .inl p2] h (q_X6_putToken h p1 p2) := by
  refine zT_of (by decide +kernel) (L0 := [some (.inr 103), some (.inl p1), some (.inl p2)]) rfl (Nat.le_of_ble_eq_true rfl) ?_
  refine zj_aload_n (zdk ttX6_putToken 0 rfl rfl) rfl (by decide) ?_
  have b1 : 0 ≤ (h.2 103 4) ∧ (h.2 103 4) ≤ 401 := fb_L103_4 s0
  refine zj_geti (v := (h.2 103 4)) (zdk ttX6_putToken 1 rfl rfl) zf_RX6_25 rfl (k_L103 s0) rfl ?_
  refine zj_sipush (zdk ttX6_putToken 2 rfl rfl) (by decide) ?_
  refine zj_icmp_gt (t := 40) (zdk ttX6_putToken 3 rfl rfl) (by decide) (by omega) (by decide) (fun c2 => ?_) (fun c2 => ?_)
  · exact zj_vret rfl (zdk ttX6_putToken 22 rfl rfl) (Nat.le_refl _) (Nat.le_refl _) ⟨rfl, s0, (zfC_r _ _)⟩
  · refine zj_aload_n (zdk ttX6_putToken 4 rfl rfl) rfl (by decide) ?_
    refine zj_getr (r := 105) (zdk ttX6_putToken 5 rfl rfl) zf_RX6_15 rfl (k_L103 s0) (rf_L103_1 s0) ?_
    refine zj_aload_n (zdk ttX6_putToken 6 rfl rfl) rfl (by decide) ?_
    refine zj_geti (v := (h.2 103 4)) (zdk ttX6_putToken 7 rfl rfl) zf_RX6_25 rfl (k_L103 s0) rfl ?_
    refine zj_iload_n (zdk ttX6_putToken 8 rfl rfl) rfl ?_
    refine zj_iast (zdk ttX6_putToken 9 rfl rfl) (ka_L103_1 s0) (by decide) (by omega) (fun h3 e4 => ?_)
    refine zj_aload_n (zdk ttX6_putToken 10 rfl rfl) rfl (by decide) ?_
    have s5 : okC h3 := aw_L103_1 s0 e4 (by omega)
    refine zj_getr (r := 106) (zdk ttX6_putToken 11 rfl rfl) zf_RX6_18 rfl (k_L103 s5) (rf_L103_2 s5) ?_
    refine zj_aload_n (zdk ttX6_putToken 12 rfl rfl) rfl (by decide) ?_
    refine zj_geti (v := (h.2 103 4)) (zdk ttX6_putToken 13 rfl rfl) zf_RX6_25 rfl (k_L103 s5) (zwr_r e4 (by first | decide | exact (absurd ·.1 (by decide)) | exact (absurd ·.2 (by decide)) | omega)) ?_
    refine zj_iload_n (zdk ttX6_putToken 14 rfl rfl) rfl ?_
    refine zj_iast (zdk ttX6_putToken 15 rfl rfl) (ka_L103_2 s5) (by decide) (by omega) (fun h6 e7 => ?_)
    refine zj_aload_n (zdk ttX6_putToken 16 rfl rfl) rfl (by decide) ?_
    refine zj_dup (zdk ttX6_putToken 17 rfl rfl) ?_
    have s8 : okC h6 := aw_L103_2 s5 e7 (by omega)
    refine zj_geti (v := (h.2 103 4)) (zdk ttX6_putToken 18 rfl rfl) zf_RX6_25 rfl (k_L103 s8) ((zwr_r e7 (by first | decide | exact (absurd ·.1 (by decide)) | exact (absurd ·.2 (by decide)) | omega)).trans (zwr_r e4 (by first | decide | exact (absurd ·.1 (by decide)) | exact (absurd ·.2 (by decide)) | omega))) ?_
    refine zj_iconst (zdk ttX6_putToken 19 rfl rfl) ?_
    refine zj_iadd (zdk ttX6_putToken 20 rfl rfl) ?_
    refine zj_puti (zdk ttX6_putToken 21 rfl rfl) zf_RX6_25 rfl (k_L103 s8) (Or.inl zw_RX6_25) (k2 := 4) rfl (fun h9 e10 => ?_)
    have s11 : okC h9 := fw_L103_4 s8 e10 (by omega)
    have f14 : zfC w_X6_putToken h h3 := zfC_w (zfC_r _ _) e4 (Or.inr (by omega))
    have f13 : zfC w_X6_putToken h h6 := zfC_w f14 e7 (Or.inr (by omega))
    have f12 : zfC w_X6_putToken h h9 := zfC_w f13 e10 (Or.inl (by omega))
    exact zj_vret rfl (zdk ttX6_putToken 22 rfl rfl) (Nat.le_refl _) (Nat.le_refl _) ⟨rfl, s11, f12⟩

abbrev tX6_isLetter : List (Nat × Instr × Nat) := [(0, .iload_n 0, 1), (1, .bipush 97, 2), (3, .if_icmp .lt 9, 3), (6, .iload_n 0, 1), (7, .bipush 122, 2), (9, .if_icmp .le 15, 3), (12, .iload_n 0, 1), (13, .bipush 65, 2), (15, .if_icmp .lt 13, 3), (18, .iload_n 0, 1), (19, .bipush 90, 2), (21, .if_icmp .gt 7, 3), (24, .iconst 1, 1), (25, .goto 4, 3), (28, .iconst 0, 1), (29, .ireturn, 1)]
theorem ttX6_isLetter : zdt cX6_isLetter tX6_isLetter = true := by decide +kernel
abbrev q_X6_isLetter (h : zM) (p1 : Int) : Option zV → zM → Prop := zqi fun v h' => h = h' ∧ ((v = 0 ∧ ((p1 < 97 ∧ p1 < 65) ∨ (p1 < 97 ∧ 65 ≤ p1 ∧ 90 < p1) ∨ (97 ≤ p1 ∧ 122 < p1 ∧ 65 ≤ p1 ∧ 90 < p1))) ∨ (v = 1 ∧ ((p1 < 97 ∧ 65 ≤ p1 ∧ p1 ≤ 90) ∨ (97 ≤ p1 ∧ p1 ≤ 122))))
set_option maxRecDepth 100000 in
set_option maxHeartbeats 4000000 in
theorem s_X6_isLetter (l : Launch) (h : zM) (p1 : Int) (s0 : okC h) (b_p1 : (-2147483648) ≤ p1 ∧ p1 ≤ 2147483647) : zT shC l yX6_isLetter cX6_isLetter 1 (some .boolean) (rmL 1) 0 0 [.inl p1] h (q_X6_isLetter h p1) := by
  refine zT_of (by decide +kernel) (L0 := [some (.inl p1)]) rfl (Nat.le_of_ble_eq_true rfl) ?_
  refine zj_iload_n (zdk ttX6_isLetter 0 rfl rfl) rfl ?_
  refine zj_bipush (zdk ttX6_isLetter 1 rfl rfl) (by decide) ?_
  refine zj_icmp_lt (t := 12) (zdk ttX6_isLetter 2 rfl rfl) (by decide) (by omega) (by decide) (fun c1 => ?_) (fun c1 => ?_)
  · refine zj_iload_n (zdk ttX6_isLetter 6 rfl rfl) rfl ?_
    refine zj_bipush (zdk ttX6_isLetter 7 rfl rfl) (by decide) ?_
    refine zj_icmp_lt (t := 28) (zdk ttX6_isLetter 8 rfl rfl) (by decide) (by omega) (by decide) (fun c2 => ?_) (fun c2 => ?_)
    · refine zj_iconst (zdk ttX6_isLetter 14 rfl rfl) ?_
      exact zj_zret rfl (zdk ttX6_isLetter 15 rfl rfl) (Nat.le_refl _) (Nat.le_refl _) (by omega) ⟨0, rfl, rfl, (Or.inl ⟨rfl, (Or.inl (by omega))⟩)⟩
    · refine zj_iload_n (zdk ttX6_isLetter 9 rfl rfl) rfl ?_
      refine zj_bipush (zdk ttX6_isLetter 10 rfl rfl) (by decide) ?_
      refine zj_icmp_gt (t := 28) (zdk ttX6_isLetter 11 rfl rfl) (by decide) (by omega) (by decide) (fun c3 => ?_) (fun c3 => ?_)
      · refine zj_iconst (zdk ttX6_isLetter 14 rfl rfl) ?_
        exact zj_zret rfl (zdk ttX6_isLetter 15 rfl rfl) (Nat.le_refl _) (Nat.le_refl _) (by omega) ⟨0, rfl, rfl, (Or.inl ⟨rfl, (Or.inr (Or.inl (by omega)))⟩)⟩
      · refine zj_iconst (zdk ttX6_isLetter 12 rfl rfl) ?_
        refine zj_goto (t := 29) (zdk ttX6_isLetter 13 rfl rfl) (by decide) ?_
        exact zj_zret rfl (zdk ttX6_isLetter 15 rfl rfl) (Nat.le_refl _) (Nat.le_refl _) (by omega) ⟨1, rfl, rfl, (Or.inr ⟨rfl, (Or.inl (by omega))⟩)⟩
  · refine zj_iload_n (zdk ttX6_isLetter 3 rfl rfl) rfl ?_
    refine zj_bipush (zdk ttX6_isLetter 4 rfl rfl) (by decide) ?_
    refine zj_icmp_le (t := 24) (zdk ttX6_isLetter 5 rfl rfl) (by decide) (by omega) (by decide) (fun c4 => ?_) (fun c4 => ?_)
    · refine zj_iconst (zdk ttX6_isLetter 12 rfl rfl) ?_
      refine zj_goto (t := 29) (zdk ttX6_isLetter 13 rfl rfl) (by decide) ?_
      exact zj_zret rfl (zdk ttX6_isLetter 15 rfl rfl) (Nat.le_refl _) (Nat.le_refl _) (by omega) ⟨1, rfl, rfl, (Or.inr ⟨rfl, (Or.inr (by omega))⟩)⟩
    · refine zj_iload_n (zdk ttX6_isLetter 6 rfl rfl) rfl ?_
      refine zj_bipush (zdk ttX6_isLetter 7 rfl rfl) (by decide) ?_
      refine zj_icmp_lt (t := 28) (zdk ttX6_isLetter 8 rfl rfl) (by decide) (by omega) (by decide) (fun c5 => ?_) (fun c5 => ?_)
      · exact absurd c5 (by omega)
      · refine zj_iload_n (zdk ttX6_isLetter 9 rfl rfl) rfl ?_
        refine zj_bipush (zdk ttX6_isLetter 10 rfl rfl) (by decide) ?_
        refine zj_icmp_gt (t := 28) (zdk ttX6_isLetter 11 rfl rfl) (by decide) (by omega) (by decide) (fun c6 => ?_) (fun c6 => ?_)
        · refine zj_iconst (zdk ttX6_isLetter 14 rfl rfl) ?_
          exact zj_zret rfl (zdk ttX6_isLetter 15 rfl rfl) (Nat.le_refl _) (Nat.le_refl _) (by omega) ⟨0, rfl, rfl, (Or.inl ⟨rfl, (Or.inr (Or.inr (by omega)))⟩)⟩
        · exact absurd c6 (by omega)

abbrev tX6_isDigit : List (Nat × Instr × Nat) := [(0, .iload_n 0, 1), (1, .bipush 48, 2), (3, .if_icmp .lt 13, 3), (6, .iload_n 0, 1), (7, .bipush 57, 2), (9, .if_icmp .gt 7, 3), (12, .iconst 1, 1), (13, .goto 4, 3), (16, .iconst 0, 1), (17, .ireturn, 1)]
theorem ttX6_isDigit : zdt cX6_isDigit tX6_isDigit = true := by decide +kernel
abbrev q_X6_isDigit (h : zM) (p1 : Int) : Option zV → zM → Prop := zqi fun v h' => h = h' ∧ ((v = 0 ∧ ((p1 < 48) ∨ (48 ≤ p1 ∧ 57 < p1))) ∨ (v = 1 ∧ (48 ≤ p1 ∧ p1 ≤ 57)))
set_option maxRecDepth 100000 in
set_option maxHeartbeats 4000000 in
theorem s_X6_isDigit (l : Launch) (h : zM) (p1 : Int) (s0 : okC h) (b_p1 : (-2147483648) ≤ p1 ∧ p1 ≤ 2147483647) : zT shC l yX6_isDigit cX6_isDigit 1 (some .boolean) (rmL 1) 0 0 [.inl p1] h (q_X6_isDigit h p1) := by
  refine zT_of (by decide +kernel) (L0 := [some (.inl p1)]) rfl (Nat.le_of_ble_eq_true rfl) ?_
  refine zj_iload_n (zdk ttX6_isDigit 0 rfl rfl) rfl ?_
  refine zj_bipush (zdk ttX6_isDigit 1 rfl rfl) (by decide) ?_
  refine zj_icmp_lt (t := 16) (zdk ttX6_isDigit 2 rfl rfl) (by decide) (by omega) (by decide) (fun c1 => ?_) (fun c1 => ?_)
  · refine zj_iconst (zdk ttX6_isDigit 8 rfl rfl) ?_
    exact zj_zret rfl (zdk ttX6_isDigit 9 rfl rfl) (Nat.le_refl _) (Nat.le_refl _) (by omega) ⟨0, rfl, rfl, (Or.inl ⟨rfl, (Or.inl (by omega))⟩)⟩
  · refine zj_iload_n (zdk ttX6_isDigit 3 rfl rfl) rfl ?_
    refine zj_bipush (zdk ttX6_isDigit 4 rfl rfl) (by decide) ?_
    refine zj_icmp_gt (t := 16) (zdk ttX6_isDigit 5 rfl rfl) (by decide) (by omega) (by decide) (fun c2 => ?_) (fun c2 => ?_)
    · refine zj_iconst (zdk ttX6_isDigit 8 rfl rfl) ?_
      exact zj_zret rfl (zdk ttX6_isDigit 9 rfl rfl) (Nat.le_refl _) (Nat.le_refl _) (by omega) ⟨0, rfl, rfl, (Or.inl ⟨rfl, (Or.inr (by omega))⟩)⟩
    · refine zj_iconst (zdk ttX6_isDigit 6 rfl rfl) ?_
      refine zj_goto (t := 17) (zdk ttX6_isDigit 7 rfl rfl) (by decide) ?_
      exact zj_zret rfl (zdk ttX6_isDigit 9 rfl rfl) (Nat.le_refl _) (Nat.le_refl _) (by omega) ⟨1, rfl, rfl, (Or.inr ⟨rfl, by omega⟩)⟩

abbrev tX6_numberAt : List (Nat × Instr × Nat) := [(0, .iload_n 2, 1), (1, .iload_n 1, 1), (2, .isub, 1), (3, .iconst 4, 1), (4, .if_icmp .le 5, 3), (7, .iconst 1, 1), (8, .ireturn, 1), (9, .iconst 0, 1), (10, .istore_n 3, 1), (11, .iload_n 1, 1), (12, .istore 4, 2), (14, .iload 4, 2), (16, .iload_n 2, 1), (17, .if_icmp .ge 33, 3), (20, .iload 4, 2), (22, .sipush 400, 3), (25, .if_icmp .ge 25, 3), (28, .iload_n 3, 1), (29, .bipush 10, 2), (31, .imul, 1), (32, .aload_n 0, 1), (33, .getfield 11, 3), (36, .iload 4, 2), (38, .iaload, 1), (39, .iadd, 1), (40, .bipush 48, 2), (42, .isub, 1), (43, .istore_n 3, 1), (44, .iinc 4 1, 3), (47, .goto (-33), 3), (50, .sipush 1000, 3), (53, .iload_n 3, 1), (54, .iadd, 1), (55, .ireturn, 1)]
theorem ttX6_numberAt : zdt cX6_numberAt tX6_numberAt = true := by decide +kernel
abbrev q_X6_numberAt (h : zM) (p1 : Int) (p2 : Int) : Option zV → zM → Prop := zqi fun v h' => h = h' ∧ ((-2147483648) ≤ v ∧ v ≤ 2147483647)
set_option maxRecDepth 100000 in
set_option maxHeartbeats 4000000 in
theorem s_X6_numberAt (l : Launch) (h : zM) (p1 : Int) (p2 : Int) (s0 : okC h) (b_p1 : 0 ≤ p1 ∧ p1 ≤ 400) (b_p2 : 0 ≤ p2 ∧ p2 ≤ 400) : zT shC l yX6_numberAt cX6_numberAt 5 (some .int) (rmL 1) 0 0 [.inr 103, .inl p1, .inl p2] h (q_X6_numberAt h p1 p2) := by
  refine zT_of (by decide +kernel) (L0 := [some (.inr 103), some (.inl p1), some (.inl p2), none, none]) rfl (Nat.le_of_ble_eq_true rfl) ?_
  refine zj_iload_n (zdk ttX6_numberAt 0 rfl rfl) rfl ?_
  refine zj_iload_n (zdk ttX6_numberAt 1 rfl rfl) rfl ?_
  refine zj_isub (zdk ttX6_numberAt 2 rfl rfl) ?_
  refine zj_iconst (zdk ttX6_numberAt 3 rfl rfl) ?_
  refine zj_icmp_le (t := 9) (zdk ttX6_numberAt 4 rfl rfl) (by decide) (by omega) (by decide) (fun c1 => ?_) (fun c1 => ?_)
  · refine zj_iconst (zdk ttX6_numberAt 7 rfl rfl) ?_
    refine zj_istore_n (L' := [some (.inr 103), some (.inl p1), some (.inl p2), some (.inl 0), none]) (zdk ttX6_numberAt 8 rfl rfl) (by decide) rfl ?_
    refine zj_iload_n (zdk ttX6_numberAt 9 rfl rfl) rfl ?_
    refine zj_istore (L' := [some (.inr 103), some (.inl p1), some (.inl p2), some (.inl 0), some (.inl p1)]) (zdk ttX6_numberAt 10 rfl rfl) (by decide) rfl ?_
    have lp19 : ∀ (n : Nat) (x2 x3 : Int), (-2147483648 ≤ x2 ∧ x2 ≤ 2147483647) → (0 ≤ x3 ∧ x3 ≤ 400) → (401 - x3).toNat < n → zJ shC l yX6_numberAt cX6_numberAt 5 (some .int) (rmL 1) 0 0 (q_X6_numberAt h p1 p2) 0 0 14 [some (.inr 103), some (.inl p1), some (.inl p2), some (.inl x2), some (.inl x3)] [] h := by
      intro n
      induction n with
      | zero => intro x2 x3 b20 b21 m22; exact absurd m22 (Nat.not_lt_zero _)
      | succ n ih23 =>
        intro x2 x3 b20 b21 m22
        refine zj_iload (zdk ttX6_numberAt 11 rfl rfl) rfl ?_
        refine zj_iload_n (zdk ttX6_numberAt 12 rfl rfl) rfl ?_
        refine zj_icmp_ge (t := 50) (zdk ttX6_numberAt 13 rfl rfl) (by decide) (by omega) (by omega) (fun c24 => ?_) (fun c24 => ?_)
        · refine zj_sipush (zdk ttX6_numberAt 30 rfl rfl) (by decide) ?_
          refine zj_iload_n (zdk ttX6_numberAt 31 rfl rfl) rfl ?_
          refine zj_iadd (zdk ttX6_numberAt 32 rfl rfl) ?_
          refine zj_wrap ?_
          have b25 := zwp_in (1000 + x2)
          exact zj_iret rfl (zdk ttX6_numberAt 33 rfl rfl) (Nat.le_refl _) (Nat.le_refl _) ⟨(zwp (1000 + x2)), rfl, rfl, by omega⟩
        · refine zj_iload (zdk ttX6_numberAt 14 rfl rfl) rfl ?_
          refine zj_sipush (zdk ttX6_numberAt 15 rfl rfl) (by decide) ?_
          refine zj_icmp_ge (t := 50) (zdk ttX6_numberAt 16 rfl rfl) (by decide) (by omega) (by decide) (fun c26 => ?_) (fun c26 => ?_)
          · exact absurd c26 (by omega)
          · refine zj_iload_n (zdk ttX6_numberAt 17 rfl rfl) rfl ?_
            refine zj_bipush (zdk ttX6_numberAt 18 rfl rfl) (by decide) ?_
            refine zj_imul (zdk ttX6_numberAt 19 rfl rfl) ?_
            refine zj_wrap ?_
            have b27 := zwp_in (x2 * 10)
            refine zj_aload_n (zdk ttX6_numberAt 20 rfl rfl) rfl (by decide) ?_
            refine zj_getr (r := 104) (zdk ttX6_numberAt 21 rfl rfl) zf_RX6_11 rfl (k_L103 s0) (rf_L103_0 s0) ?_
            refine zj_iload (zdk ttX6_numberAt 22 rfl rfl) rfl ?_
            have b28 : 0 ≤ (h.2 104 x3) ∧ (h.2 104 x3) ≤ 255 := ab_L103_0 s0 x3
            refine zj_iald (v := (h.2 104 x3)) (zdk ttX6_numberAt 23 rfl rfl) (ka_L103_0 s0) (by decide) (by omega) rfl ?_
            refine zj_iadd (zdk ttX6_numberAt 24 rfl rfl) ?_
            refine zj_wrap ?_
            have b29 := zwp_in ((zwp (x2 * 10)) + (h.2 104 x3))
            refine zj_bipush (zdk ttX6_numberAt 25 rfl rfl) (by decide) ?_
            refine zj_isub (zdk ttX6_numberAt 26 rfl rfl) ?_
            refine zj_wrap ?_
            have b30 := zwp_in ((zwp ((zwp (x2 * 10)) + (h.2 104 x3))) - 48)
            refine zj_istore_n (L' := [some (.inr 103), some (.inl p1), some (.inl p2), some (.inl (zwp ((zwp ((zwp (x2 * 10)) + (h.2 104 x3))) - 48))), some (.inl x3)]) (zdk ttX6_numberAt 27 rfl rfl) (by decide) rfl ?_
            refine zj_iinc (L' := [some (.inr 103), some (.inl p1), some (.inl p2), some (.inl (zwp ((zwp ((zwp (x2 * 10)) + (h.2 104 x3))) - 48))), some (.inl (x3 + 1))]) (zdk ttX6_numberAt 28 rfl rfl) rfl (by decide) rfl ?_
            refine zj_goto (t := 14) (zdk ttX6_numberAt 29 rfl rfl) (by decide) ?_
            exact ih23  (zwp ((zwp ((zwp (x2 * 10)) + (h.2 104 x3))) - 48)) (x3 + 1) (by omega) (by omega) (by omega)
    exact lp19 _ 0 p1 (by omega) (by omega) (Nat.lt_succ_self _)
  · refine zj_iconst (zdk ttX6_numberAt 5 rfl rfl) ?_
    exact zj_iret rfl (zdk ttX6_numberAt 6 rfl rfl) (Nat.le_refl _) (Nat.le_refl _) ⟨1, rfl, rfl, by omega⟩

abbrev tX6_isNumber : List (Nat × Instr × Nat) := [(0, .aload_n 0, 1), (1, .getfield 31, 3), (4, .sipush 1000, 3), (7, .if_icmp .lt 7, 3), (10, .iconst 1, 1), (11, .goto 4, 3), (14, .iconst 0, 1), (15, .ireturn, 1)]
theorem ttX6_isNumber : zdt cX6_isNumber tX6_isNumber = true := by decide +kernel
abbrev q_X6_isNumber (h : zM) : Option zV → zM → Prop := zqi fun v h' => h = h' ∧ ((-2147483648) ≤ (h.2 103 6) ∧ (h.2 103 6) ≤ 2147483647) ∧ ((v = 0 ∧ ((h.2 103 6) < 1000)) ∨ (v = 1 ∧ (1000 ≤ (h.2 103 6))))
set_option maxRecDepth 100000 in
set_option maxHeartbeats 4000000 in
theorem s_X6_isNumber (l : Launch) (h : zM) (s0 : okC h) : zT shC l yX6_isNumber cX6_isNumber 1 (some .boolean) (rmL 1) 0 0 [.inr 103] h (q_X6_isNumber h) := by
  refine zT_of (by decide +kernel) (L0 := [some (.inr 103)]) rfl (Nat.le_of_ble_eq_true rfl) ?_
  have b1 : (-2147483648) ≤ (h.2 103 6) ∧ (h.2 103 6) ≤ 2147483647 := fb_L103_6 s0
  refine zj_aload_n (zdk ttX6_isNumber 0 rfl rfl) rfl (by decide) ?_
  refine zj_geti (v := (h.2 103 6)) (zdk ttX6_isNumber 1 rfl rfl) zf_RX6_31 rfl (k_L103 s0) rfl ?_
  refine zj_sipush (zdk ttX6_isNumber 2 rfl rfl) (by decide) ?_
  refine zj_icmp_lt (t := 14) (zdk ttX6_isNumber 3 rfl rfl) (by decide) (by omega) (by decide) (fun c2 => ?_) (fun c2 => ?_)
  · refine zj_iconst (zdk ttX6_isNumber 6 rfl rfl) ?_
    exact zj_zret rfl (zdk ttX6_isNumber 7 rfl rfl) (Nat.le_refl _) (Nat.le_refl _) (by omega) ⟨0, rfl, rfl, b1, (Or.inl ⟨rfl, by omega⟩)⟩
  · refine zj_iconst (zdk ttX6_isNumber 4 rfl rfl) ?_
    refine zj_goto (t := 15) (zdk ttX6_isNumber 5 rfl rfl) (by decide) ?_
    exact zj_zret rfl (zdk ttX6_isNumber 7 rfl rfl) (Nat.le_refl _) (Nat.le_refl _) (by omega) ⟨1, rfl, rfl, b1, (Or.inr ⟨rfl, by omega⟩)⟩
