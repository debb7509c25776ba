abbrev tX6_isWord : List (Nat × Instr × Nat) := [(0, .aload_n 0, 1), (1, .getfield 31, 3), (4, .sipush 200, 3), (7, .iload_n 1, 1), (8, .iadd, 1), (9, .if_icmp .lt 19, 3), (12, .aload_n 0, 1), (13, .getfield 31, 3), (16, .sipush 200, 3), (19, .iload_n 2, 1), (20, .iadd, 1), (21, .if_icmp .gt 7, 3), (24, .iconst 1, 1), (25, .goto 4, 3), (28, .iconst 0, 1), (29, .ireturn, 1)]
theorem ttX6_isWord : zdt cX6_isWord tX6_isWord = true := by decide +kernel
abbrev q_X6_isWord (h : zM) (p1 : Int) (p2 : Int) : Option zV → zM → Prop := zqi fun v h' => h = h' ∧ ((-2147483648) ≤ (h.2 103 6) ∧ (h.2 103 6) ≤ 2147483647) ∧ ((v = 0 ∧ (((h.2 103 6) < (200 + p1)) ∨ ((200 + p1) ≤ (h.2 103 6) ∧ (200 + p2) < (h.2 103 6)))) ∨ (v = 1 ∧ ((200 + p1) ≤ (h.2 103 6) ∧ (h.2 103 6) ≤ (200 + p2))))
set_option maxRecDepth 100000 in
set_option maxHeartbeats 4000000 in
theorem s_X6_isWord (l : Launch) (h : zM) (p1 : Int) (p2 : Int) (s0 : okC h) (b_p1 : 0 ≤ p1 ∧ p1 ≤ 20) (b_p2 : 0 ≤ p2 ∧ p2 ≤ 20) : zT shC l yX6_isWord cX6_isWord 3 (some .boolean) (rmL 1) 0 0 [.inr 103, .inl p1, .inl p2] h (q_X6_isWord h p1 p2) := by
  refine zT_of (by decide +kernel) (L0 := [some (.inr 103), some (.inl p1), some (.inl p2)]) rfl (Nat.le_of_ble_eq_true rfl) ?_
  have b1 : (-2147483648) ≤ (h.2 103 6) ∧ (h.2 103 6) ≤ 2147483647 := fb_L103_6 s0
  refine zj_aload_n (zdk ttX6_isWord 0 rfl rfl) rfl (by decide) ?_
  refine zj_geti (v := (h.2 103 6)) (zdk ttX6_isWord 1 rfl rfl) zf_RX6_31 rfl (k_L103 s0) rfl ?_
  refine zj_sipush (zdk ttX6_isWord 2 rfl rfl) (by decide) ?_
  refine zj_iload_n (zdk ttX6_isWord 3 rfl rfl) rfl ?_
  refine zj_iadd (zdk ttX6_isWord 4 rfl rfl) ?_
  refine zj_icmp_lt (t := 28) (zdk ttX6_isWord 5 rfl rfl) (by decide) (by omega) (by omega) (fun c2 => ?_) (fun c2 => ?_)
  · refine zj_iconst (zdk ttX6_isWord 14 rfl rfl) ?_
    exact zj_zret rfl (zdk ttX6_isWord 15 rfl rfl) (Nat.le_refl _) (Nat.le_refl _) (by omega) ⟨0, rfl, rfl, b1, (Or.inl ⟨rfl, (Or.inl (by omega))⟩)⟩
  · refine zj_aload_n (zdk ttX6_isWord 6 rfl rfl) rfl (by decide) ?_
    refine zj_geti (v := (h.2 103 6)) (zdk ttX6_isWord 7 rfl rfl) zf_RX6_31 rfl (k_L103 s0) rfl ?_
    refine zj_sipush (zdk ttX6_isWord 8 rfl rfl) (by decide) ?_
    refine zj_iload_n (zdk ttX6_isWord 9 rfl rfl) rfl ?_
    refine zj_iadd (zdk ttX6_isWord 10 rfl rfl) ?_
    refine zj_icmp_gt (t := 28) (zdk ttX6_isWord 11 rfl rfl) (by decide) (by omega) (by omega) (fun c3 => ?_) (fun c3 => ?_)
    · refine zj_iconst (zdk ttX6_isWord 14 rfl rfl) ?_
      exact zj_zret rfl (zdk ttX6_isWord 15 rfl rfl) (Nat.le_refl _) (Nat.le_refl _) (by omega) ⟨0, rfl, rfl, b1, (Or.inl ⟨rfl, (Or.inr (by omega))⟩)⟩
    · refine zj_iconst (zdk ttX6_isWord 12 rfl rfl) ?_
      refine zj_goto (t := 29) (zdk ttX6_isWord 13 rfl rfl) (by decide) ?_
      exact zj_zret rfl (zdk ttX6_isWord 15 rfl rfl) (Nat.le_refl _) (Nat.le_refl _) (by omega) ⟨1, rfl, rfl, b1, (Or.inr ⟨rfl, by omega⟩)⟩

abbrev tX6_pass : List (Nat × Instr × Nat) := [(0, .aload_n 0, 1), (1, .getfield 28, 3), (4, .iconst 1, 1), (5, .iadd, 1), (6, .aload_n 0, 1), (7, .getfield 25, 3), (10, .if_icmp .ge 26, 3), (13, .aload_n 0, 1), (14, .dup, 1), (15, .getfield 28, 3), (18, .iconst 1, 1), (19, .iadd, 1), (20, .putfield 28, 3), (23, .aload_n 0, 1), (24, .aload_n 0, 1), (25, .getfield 15, 3), (28, .aload_n 0, 1), (29, .getfield 28, 3), (32, .iaload, 1), (33, .putfield 31, 3), (36, .return_, 1)]
theorem ttX6_pass : zdt cX6_pass tX6_pass = true := by decide +kernel
abbrev w_X6_pass (a b : Int) : Prop := (a = 103 ∧ 5 ≤ b ∧ b ≤ 6)
abbrev tX6_refuse : List (Nat × Instr × Nat) := [(0, .aload_n 0, 1), (1, .iload_n 1, 1), (2, .putfield 34, 3), (5, .aload_n 0, 1), (6, .aload_n 0, 1), (7, .getfield 18, 3), (10, .aload_n 0, 1), (11, .getfield 28, 3), (14, .iaload, 1), (15, .putfield 37, 3), (18, .iconst 0, 1), (19, .ireturn, 1)]
theorem ttX6_refuse : zdt cX6_refuse tX6_refuse = true := by decide +kernel
abbrev w_X6_refuse (a b : Int) : Prop := (a = 103 ∧ 7 ≤ b ∧ b ≤ 8)
abbrev tX6_takes : List (Nat × Instr × Nat) := [(0, .aload_n 0, 1), (1, .getfield 31, 3), (4, .iload_n 1, 1), (5, .if_icmp .eq 9, 3), (8, .aload_n 0, 1), (9, .iconst 1, 1), (10, .invokevirtual 81, 3), (13, .ireturn, 1), (14, .aload_n 0, 1), (15, .invokevirtual 84, 3), (18, .iconst 1, 1), (19, .ireturn, 1)]
theorem ttX6_takes : zdt cX6_takes tX6_takes = true := by decide +kernel
abbrev w_X6_takes (a b : Int) : Prop := (a = 103 ∧ 5 ≤ b ∧ b ≤ 8)
abbrev tX6_takesNumber : List (Nat × Instr × Nat) := [(0, .aload_n 0, 1), (1, .invokevirtual 87, 3), (4, .ifCond .ne 9, 3), (7, .aload_n 0, 1), (8, .iconst 1, 1), (9, .invokevirtual 81, 3), (12, .ireturn, 1), (13, .aload_n 0, 1), (14, .aload_n 0, 1), (15, .getfield 31, 3), (18, .sipush 1000, 3), (21, .isub, 1), (22, .putfield 40, 3), (25, .aload_n 0, 1), (26, .getfield 40, 3), (29, .iload_n 1, 1), (30, .iload_n 2, 1), (31, .invokestatic 91, 3), (34, .ifCond .ne 9, 3), (37, .aload_n 0, 1), (38, .iconst 2, 1), (39, .invokevirtual 81, 3), (42, .ireturn, 1), (43, .aload_n 0, 1), (44, .invokevirtual 84, 3), (47, .iconst 1, 1), (48, .ireturn, 1)]
theorem ttX6_takesNumber : zdt cX6_takesNumber tX6_takesNumber = true := by decide +kernel
abbrev w_X6_takesNumber (a b : Int) : Prop := (a = 103 ∧ 5 ≤ b ∧ b ≤ 9)
abbrev tX10_forget : List (Nat × Instr × Nat) := [(0, .aload_n 0, 1), (1, .iconst 0, 1), (2, .putfield 55, 3), (5, .return_, 1)]
theorem ttX10_forget : zdt cX10_forget tX10_forget = true := by decide +kernel
abbrev w_X10_forget (a b : Int) : Prop := (a = 0 ∧ b = 8)
abbrev q_X10_forget (h : zM) : Option zV → zM → Prop := zqv fun h' => okC h' ∧ zfC w_X10_forget h h' ∧ (h'.2 0 8 = 0)
set_option maxRecDepth 100000 in
set_option maxHeartbeats 4000000 in
theorem s_X10_forget (l : Launch) (h : zM) (s0 : okC h) : zT shC l yX10_forget cX10_forget 1 none (rmL 1) 0 0 [.inr 0] h (q_X10_forget h) := by
  refine zT_of (by decide +kernel) (L0 := [some (.inr 0)]) rfl (Nat.le_of_ble_eq_true rfl) ?_
  refine zj_aload_n (zdk ttX10_forget 0 rfl rfl) rfl (by decide) ?_
  refine zj_iconst (zdk ttX10_forget 1 rfl rfl) ?_
  refine zj_puti (zdk ttX10_forget 2 rfl rfl) zf_RX10_55 rfl (k_L0 s0) (Or.inl zw_RX10_55) (k2 := 8) rfl (fun h1 e2 => ?_)
  have s3 : okC h1 := fw_L0_8 s0 e2 (by omega)
  have f4 : zfC w_X10_forget h h1 := zfC_w (zfC_r _ _) e2 (by omega)
  have b5 : h1.2 0 8 = 0 := (zwr_v e2)
  exact zj_vret rfl (zdk ttX10_forget 3 rfl rfl) (Nat.le_refl _) (Nat.le_refl _) ⟨rfl, s3, f4, by omega⟩

abbrev tX10_state : List (Nat × Instr × Nat) := [(0, .aload_n 0, 1), (1, .getfield 10, 3), (4, .getfield 67, 3), (7, .getfield 71, 3), (10, .istore_n 2, 1), (11, .aload_n 0, 1), (12, .getfield 10, 3), (15, .getfield 67, 3), (18, .iload_n 1, 1), (19, .putfield 71, 3), (22, .aload_n 0, 1), (23, .invokevirtual 74, 3), (26, .iload_n 2, 1), (27, .ireturn, 1)]
theorem ttX10_state : zdt cX10_state tX10_state = true := by decide +kernel
abbrev w_X10_state (a b : Int) : Prop := (a = 0 ∧ b = 8) ∨ (a = 2 ∧ b = 13)
abbrev tX10_islander : List (Nat × Instr × Nat) := [(0, .aload_n 0, 1), (1, .getfield 10, 3), (4, .getfield 67, 3), (7, .astore_n 3, 1), (8, .iload_n 1, 1), (9, .iconst 1, 1), (10, .sipush 200, 3), (13, .invokestatic 77, 3), (16, .ifCond .eq 22, 3), (19, .iload_n 2, 1), (20, .iconst 0, 1), (21, .bipush 9, 2), (23, .invokestatic 77, 3), (26, .ifCond .eq 12, 3), (29, .aload_n 3, 1), (30, .getfield 81, 3), (33, .bipush 18, 2), (35, .if_icmp .lt 5, 3), (38, .iconst (-1), 1), (39, .ireturn, 1), (40, .aload_n 0, 1), (41, .invokevirtual 74, 3), (44, .aload_n 3, 1), (45, .iload_n 1, 1), (46, .iload_n 2, 1), (47, .invokevirtual 84, 3), (50, .ireturn, 1)]
theorem ttX10_islander : zdt cX10_islander tX10_islander = true := by decide +kernel
abbrev w_X10_islander (a b : Int) : Prop := (a = 0 ∧ b = 8) ∨ (a = 2 ∧ 3 ≤ b ∧ b ≤ 4) ∨ (3 ≤ a ∧ a ≤ 5)
abbrev tX10_canBeSet : List (Nat × Instr × Nat) := [(0, .iload_n 1, 1), (1, .tableswitch 125 0 4 #[35, 66, 96, 105, 116], 35), (36, .aload_n 0, 1), (37, .getfield 10, 3), (40, .getfield 67, 3), (43, .iload_n 2, 1), (44, .invokevirtual 106, 3), (47, .ifCond .eq 18, 3), (50, .iload_n 3, 1), (51, .iconst 1, 1), (52, .sipush 200, 3), (55, .invokestatic 77, 3), (58, .ifCond .eq 7, 3), (61, .iconst 1, 1), (62, .goto 4, 3), (65, .iconst 0, 1), (66, .ireturn, 1), (67, .aload_n 0, 1), (68, .getfield 10, 3), (71, .getfield 67, 3), (74, .iload_n 2, 1), (75, .invokevirtual 106, 3), (78, .ifCond .eq 17, 3), (81, .iload_n 3, 1), (82, .iconst 0, 1), (83, .bipush 9, 2), (85, .invokestatic 77, 3), (88, .ifCond .eq 7, 3), (91, .iconst 1, 1), (92, .goto 4, 3), (95, .iconst 0, 1), (96, .ireturn, 1), (97, .iload_n 3, 1), (98, .iconst 0, 1), (99, .sipush 719, 3), (102, .invokestatic 77, 3), (105, .ireturn, 1), (106, .iload_n 3, 1), (107, .sipush (-9999), 3), (110, .sipush 9999, 3), (113, .invokestatic 77, 3), (116, .ireturn, 1), (117, .iload_n 3, 1), (118, .iconst 0, 1), (119, .sipush 9999, 3), (122, .invokestatic 77, 3), (125, .ireturn, 1), (126, .iconst 0, 1), (127, .ireturn, 1)]
theorem ttX10_canBeSet : zdt cX10_canBeSet tX10_canBeSet = true := by decide +kernel
abbrev q_X10_canBeSet (h : zM) (p1 : Int) (p2 : Int) (p3 : Int) : Option zV → zM → Prop := zqi fun v h' => h = h' ∧ (0 ≤ (h.2 2 3) ∧ (h.2 2 3) ≤ 18) ∧ ((v = 0 ∧ (((p1 < 0 ∨ 4 < p1)) ∨ (p1 = 0 ∧ ((p2 < 0) ∨ (0 ≤ p2 ∧ (h.2 2 3) ≤ p2)) ∧ 0 = 0) ∨ (p1 = 0 ∧ (0 ≤ p2 ∧ p2 < (h.2 2 3)) ∧ ¬ 1 = 0 ∧ ((p3 < 1) ∨ (1 ≤ p3 ∧ 200 < p3)) ∧ 0 = 0) ∨ (p1 = 1 ∧ ((p2 < 0) ∨ (0 ≤ p2 ∧ (h.2 2 3) ≤ p2)) ∧ 0 = 0) ∨ (p1 = 1 ∧ (0 ≤ p2 ∧ p2 < (h.2 2 3)) ∧ ¬ 1 = 0 ∧ ((p3 < 0) ∨ (0 ≤ p3 ∧ 9 < p3)) ∧ 0 = 0) ∨ (p1 = 2 ∧ ((p3 < 0) ∨ (0 ≤ p3 ∧ 719 < p3))) ∨ (p1 = 3 ∧ ((p3 < (-9999)) ∨ ((-9999) ≤ p3 ∧ 9999 < p3))) ∨ (p1 = 4 ∧ ((p3 < 0) ∨ (0 ≤ p3 ∧ 9999 < p3))))) ∨ (v = 1 ∧ ((p1 = 0 ∧ (0 ≤ p2 ∧ p2 < (h.2 2 3)) ∧ ¬ 1 = 0 ∧ (1 ≤ p3 ∧ p3 ≤ 200) ∧ ¬ 1 = 0) ∨ (p1 = 1 ∧ (0 ≤ p2 ∧ p2 < (h.2 2 3)) ∧ ¬ 1 = 0 ∧ (0 ≤ p3 ∧ p3 ≤ 9) ∧ ¬ 1 = 0) ∨ (p1 = 2 ∧ (0 ≤ p3 ∧ p3 ≤ 719)) ∨ (p1 = 3 ∧ ((-9999) ≤ p3 ∧ p3 ≤ 9999)) ∨ (p1 = 4 ∧ (0 ≤ p3 ∧ p3 ≤ 9999)))))
set_option maxRecDepth 100000 in
set_option maxHeartbeats 4000000 in
theorem s_X10_canBeSet (l : Launch) (h : zM) (p1 : Int) (p2 : Int) (p3 : Int) (s0 : okC h) (b_p1 : (-2147483648) ≤ p1 ∧ p1 ≤ 2147483647) (b_p2 : (-2147483648) ≤ p2 ∧ p2 ≤ 2147483647) (b_p3 : (-2147483648) ≤ p3 ∧ p3 ≤ 2147483647) : zT shC l yX10_canBeSet cX10_canBeSet 4 (some .boolean) (rmL 2) 0 0 [.inr 0, .inl p1, .inl p2, .inl p3] h (q_X10_canBeSet h p1 p2 p3) := by
  refine zT_of (by decide +kernel) (L0 := [some (.inr 0), some (.inl p1), some (.inl p2), some (.inl p3)]) rfl (Nat.le_of_ble_eq_true rfl) ?_
  have b1 : 0 ≤ (h.2 2 3) ∧ (h.2 2 3) ≤ 18 := fb_1_0_3 s0 zIs_2
  refine zj_iload_n (zdk ttX10_canBeSet 0 rfl rfl) rfl ?_
  have k3 : (p1 < 0 ∨ 4 < p1) → zJ shC l yX10_canBeSet cX10_canBeSet 4 (some .boolean) (rmL 2) 0 0 (q_X10_canBeSet h p1 p2 p3) 0 0 126 [some (.inr 0), some (.inl p1), some (.inl p2), some (.inl p3)] [] h := by
    intro c2
    refine zj_iconst (zdk ttX10_canBeSet 47 rfl rfl) ?_
    exact zj_zret rfl (zdk ttX10_canBeSet 48 rfl rfl) (Nat.le_refl _) (Nat.le_refl _) (by omega) ⟨0, rfl, rfl, b1, (Or.inl ⟨rfl, (Or.inl (by omega))⟩)⟩
  have k4 : p1 = 0 → zJ shC l yX10_canBeSet cX10_canBeSet 4 (some .boolean) (rmL 2) 0 0 (q_X10_canBeSet h p1 p2 p3) 0 0 36 [some (.inr 0), some (.inl p1), some (.inl p2), some (.inl p3)] [] h := by
    intro c2
    refine zj_aload_n (zdk ttX10_canBeSet 2 rfl rfl) rfl (by decide) ?_
    refine zj_getr (r := 1) (zdk ttX10_canBeSet 3 rfl rfl) zf_RX10_10 rfl (k_L0 s0) (rf_L0_0 s0) ?_
    refine zj_getr (r := 2) (zdk ttX10_canBeSet 4 rfl rfl) zf_RX10_67 rfl (k_9_0 s0 zWd_1) (rf_9_0_0 s0 zWd_1) ?_
    refine zj_iload_n (zdk ttX10_canBeSet 5 rfl rfl) rfl ?_
    refine zj_callV (av := [.inl p2]) (st := []) (zdk ttX10_canBeSet 6 rfl rfl) mb_X1_knows mv_RX10_106 (ci := 1) rfl rfl (k_1_0 s0 zIs_2) rfl rfl (Nat.le_of_ble_eq_true rfl) (s_X1_knows l h 2 p2 s0 zIs_2 (by omega)) (rm_ok (by decide) (by decide)) (zq_i fun v6 h7 q5 => ?_)
    obtain ⟨rfl, b9, ⟨rfl, b8⟩ | ⟨rfl, b8⟩⟩ := q5
    · refine zj_if_eq (t := 65) (zdk ttX10_canBeSet 7 rfl rfl) (by decide) (by decide) (fun c10 => ?_) (fun c10 => ?_)
      · refine zj_iconst (zdk ttX10_canBeSet 15 rfl rfl) ?_
        exact zj_zret rfl (zdk ttX10_canBeSet 16 rfl rfl) (Nat.le_refl _) (Nat.le_refl _) (by omega) ⟨0, rfl, rfl, b1, (Or.inl ⟨rfl, (Or.inr (Or.inl (by omega)))⟩)⟩
      · exact absurd c10 (by omega)
    · refine zj_if_eq (t := 65) (zdk ttX10_canBeSet 7 rfl rfl) (by decide) (by decide) (fun c11 => ?_) (fun c11 => ?_)
      · exact absurd c11 (by omega)
      · refine zj_iload_n (zdk ttX10_canBeSet 8 rfl rfl) rfl ?_
        refine zj_iconst (zdk ttX10_canBeSet 9 rfl rfl) ?_
        refine zj_sipush (zdk ttX10_canBeSet 10 rfl rfl) (by decide) ?_
        refine zj_callS (av := [.inl p3, .inl 1, .inl 200]) (st := []) (zdk ttX10_canBeSet 11 rfl rfl) mb_X10_within ms_RX10_77 rfl rfl (Nat.le_of_ble_eq_true rfl) (s_X10_within l h p3 1 200 s0 (by omega) (by omega) (by omega)) (rm_ok (by decide) (by decide)) (zq_i fun v13 h14 q12 => ?_)
        obtain ⟨rfl, ⟨rfl, b15⟩ | ⟨rfl, b15⟩⟩ := q12
        · refine zj_if_eq (t := 65) (zdk ttX10_canBeSet 12 rfl rfl) (by decide) (by decide) (fun c16 => ?_) (fun c16 => ?_)
          · refine zj_iconst (zdk ttX10_canBeSet 15 rfl rfl) ?_
            exact zj_zret rfl (zdk ttX10_canBeSet 16 rfl rfl) (Nat.le_refl _) (Nat.le_refl _) (by omega) ⟨0, rfl, rfl, b1, (Or.inl ⟨rfl, (Or.inr (Or.inr (Or.inl (by omega))))⟩)⟩
          · exact absurd c16 (by omega)
        · refine zj_if_eq (t := 65) (zdk ttX10_canBeSet 12 rfl rfl) (by decide) (by decide) (fun c17 => ?_) (fun c17 => ?_)
          · exact absurd c17 (by omega)
          · refine zj_iconst (zdk ttX10_canBeSet 13 rfl rfl) ?_
            refine zj_goto (t := 66) (zdk ttX10_canBeSet 14 rfl rfl) (by decide) ?_
            exact zj_zret rfl (zdk ttX10_canBeSet 16 rfl rfl) (Nat.le_refl _) (Nat.le_refl _) (by omega) ⟨1, rfl, rfl, b1, (Or.inr ⟨rfl, (Or.inl (by omega))⟩)⟩
  have k18 : p1 = 1 → zJ shC l yX10_canBeSet cX10_canBeSet 4 (some .boolean) (rmL 2) 0 0 (q_X10_canBeSet h p1 p2 p3) 0 0 67 [some (.inr 0), some (.inl p1), some (.inl p2), some (.inl p3)] [] h := by
    intro c2
    refine zj_aload_n (zdk ttX10_canBeSet 17 rfl rfl) rfl (by decide) ?_
    refine zj_getr (r := 1) (zdk ttX10_canBeSet 18 rfl rfl) zf_RX10_10 rfl (k_L0 s0) (rf_L0_0 s0) ?_
    refine zj_getr (r := 2) (zdk ttX10_canBeSet 19 rfl rfl) zf_RX10_67 rfl (k_9_0 s0 zWd_1) (rf_9_0_0 s0 zWd_1) ?_
    refine zj_iload_n (zdk ttX10_canBeSet 20 rfl rfl) rfl ?_
    refine zj_callV (av := [.inl p2]) (st := []) (zdk ttX10_canBeSet 21 rfl rfl) mb_X1_knows mv_RX10_106 (ci := 1) rfl rfl (k_1_0 s0 zIs_2) rfl rfl (Nat.le_of_ble_eq_true rfl) (s_X1_knows l h 2 p2 s0 zIs_2 (by omega)) (rm_ok (by decide) (by decide)) (zq_i fun v20 h21 q19 => ?_)
    obtain ⟨rfl, b23, ⟨rfl, b22⟩ | ⟨rfl, b22⟩⟩ := q19
    · refine zj_if_eq (t := 95) (zdk ttX10_canBeSet 22 rfl rfl) (by decide) (by decide) (fun c24 => ?_) (fun c24 => ?_)
      · refine zj_iconst (zdk ttX10_canBeSet 30 rfl rfl) ?_
        exact zj_zret rfl (zdk ttX10_canBeSet 31 rfl rfl) (Nat.le_refl _) (Nat.le_refl _) (by omega) ⟨0, rfl, rfl, b1, (Or.inl ⟨rfl, (Or.inr (Or.inr (Or.inr (Or.inl (by omega)))))⟩)⟩
      · exact absurd c24 (by omega)
    · refine zj_if_eq (t := 95) (zdk ttX10_canBeSet 22 rfl rfl) (by decide) (by decide) (fun c25 => ?_) (fun c25 => ?_)
      · exact absurd c25 (by omega)
      · refine zj_iload_n (zdk ttX10_canBeSet 23 rfl rfl) rfl ?_
        refine zj_iconst (zdk ttX10_canBeSet 24 rfl rfl) ?_
        refine zj_bipush (zdk ttX10_canBeSet 25 rfl rfl) (by decide) ?_
        refine zj_callS (av := [.inl p3, .inl 0, .inl 9]) (st := []) (zdk ttX10_canBeSet 26 rfl rfl) mb_X10_within ms_RX10_77 rfl rfl (Nat.le_of_ble_eq_true rfl) (s_X10_within l h p3 0 9 s0 (by omega) (by omega) (by omega)) (rm_ok (by decide) (by decide)) (zq_i fun v27 h28 q26 => ?_)
        obtain ⟨rfl, ⟨rfl, b29⟩ | ⟨rfl, b29⟩⟩ := q26
        · refine zj_if_eq (t := 95) (zdk ttX10_canBeSet 27 rfl rfl) (by decide) (by decide) (fun c30 => ?_) (fun c30 => ?_)
          · refine zj_iconst (zdk ttX10_canBeSet 30 rfl rfl) ?_
            exact zj_zret rfl (zdk ttX10_canBeSet 31 rfl rfl) (Nat.le_refl _) (Nat.le_refl _) (by omega) ⟨0, rfl, rfl, b1, (Or.inl ⟨rfl, (Or.inr (Or.inr (Or.inr (Or.inr (Or.inl (by omega))))))⟩)⟩
          · exact absurd c30 (by omega)
        · refine zj_if_eq (t := 95) (zdk ttX10_canBeSet 27 rfl rfl) (by decide) (by decide) (fun c31 => ?_) (fun c31 => ?_)
          · exact absurd c31 (by omega)
          · refine zj_iconst (zdk ttX10_canBeSet 28 rfl rfl) ?_
            refine zj_goto (t := 96) (zdk ttX10_canBeSet 29 rfl rfl) (by decide) ?_
            exact zj_zret rfl (zdk ttX10_canBeSet 31 rfl rfl) (Nat.le_refl _) (Nat.le_refl _) (by omega) ⟨1, rfl, rfl, b1, (Or.inr ⟨rfl, (Or.inr (Or.inl (by omega)))⟩)⟩
  have k32 : p1 = 2 → zJ shC l yX10_canBeSet cX10_canBeSet 4 (some .boolean) (rmL 2) 0 0 (q_X10_canBeSet h p1 p2 p3) 0 0 97 [some (.inr 0), some (.inl p1), some (.inl p2), some (.inl p3)] [] h := by
    intro c2
    refine zj_iload_n (zdk ttX10_canBeSet 32 rfl rfl) rfl ?_
    refine zj_iconst (zdk ttX10_canBeSet 33 rfl rfl) ?_
    refine zj_sipush (zdk ttX10_canBeSet 34 rfl rfl) (by decide) ?_
    refine zj_callS (av := [.inl p3, .inl 0, .inl 719]) (st := []) (zdk ttX10_canBeSet 35 rfl rfl) mb_X10_within ms_RX10_77 rfl rfl (Nat.le_of_ble_eq_true rfl) (s_X10_within l h p3 0 719 s0 (by omega) (by omega) (by omega)) (rm_ok (by decide) (by decide)) (zq_i fun v34 h35 q33 => ?_)
    obtain ⟨rfl, ⟨rfl, b36⟩ | ⟨rfl, b36⟩⟩ := q33
    · exact zj_zret rfl (zdk ttX10_canBeSet 36 rfl rfl) (Nat.le_refl _) (Nat.le_refl _) (by omega) ⟨0, rfl, rfl, b1, (Or.inl ⟨rfl, (Or.inr (Or.inr (Or.inr (Or.inr (Or.inr (Or.inl (by omega)))))))⟩)⟩
    · exact zj_zret rfl (zdk ttX10_canBeSet 36 rfl rfl) (Nat.le_refl _) (Nat.le_refl _) (by omega) ⟨1, rfl, rfl, b1, (Or.inr ⟨rfl, (Or.inr (Or.inr (Or.inl (by omega))))⟩)⟩
  have k37 : p1 = 3 → zJ shC l yX10_canBeSet cX10_canBeSet 4 (some .boolean) (rmL 2) 0 0 (q_X10_canBeSet h p1 p2 p3) 0 0 106 [some (.inr 0), some (.inl p1), some (.inl p2), some (.inl p3)] [] h := by
    intro c2
    refine zj_iload_n (zdk ttX10_canBeSet 37 rfl rfl) rfl ?_
    refine zj_sipush (zdk ttX10_canBeSet 38 rfl rfl) (by decide) ?_
    refine zj_sipush (zdk ttX10_canBeSet 39 rfl rfl) (by decide) ?_
    refine zj_callS (av := [.inl p3, .inl (-9999), .inl 9999]) (st := []) (zdk ttX10_canBeSet 40 rfl rfl) mb_X10_within ms_RX10_77 rfl rfl (Nat.le_of_ble_eq_true rfl) (s_X10_within l h p3 (-9999) 9999 s0 (by omega) (by omega) (by omega)) (rm_ok (by decide) (by decide)) (zq_i fun v39 h40 q38 => ?_)
    obtain ⟨rfl, ⟨rfl, b41⟩ | ⟨rfl, b41⟩⟩ := q38
    · exact zj_zret rfl (zdk ttX10_canBeSet 41 rfl rfl) (Nat.le_refl _) (Nat.le_refl _) (by omega) ⟨0, rfl, rfl, b1, (Or.inl ⟨rfl, (Or.inr (Or.inr (Or.inr (Or.inr (Or.inr (Or.inr (Or.inl (by omega))))))))⟩)⟩
    · exact zj_zret rfl (zdk ttX10_canBeSet 41 rfl rfl) (Nat.le_refl _) (Nat.le_refl _) (by omega) ⟨1, rfl, rfl, b1, (Or.inr ⟨rfl, (Or.inr (Or.inr (Or.inr (Or.inl (by omega)))))⟩)⟩
  have k42 : p1 = 4 → zJ shC l yX10_canBeSet cX10_canBeSet 4 (some .boolean) (rmL 2) 0 0 (q_X10_canBeSet h p1 p2 p3) 0 0 117 [some (.inr 0), some (.inl p1), some (.inl p2), some (.inl p3)] [] h := by
    intro c2
    refine zj_iload_n (zdk ttX10_canBeSet 42 rfl rfl) rfl ?_
    refine zj_iconst (zdk ttX10_canBeSet 43 rfl rfl) ?_
    refine zj_sipush (zdk ttX10_canBeSet 44 rfl rfl) (by decide) ?_
    refine zj_callS (av := [.inl p3, .inl 0, .inl 9999]) (st := []) (zdk ttX10_canBeSet 45 rfl rfl) mb_X10_within ms_RX10_77 rfl rfl (Nat.le_of_ble_eq_true rfl) (s_X10_within l h p3 0 9999 s0 (by omega) (by omega) (by omega)) (rm_ok (by decide) (by decide)) (zq_i fun v44 h45 q43 => ?_)
    obtain ⟨rfl, ⟨rfl, b46⟩ | ⟨rfl, b46⟩⟩ := q43
    · exact zj_zret rfl (zdk ttX10_canBeSet 46 rfl rfl) (Nat.le_refl _) (Nat.le_refl _) (by omega) ⟨0, rfl, rfl, b1, (Or.inl ⟨rfl, (Or.inr (Or.inr (Or.inr (Or.inr (Or.inr (Or.inr (Or.inr (by omega))))))))⟩)⟩
    · exact zj_zret rfl (zdk ttX10_canBeSet 46 rfl rfl) (Nat.le_refl _) (Nat.le_refl _) (by omega) ⟨1, rfl, rfl, b1, (Or.inr ⟨rfl, (Or.inr (Or.inr (Or.inr (Or.inr (by omega)))))⟩)⟩
  refine zj_table (t := 126) (zdk ttX10_canBeSet 1 rfl rfl) (by omega) (by decide) k3 (fun z1 z2 => ?_)
  have z3 : p1 = 0 ∨ p1 = 1 ∨ p1 = 2 ∨ p1 = 3 ∨ p1 = 4 := by omega
  rcases z3 with z3 | z3 | z3 | z3 | z3
  · exact ⟨35, 36, by rw [z3] <;> rfl, by decide, k4 z3⟩
  · exact ⟨66, 67, by rw [z3] <;> rfl, by decide, k18 z3⟩
  · exact ⟨96, 97, by rw [z3] <;> rfl, by decide, k32 z3⟩
  · exact ⟨105, 106, by rw [z3] <;> rfl, by decide, k37 z3⟩
  · exact ⟨116, 117, by rw [z3] <;> rfl, by decide, k42 z3⟩

abbrev tX10_set : List (Nat × Instr × Nat) := [(0, .aload_n 0, 1), (1, .iload_n 1, 1), (2, .iload_n 2, 1), (3, .iload_n 3, 1), (4, .invokevirtual 88, 3), (7, .ifCond .ne 5, 3), (10, .iconst 0, 1), (11, .ireturn, 1), (12, .aload_n 0, 1), (13, .getfield 10, 3), (16, .getfield 67, 3), (19, .astore 4, 2), (21, .iload_n 1, 1), (22, .tableswitch 70 0 3 #[30, 41, 52, 61], 30), (52, .aload 4, 2), (54, .getfield 91, 3), (57, .iload_n 2, 1), (58, .iload_n 3, 1), (59, .iastore, 1), (60, .goto 38, 3), (63, .aload 4, 2), (65, .getfield 94, 3), (68, .iload_n 2, 1), (69, .iload_n 3, 1), (70, .iastore, 1), (71, .goto 27, 3), (74, .aload 4, 2), (76, .iload_n 3, 1), (77, .putfield 97, 3), (80, .goto 18, 3), (83, .aload 4, 2), (85, .iload_n 3, 1), (86, .putfield 100, 3), (89, .goto 9, 3), (92, .aload 4, 2), (94, .iload_n 3, 1), (95, .putfield 103, 3), (98, .aload_n 0, 1), (99, .invokevirtual 74, 3), (102, .iconst 1, 1), (103, .ireturn, 1)]
theorem ttX10_set : zdt cX10_set tX10_set = true := by decide +kernel
abbrev w_X10_set (a b : Int) : Prop := (a = 0 ∧ b = 8) ∨ (a = 2 ∧ 6 ≤ b ∧ b ≤ 7) ∨ (a = 2 ∧ b = 11) ∨ (3 ≤ a ∧ a ≤ 4)
abbrev tX10_canAct : List (Nat × Instr × Nat) := [(0, .iload_n 1, 1), (1, .tableswitch 95 0 3 #[31, 43, 63, 83], 31), (32, .aload_n 0, 1), (33, .getfield 10, 3), (36, .getfield 67, 3), (39, .iload_n 2, 1), (40, .invokevirtual 204, 3), (43, .ireturn, 1), (44, .aload_n 0, 1), (45, .getfield 10, 3), (48, .getfield 67, 3), (51, .iload_n 2, 1), (52, .invokevirtual 204, 3), (55, .ifCond .ne 7, 3), (58, .iconst 1, 1), (59, .goto 4, 3), (62, .iconst 0, 1), (63, .ireturn, 1), (64, .aload_n 0, 1), (65, .getfield 10, 3), (68, .getfield 67, 3), (71, .iload_n 2, 1), (72, .invokevirtual 207, 3), (75, .ifCond .ne 7, 3), (78, .iconst 1, 1), (79, .goto 4, 3), (82, .iconst 0, 1), (83, .ireturn, 1), (84, .aload_n 0, 1), (85, .getfield 10, 3), (88, .getfield 67, 3), (91, .iload_n 2, 1), (92, .invokevirtual 207, 3), (95, .ireturn, 1), (96, .iconst 0, 1), (97, .ireturn, 1)]
theorem ttX10_canAct : zdt cX10_canAct tX10_canAct = true := by decide +kernel
abbrev q_X10_canAct (h : zM) (p1 : Int) (p2 : Int) : Option zV → zM → Prop := zqi fun v h' => h = h' ∧ ((-2147483648) ≤ (h.2 2 4) ∧ (h.2 2 4) ≤ 2147483647) ∧ ((-2147483648) ≤ (h.2 2 5) ∧ (h.2 2 5) ≤ 2147483647) ∧ ((v = 0 ∧ (((p1 < 0 ∨ 3 < p1)) ∨ (p1 = 0 ∧ (¬ (zand (zshr (h.2 2 4) p2) 1) = 1)) ∨ (p1 = 1 ∧ ((zand (zshr (h.2 2 4) p2) 1) = 1) ∧ ¬ 1 = 0) ∨ (p1 = 2 ∧ ((zand (zshr (h.2 2 5) p2) 1) = 1) ∧ ¬ 1 = 0) ∨ (p1 = 3 ∧ (¬ (zand (zshr (h.2 2 5) p2) 1) = 1)))) ∨ (v = 1 ∧ ((p1 = 0 ∧ ((zand (zshr (h.2 2 4) p2) 1) = 1)) ∨ (p1 = 1 ∧ (¬ (zand (zshr (h.2 2 4) p2) 1) = 1) ∧ 0 = 0) ∨ (p1 = 2 ∧ (¬ (zand (zshr (h.2 2 5) p2) 1) = 1) ∧ 0 = 0) ∨ (p1 = 3 ∧ ((zand (zshr (h.2 2 5) p2) 1) = 1)))))
set_option maxRecDepth 100000 in
set_option maxHeartbeats 4000000 in
theorem s_X10_canAct (l : Launch) (h : zM) (p1 : Int) (p2 : Int) (s0 : okC h) (b_p1 : (-2147483648) ≤ p1 ∧ p1 ≤ 2147483647) (b_p2 : (-2147483648) ≤ p2 ∧ p2 ≤ 2147483647) : zT shC l yX10_canAct cX10_canAct 3 (some .boolean) (rmL 2) 0 0 [.inr 0, .inl p1, .inl p2] h (q_X10_canAct h p1 p2) := by
  refine zT_of (by decide +kernel) (L0 := [some (.inr 0), some (.inl p1), some (.inl p2)]) rfl (Nat.le_of_ble_eq_true rfl) ?_
  have b1 : (-2147483648) ≤ (h.2 2 4) ∧ (h.2 2 4) ≤ 2147483647 := fb_1_0_4 s0 zIs_2
  have b2 : (-2147483648) ≤ (h.2 2 5) ∧ (h.2 2 5) ≤ 2147483647 := fb_1_0_5 s0 zIs_2
  refine zj_iload_n (zdk ttX10_canAct 0 rfl rfl) rfl ?_
  have k4 : (p1 < 0 ∨ 3 < p1) → zJ shC l yX10_canAct cX10_canAct 3 (some .boolean) (rmL 2) 0 0 (q_X10_canAct h p1 p2) 0 0 96 [some (.inr 0), some (.inl p1), some (.inl p2)] [] h := by
    intro c3
    refine zj_iconst (zdk ttX10_canAct 34 rfl rfl) ?_
    exact zj_zret rfl (zdk ttX10_canAct 35 rfl rfl) (Nat.le_refl _) (Nat.le_refl _) (by omega) ⟨0, rfl, rfl, b1, b2, (Or.inl ⟨rfl, (Or.inl (by omega))⟩)⟩
  have k5 : p1 = 0 → zJ shC l yX10_canAct cX10_canAct 3 (some .boolean) (rmL 2) 0 0 (q_X10_canAct h p1 p2) 0 0 32 [some (.inr 0), some (.inl p1), some (.inl p2)] [] h := by
    intro c3
    refine zj_aload_n (zdk ttX10_canAct 2 rfl rfl) rfl (by decide) ?_
    refine zj_getr (r := 1) (zdk ttX10_canAct 3 rfl rfl) zf_RX10_10 rfl (k_L0 s0) (rf_L0_0 s0) ?_
    refine zj_getr (r := 2) (zdk ttX10_canAct 4 rfl rfl) zf_RX10_67 rfl (k_9_0 s0 zWd_1) (rf_9_0_0 s0 zWd_1) ?_
    refine zj_iload_n (zdk ttX10_canAct 5 rfl rfl) rfl ?_
    refine zj_callV (av := [.inl p2]) (st := []) (zdk ttX10_canAct 6 rfl rfl) mb_X1_isHere mv_RX10_204 (ci := 1) rfl rfl (k_1_0 s0 zIs_2) rfl rfl (Nat.le_of_ble_eq_true rfl) (s_X1_isHere l h 2 p2 s0 zIs_2 (by omega)) (rm_ok (by decide) (by decide)) (zq_i fun v7 h8 q6 => ?_)
    obtain ⟨rfl, b10, ⟨rfl, b9⟩ | ⟨rfl, b9⟩⟩ := q6
    · exact zj_zret rfl (zdk ttX10_canAct 7 rfl rfl) (Nat.le_refl _) (Nat.le_refl _) (by omega) ⟨0, rfl, rfl, b1, b2, (Or.inl ⟨rfl, (Or.inr (Or.inl (by omega)))⟩)⟩
    · exact zj_zret rfl (zdk ttX10_canAct 7 rfl rfl) (Nat.le_refl _) (Nat.le_refl _) (by omega) ⟨1, rfl, rfl, b1, b2, (Or.inr ⟨rfl, (Or.inl (by omega))⟩)⟩
  have k11 : p1 = 1 → zJ shC l yX10_canAct cX10_canAct 3 (some .boolean) (rmL 2) 0 0 (q_X10_canAct h p1 p2) 0 0 44 [some (.inr 0), some (.inl p1), some (.inl p2)] [] h := by
    intro c3
    refine zj_aload_n (zdk ttX10_canAct 8 rfl rfl) rfl (by decide) ?_
    refine zj_getr (r := 1) (zdk ttX10_canAct 9 rfl rfl) zf_RX10_10 rfl (k_L0 s0) (rf_L0_0 s0) ?_
    refine zj_getr (r := 2) (zdk ttX10_canAct 10 rfl rfl) zf_RX10_67 rfl (k_9_0 s0 zWd_1) (rf_9_0_0 s0 zWd_1) ?_
    refine zj_iload_n (zdk ttX10_canAct 11 rfl rfl) rfl ?_
    refine zj_callV (av := [.inl p2]) (st := []) (zdk ttX10_canAct 12 rfl rfl) mb_X1_isHere mv_RX10_204 (ci := 1) rfl rfl (k_1_0 s0 zIs_2) rfl rfl (Nat.le_of_ble_eq_true rfl) (s_X1_isHere l h 2 p2 s0 zIs_2 (by omega)) (rm_ok (by decide) (by decide)) (zq_i fun v13 h14 q12 => ?_)
    obtain ⟨rfl, b16, ⟨rfl, b15⟩ | ⟨rfl, b15⟩⟩ := q12
    · refine zj_if_ne (t := 62) (zdk ttX10_canAct 13 rfl rfl) (by decide) (by decide) (fun c17 => ?_) (fun c17 => ?_)
      · exact absurd c17 (by omega)
      · refine zj_iconst (zdk ttX10_canAct 14 rfl rfl) ?_
        refine zj_goto (t := 63) (zdk ttX10_canAct 15 rfl rfl) (by decide) ?_
        exact zj_zret rfl (zdk ttX10_canAct 17 rfl rfl) (Nat.le_refl _) (Nat.le_refl _) (by omega) ⟨1, rfl, rfl, b1, b2, (Or.inr ⟨rfl, (Or.inr (Or.inl (by omega)))⟩)⟩
    · refine zj_if_ne (t := 62) (zdk ttX10_canAct 13 rfl rfl) (by decide) (by decide) (fun c18 => ?_) (fun c18 => ?_)
      · refine zj_iconst (zdk ttX10_canAct 16 rfl rfl) ?_
        exact zj_zret rfl (zdk ttX10_canAct 17 rfl rfl) (Nat.le_refl _) (Nat.le_refl _) (by omega) ⟨0, rfl, rfl, b1, b2, (Or.inl ⟨rfl, (Or.inr (Or.inr (Or.inl (by omega))))⟩)⟩
      · exact absurd c18 (by omega)
  have k19 : p1 = 2 → zJ shC l yX10_canAct cX10_canAct 3 (some .boolean) (rmL 2) 0 0 (q_X10_canAct h p1 p2) 0 0 64 [some (.inr 0), some (.inl p1), some (.inl p2)] [] h := by
    intro c3
    refine zj_aload_n (zdk ttX10_canAct 18 rfl rfl) rfl (by decide) ?_
    refine zj_getr (r := 1) (zdk ttX10_canAct 19 rfl rfl) zf_RX10_10 rfl (k_L0 s0) (rf_L0_0 s0) ?_
    refine zj_getr (r := 2) (zdk ttX10_canAct 20 rfl rfl) zf_RX10_67 rfl (k_9_0 s0 zWd_1) (rf_9_0_0 s0 zWd_1) ?_
    refine zj_iload_n (zdk ttX10_canAct 21 rfl rfl) rfl ?_
    refine zj_callV (av := [.inl p2]) (st := []) (zdk ttX10_canAct 22 rfl rfl) mb_X1_isBegged mv_RX10_207 (ci := 1) rfl rfl (k_1_0 s0 zIs_2) rfl rfl (Nat.le_of_ble_eq_true rfl) (s_X1_isBegged l h 2 p2 s0 zIs_2 (by omega)) (rm_ok (by decide) (by decide)) (zq_i fun v21 h22 q20 => ?_)
    obtain ⟨rfl, b24, ⟨rfl, b23⟩ | ⟨rfl, b23⟩⟩ := q20
    · refine zj_if_ne (t := 82) (zdk ttX10_canAct 23 rfl rfl) (by decide) (by decide) (fun c25 => ?_) (fun c25 => ?_)
      · exact absurd c25 (by omega)
      · refine zj_iconst (zdk ttX10_canAct 24 rfl rfl) ?_
        refine zj_goto (t := 83) (zdk ttX10_canAct 25 rfl rfl) (by decide) ?_
        exact zj_zret rfl (zdk ttX10_canAct 27 rfl rfl) (Nat.le_refl _) (Nat.le_refl _) (by omega) ⟨1, rfl, rfl, b1, b2, (Or.inr ⟨rfl, (Or.inr (Or.inr (Or.inl (by omega))))⟩)⟩
    · refine zj_if_ne (t := 82) (zdk ttX10_canAct 23 rfl rfl) (by decide) (by decide) (fun c26 => ?_) (fun c26 => ?_)
      · refine zj_iconst (zdk ttX10_canAct 26 rfl rfl) ?_
        exact zj_zret rfl (zdk ttX10_canAct 27 rfl rfl) (Nat.le_refl _) (Nat.le_refl _) (by omega) ⟨0, rfl, rfl, b1, b2, (Or.inl ⟨rfl, (Or.inr (Or.inr (Or.inr (Or.inl (by omega)))))⟩)⟩
      · exact absurd c26 (by omega)
  have k27 : p1 = 3 → zJ shC l yX10_canAct cX10_canAct 3 (some .boolean) (rmL 2) 0 0 (q_X10_canAct h p1 p2) 0 0 84 [some (.inr 0), some (.inl p1), some (.inl p2)] [] h := by
    intro c3
    refine zj_aload_n (zdk ttX10_canAct 28 rfl rfl) rfl (by decide) ?_
    refine zj_getr (r := 1) (zdk ttX10_canAct 29 rfl rfl) zf_RX10_10 rfl (k_L0 s0) (rf_L0_0 s0) ?_
    refine zj_getr (r := 2) (zdk ttX10_canAct 30 rfl rfl) zf_RX10_67 rfl (k_9_0 s0 zWd_1) (rf_9_0_0 s0 zWd_1) ?_
    refine zj_iload_n (zdk ttX10_canAct 31 rfl rfl) rfl ?_
    refine zj_callV (av := [.inl p2]) (st := []) (zdk ttX10_canAct 32 rfl rfl) mb_X1_isBegged mv_RX10_207 (ci := 1) rfl rfl (k_1_0 s0 zIs_2) rfl rfl (Nat.le_of_ble_eq_true rfl) (s_X1_isBegged l h 2 p2 s0 zIs_2 (by omega)) (rm_ok (by decide) (by decide)) (zq_i fun v29 h30 q28 => ?_)
    obtain ⟨rfl, b32, ⟨rfl, b31⟩ | ⟨rfl, b31⟩⟩ := q28
    · exact zj_zret rfl (zdk ttX10_canAct 33 rfl rfl) (Nat.le_refl _) (Nat.le_refl _) (by omega) ⟨0, rfl, rfl, b1, b2, (Or.inl ⟨rfl, (Or.inr (Or.inr (Or.inr (Or.inr (by omega)))))⟩)⟩
    · exact zj_zret rfl (zdk ttX10_canAct 33 rfl rfl) (Nat.le_refl _) (Nat.le_refl _) (by omega) ⟨1, rfl, rfl, b1, b2, (Or.inr ⟨rfl, (Or.inr (Or.inr (Or.inr (by omega))))⟩)⟩
  refine zj_table (t := 96) (zdk ttX10_canAct 1 rfl rfl) (by omega) (by decide) k4 (fun z1 z2 => ?_)
  have z3 : p1 = 0 ∨ p1 = 1 ∨ p1 = 2 ∨ p1 = 3 := by omega
  rcases z3 with z3 | z3 | z3 | z3
  · exact ⟨31, 32, by rw [z3] <;> rfl, by decide, k5 z3⟩
  · exact ⟨43, 44, by rw [z3] <;> rfl, by decide, k11 z3⟩
  · exact ⟨63, 64, by rw [z3] <;> rfl, by decide, k19 z3⟩
  · exact ⟨83, 84, by rw [z3] <;> rfl, by decide, k27 z3⟩

abbrev tX10_remember : List (Nat × Instr × Nat) := [(0, .aload_n 0, 1), (1, .getfield 55, 3), (4, .bipush 6, 2), (6, .if_icmp .lt 64, 3), (9, .aload_n 0, 1), (10, .getfield 47, 3), (13, .iconst 0, 1), (14, .aaload, 1), (15, .astore_n 1, 1), (16, .iconst 1, 1), (17, .istore_n 2, 1), (18, .iload_n 2, 1), (19, .bipush 6, 2), (21, .if_icmp .ge 37, 3), (24, .aload_n 0, 1), (25, .getfield 47, 3), (28, .iload_n 2, 1), (29, .iconst 1, 1), (30, .isub, 1), (31, .aload_n 0, 1), (32, .getfield 47, 3), (35, .iload_n 2, 1), (36, .aaload, 1), (37, .aastore, 1), (38, .aload_n 0, 1), (39, .getfield 51, 3), (42, .iload_n 2, 1), (43, .iconst 1, 1), (44, .isub, 1), (45, .aload_n 0, 1), (46, .getfield 51, 3), (49, .iload_n 2, 1), (50, .iaload, 1), (51, .iastore, 1), (52, .iinc 2 1, 3), (55, .goto (-37), 3), (58, .aload_n 0, 1), (59, .getfield 47, 3), (62, .iconst 5, 1), (63, .aload_n 1, 1), (64, .aastore, 1), (65, .aload_n 0, 1), (66, .iconst 5, 1), (67, .putfield 55, 3), (70, .aload_n 0, 1), (71, .getfield 47, 3), (74, .aload_n 0, 1), (75, .getfield 55, 3), (78, .aaload, 1), (79, .aload_n 0, 1), (80, .getfield 10, 3), (83, .getfield 67, 3), (86, .invokevirtual 332, 3), (89, .aload_n 0, 1), (90, .getfield 51, 3), (93, .aload_n 0, 1), (94, .getfield 55, 3), (97, .aload_n 0, 1), (98, .getfield 10, 3), (101, .getfield 219, 3), (104, .getfield 223, 3), (107, .iastore, 1), (108, .aload_n 0, 1), (109, .dup, 1), (110, .getfield 55, 3), (113, .iconst 1, 1), (114, .iadd, 1), (115, .putfield 55, 3), (118, .return_, 1)]
theorem ttX10_remember : zdt cX10_remember tX10_remember = true := by decide +kernel
abbrev w_X10_remember (a b : Int) : Prop := (a = 0 ∧ b = 8) ∨ (114 ≤ a ∧ a ≤ 139)
abbrev tX10_act : List (Nat × Instr × Nat) := [(0, .aload_n 0, 1), (1, .getfield 10, 3), (4, .getfield 67, 3), (7, .iload_n 2, 1), (8, .invokevirtual 106, 3), (11, .ifCond .eq 12, 3), (14, .aload_n 0, 1), (15, .iload_n 1, 1), (16, .iload_n 2, 1), (17, .invokevirtual 110, 3), (20, .ifCond .ne 5, 3), (23, .iconst 0, 1), (24, .ireturn, 1), (25, .aload_n 0, 1), (26, .invokevirtual 114, 3), (29, .iload_n 1, 1), (30, .tableswitch 69 0 2 #[26, 37, 48], 26), (56, .aload_n 0, 1), (57, .getfield 10, 3), (60, .iload_n 2, 1), (61, .invokevirtual 117, 3), (64, .goto 55, 3), (67, .aload_n 0, 1), (68, .getfield 10, 3), (71, .iload_n 2, 1), (72, .invokevirtual 121, 3), (75, .goto 44, 3), (78, .aload_n 0, 1), (79, .getfield 10, 3), (82, .getfield 67, 3), (85, .dup, 1), (86, .getfield 124, 3), (89, .iconst 1, 1), (90, .iload_n 2, 1), (91, .ishl, 1), (92, .ior, 1), (93, .putfield 124, 3), (96, .goto 23, 3), (99, .aload_n 0, 1), (100, .getfield 10, 3), (103, .getfield 67, 3), (106, .dup, 1), (107, .getfield 124, 3), (110, .iconst 1, 1), (111, .iload_n 2, 1), (112, .ishl, 1), (113, .iconst (-1), 1), (114, .ixor, 1), (115, .iand, 1), (116, .putfield 124, 3), (119, .iconst 1, 1), (120, .ireturn, 1)]
theorem ttX10_act : zdt cX10_act tX10_act = true := by decide +kernel
abbrev w_X10_act (a b : Int) : Prop := (a = 0 ∧ b = 8) ∨ (a = 2 ∧ 4 ≤ b ∧ b ≤ 5) ∨ (a = 2 ∧ b = 7) ∨ a = 5 ∨ a = 12 ∨ (a = 23 ∧ b = 4) ∨ (24 ≤ a ∧ a ≤ 27) ∨ (114 ≤ a ∧ a ≤ 139)
abbrev tX10_days : List (Nat × Instr × Nat) := [(0, .iload_n 1, 1), (1, .iconst 1, 1), (2, .bipush 60, 2), (4, .invokestatic 77, 3), (7, .ifCond .eq 21, 3), (10, .aload_n 0, 1), (11, .getfield 10, 3), (14, .getfield 67, 3), (17, .getfield 127, 3), (20, .iload_n 1, 1), (21, .iadd, 1), (22, .sipush 9999, 3), (25, .if_icmp .le 5, 3), (28, .iconst (-1), 1), (29, .ireturn, 1), (30, .aload_n 0, 1), (31, .getfield 10, 3), (34, .getfield 67, 3), (37, .getfield 130, 3), (40, .istore_n 2, 1), (41, .iconst 0, 1), (42, .istore_n 3, 1), (43, .iload_n 3, 1), (44, .iload_n 1, 1), (45, .if_icmp .ge 21, 3), (48, .aload_n 0, 1), (49, .invokevirtual 114, 3), (52, .aload_n 0, 1), (53, .getfield 10, 3), (56, .iconst 0, 1), (57, .invokevirtual 133, 3), (60, .iinc 3 1, 3), (63, .goto (-20), 3), (66, .aload_n 0, 1), (67, .getfield 10, 3), (70, .getfield 67, 3), (73, .getfield 130, 3), (76, .iload_n 2, 1), (77, .isub, 1), (78, .ireturn, 1)]
theorem ttX10_days : zdt cX10_days tX10_days = true := by decide +kernel
abbrev w_X10_days (a b : Int) : Prop := (a = 0 ∧ b = 8) ∨ (a = 2 ∧ 4 ≤ b ∧ b ≤ 13) ∨ a = 5 ∨ a = 12 ∨ (a = 23 ∧ b = 4) ∨ (24 ≤ a ∧ a ≤ 27) ∨ (114 ≤ a ∧ a ≤ 139)
abbrev tX10_feed : List (Nat × Instr × Nat) := [(0, .aload_n 0, 1), (1, .getfield 25, 3), (4, .getfield 137, 3), (7, .sipush 380, 3), (10, .if_icmp .le 5, 3), (13, .iconst (-1), 1), (14, .ireturn, 1), (15, .aload_n 0, 1), (16, .getfield 25, 3), (19, .iload_n 1, 1), (20, .invokevirtual 140, 3), (23, .aload_n 0, 1), (24, .getfield 25, 3), (27, .iload_n 2, 1), (28, .invokevirtual 140, 3), (31, .aload_n 0, 1), (32, .getfield 25, 3), (35, .iload_n 3, 1), (36, .invokevirtual 140, 3), (39, .aload_n 0, 1), (40, .getfield 25, 3), (43, .iload 4, 2), (45, .invokevirtual 140, 3), (48, .aload_n 0, 1), (49, .getfield 25, 3), (52, .iload 5, 2), (54, .invokevirtual 140, 3), (57, .aload_n 0, 1), (58, .getfield 25, 3), (61, .getfield 137, 3), (64, .ireturn, 1)]
theorem ttX10_feed : zdt cX10_feed tX10_feed = true := by decide +kernel
abbrev w_X10_feed (a b : Int) : Prop := (a = 103 ∧ b = 3) ∨ a = 104
abbrev tX10_end : List (Nat × Instr × Nat) := [(0, .iload_n 1, 1), (1, .iconst 0, 1), (2, .aload_n 0, 1), (3, .getfield 25, 3), (6, .getfield 137, 3), (9, .invokestatic 77, 3), (12, .ifCond .ne 5, 3), (15, .iconst 0, 1), (16, .ireturn, 1), (17, .aload_n 0, 1), (18, .getfield 25, 3), (21, .iload_n 1, 1), (22, .putfield 137, 3), (25, .iconst 1, 1), (26, .ireturn, 1)]
theorem ttX10_end : zdt cX10_end tX10_end = true := by decide +kernel
abbrev w_X10_end (a b : Int) : Prop := (a = 103 ∧ b = 3)
abbrev q_X10_end (h : zM) (p1 : Int) : Option zV → zM → Prop := zqi fun v h' => (0 ≤ v ∧ v ≤ 1) ∧ okC h' ∧ zfC w_X10_end h h' ∧ (zen p1 (h.2 103 3) v (h'.2 103 3))
set_option maxRecDepth 100000 in
set_option maxHeartbeats 4000000 in
theorem s_X10_end (l : Launch) (h : zM) (p1 : Int) (s0 : okC h) (b_p1 : (-2147483648) ≤ p1 ∧ p1 ≤ 2147483647) : zT shC l yX10_end cX10_end 2 (some .boolean) (rmL 2) 0 0 [.inr 0, .inl p1] h (q_X10_end h p1) := by
  refine zT_of (by decide +kernel) (L0 := [some (.inr 0), some (.inl p1)]) rfl (Nat.le_of_ble_eq_true rfl) ?_
  refine zj_iload_n (zdk ttX10_end 0 rfl rfl) rfl ?_
  refine zj_iconst (zdk ttX10_end 1 rfl rfl) ?_
  refine zj_aload_n (zdk ttX10_end 2 rfl rfl) rfl (by decide) ?_
  refine zj_getr (r := 103) (zdk ttX10_end 3 rfl rfl) zf_RX10_25 rfl (k_L0 s0) (rf_L0_3 s0) ?_
  have b1 : 0 ≤ (h.2 103 3) ∧ (h.2 103 3) ≤ 400 := fb_L103_3 s0
  refine zj_geti (v := (h.2 103 3)) (zdk ttX10_end 4 rfl rfl) zf_RX10_137 rfl (k_L103 s0) rfl ?_
  refine zj_callS (av := [.inl p1, .inl 0, .inl (h.2 103 3)]) (st := []) (zdk ttX10_end 5 rfl rfl) mb_X10_within ms_RX10_77 rfl rfl (Nat.le_of_ble_eq_true rfl) (s_X10_within l h p1 0 (h.2 103 3) s0 (by omega) (by omega) (by omega)) (rm_ok (by decide) (by decide)) (zq_i fun v3 h4 q2 => ?_)
  obtain ⟨rfl, ⟨rfl, b5⟩ | ⟨rfl, b5⟩⟩ := q2
  · refine zj_if_ne (t := 17) (zdk ttX10_end 6 rfl rfl) (by decide) (by decide) (fun c6 => ?_) (fun c6 => ?_)
    · exact absurd c6 (by omega)
    · refine zj_iconst (zdk ttX10_end 7 rfl rfl) ?_
      exact zj_zret rfl (zdk ttX10_end 8 rfl rfl) (Nat.le_refl _) (Nat.le_refl _) (by omega) ⟨0, rfl, by omega, s0, (zfC_r _ _), by unfold zen; omega⟩
  · refine zj_if_ne (t := 17) (zdk ttX10_end 6 rfl rfl) (by decide) (by decide) (fun c7 => ?_) (fun c7 => ?_)
    · refine zj_aload_n (zdk ttX10_end 9 rfl rfl) rfl (by decide) ?_
      refine zj_getr (r := 103) (zdk ttX10_end 10 rfl rfl) zf_RX10_25 rfl (k_L0 s0) (rf_L0_3 s0) ?_
      refine zj_iload_n (zdk ttX10_end 11 rfl rfl) rfl ?_
      refine zj_puti (zdk ttX10_end 12 rfl rfl) zf_RX10_137 rfl (k_L103 s0) (Or.inl zw_RX10_137) (k2 := 3) rfl (fun h8 e9 => ?_)
      refine zj_iconst (zdk ttX10_end 13 rfl rfl) ?_
      have s10 : okC h8 := fw_L103_3 s0 e9 (by omega)
      have f11 : zfC w_X10_end h h8 := zfC_w (zfC_r _ _) e9 (by omega)
      have b12 : h8.2 103 3 = p1 := (zwr_v e9)
      exact zj_zret rfl (zdk ttX10_end 14 rfl rfl) (Nat.le_refl _) (Nat.le_refl _) (by omega) ⟨1, rfl, by omega, s10, f11, by unfold zen; omega⟩
    · exact absurd c7 (by omega)

abbrev tX10_fault : List (Nat × Instr × Nat) := [(0, .iload_n 1, 1), (1, .lookupswitch 43 #[(0, 27), (1, 35)], 27), (28, .aload_n 0, 1), (29, .getfield 25, 3), (32, .getfield 198, 3), (35, .ireturn, 1), (36, .aload_n 0, 1), (37, .getfield 25, 3), (40, .getfield 201, 3), (43, .ireturn, 1), (44, .iconst (-1), 1), (45, .ireturn, 1)]
theorem ttX10_fault : zdt cX10_fault tX10_fault = true := by decide +kernel
abbrev w_X10_fault (a b : Int) : Prop := False
abbrev tX10_of : List (Nat × Instr × Nat) := [(0, .aload_n 0, 1), (1, .getfield 10, 3), (4, .getfield 67, 3), (7, .astore_n 3, 1), (8, .aload_n 3, 1), (9, .iload_n 1, 1), (10, .invokevirtual 106, 3), (13, .ifCond .ne 5, 3), (16, .iconst (-1), 1), (17, .ireturn, 1), (18, .iload_n 2, 1), (19, .tableswitch 141 0 8 #[49, 56, 63, 77, 91, 98, 108, 118, 128], 49), (68, .aload_n 3, 1), (69, .getfield 91, 3), (72, .iload_n 1, 1), (73, .iaload, 1), (74, .ireturn, 1), (75, .aload_n 3, 1), (76, .getfield 94, 3), (79, .iload_n 1, 1), (80, .iaload, 1), (81, .ireturn, 1), (82, .aload_n 3, 1), (83, .iload_n 1, 1), (84, .invokevirtual 204, 3), (87, .ifCond .eq 7, 3), (90, .iconst 1, 1), (91, .goto 4, 3), (94, .iconst 0, 1), (95, .ireturn, 1), (96, .aload_n 3, 1), (97, .iload_n 1, 1), (98, .invokevirtual 207, 3), (101, .ifCond .eq 7, 3), (104, .iconst 1, 1), (105, .goto 4, 3), (108, .iconst 0, 1), (109, .ireturn, 1), (110, .aload_n 3, 1), (111, .getfield 210, 3), (114, .iload_n 1, 1), (115, .iaload, 1), (116, .ireturn, 1), (117, .aload_n 0, 1), (118, .getfield 10, 3), (121, .iconst 0, 1), (122, .iload_n 1, 1), (123, .invokevirtual 213, 3), (126, .ireturn, 1), (127, .aload_n 0, 1), (128, .getfield 10, 3), (131, .iconst 1, 1), (132, .iload_n 1, 1), (133, .invokevirtual 213, 3), (136, .ireturn, 1), (137, .aload_n 0, 1), (138, .getfield 10, 3), (141, .iconst 2, 1), (142, .iload_n 1, 1), (143, .invokevirtual 213, 3), (146, .ireturn, 1), (147, .aload_n 0, 1), (148, .getfield 10, 3), (151, .getfield 184, 3), (154, .getfield 216, 3), (157, .iload_n 1, 1), (158, .iaload, 1), (159, .ireturn, 1), (160, .iconst (-1), 1), (161, .ireturn, 1)]
theorem ttX10_of : zdt cX10_of tX10_of = true := by decide +kernel
abbrev w_X10_of (a b : Int) : Prop := a = 12
abbrev tX10_book : List (Nat × Instr × Nat) := [(0, .aload_n 0, 1), (1, .getfield 10, 3), (4, .getfield 219, 3), (7, .astore_n 3, 1), (8, .iload_n 1, 1), (9, .iconst 0, 1), (10, .aload_n 3, 1), (11, .getfield 223, 3), (14, .iconst 1, 1), (15, .isub, 1), (16, .invokestatic 77, 3), (19, .ifCond .ne 6, 3), (22, .bipush (-2), 2), (24, .ireturn, 1), (25, .iload_n 2, 1), (26, .tableswitch 58 0 3 #[30, 37, 44, 51], 30), (56, .aload_n 3, 1), (57, .getfield 226, 3), (60, .iload_n 1, 1), (61, .iaload, 1), (62, .ireturn, 1), (63, .aload_n 3, 1), (64, .getfield 228, 3), (67, .iload_n 1, 1), (68, .iaload, 1), (69, .ireturn, 1), (70, .aload_n 3, 1), (71, .getfield 231, 3), (74, .iload_n 1, 1), (75, .iaload, 1), (76, .ireturn, 1), (77, .aload_n 3, 1), (78, .getfield 234, 3), (81, .iload_n 1, 1), (82, .iaload, 1), (83, .ireturn, 1), (84, .bipush (-2), 2), (86, .ireturn, 1)]
theorem ttX10_book : zdt cX10_book tX10_book = true := by decide +kernel
abbrev w_X10_book (a b : Int) : Prop := False
abbrev tX10_goes : List (Nat × Instr × Nat) := [(0, .iload_n 1, 1), (1, .iconst 1, 1), (2, .bipush 60, 2), (4, .invokestatic 77, 3), (7, .ifCond .eq 12, 3), (10, .iload_n 2, 1), (11, .iconst 0, 1), (12, .iconst 3, 1), (13, .invokestatic 77, 3), (16, .ifCond .ne 5, 3), (19, .iconst (-1), 1), (20, .ireturn, 1), (21, .aload_n 0, 1), (22, .getfield 19, 3), (25, .aload_n 0, 1), (26, .getfield 10, 3), (29, .invokevirtual 237, 3), (32, .iconst 0, 1), (33, .istore_n 3, 1), (34, .iload_n 3, 1), (35, .iload_n 1, 1), (36, .if_icmp .ge 17, 3), (39, .aload_n 0, 1), (40, .getfield 19, 3), (43, .iconst 1, 1), (44, .invokevirtual 133, 3), (47, .iinc 3 1, 3), (50, .goto (-16), 3), (53, .aload_n 0, 1), (54, .getfield 19, 3), (57, .getfield 67, 3), (60, .astore_n 3, 1), (61, .iload_n 2, 1), (62, .tableswitch 44 0 2 #[26, 31, 39], 26), (88, .aload_n 3, 1), (89, .getfield 97, 3), (92, .ireturn, 1), (93, .aload_n 3, 1), (94, .getfield 240, 3), (97, .invokestatic 243, 3), (100, .ireturn, 1), (101, .aload_n 3, 1), (102, .getfield 130, 3), (105, .ireturn, 1), (106, .aload_n 3, 1), (107, .getfield 103, 3), (110, .ireturn, 1)]
theorem ttX10_goes : zdt cX10_goes tX10_goes = true := by decide +kernel
abbrev w_X10_goes (a b : Int) : Prop := (a = 70 ∧ 3 ≤ b ∧ b ≤ 13) ∨ (71 ≤ a ∧ a ≤ 73) ∨ (a = 74 ∧ 6 ≤ b ∧ b ≤ 7) ∨ (75 ≤ a ∧ a ≤ 80) ∨ (a = 81 ∧ b = 3) ∨ (82 ≤ a ∧ a ≤ 84) ∨ (a = 85 ∧ b = 3) ∨ (86 ≤ a ∧ a ≤ 88) ∨ (a = 89 ∧ b = 1) ∨ a = 90 ∨ (a = 91 ∧ b = 4) ∨ (92 ≤ a ∧ a ≤ 95) ∨ (a = 96 ∧ b = 2) ∨ (a = 96 ∧ b = 4) ∨ (a = 96 ∧ b = 6) ∨ (a = 96 ∧ b = 9) ∨ (97 ≤ a ∧ a ≤ 102)
abbrev tX10_lonely : List (Nat × Instr × Nat) := [(0, .aload_n 0, 1), (1, .getfield 19, 3), (4, .aload_n 0, 1), (5, .getfield 10, 3), (8, .invokevirtual 237, 3), (11, .iconst 0, 1), (12, .istore_n 1, 1), (13, .iload_n 1, 1), (14, .bipush 60, 2), (16, .if_icmp .gt 32, 3), (19, .aload_n 0, 1), (20, .getfield 19, 3), (23, .getfield 67, 3), (26, .getfield 240, 3), (29, .ifCond .ne 5, 3), (32, .iload_n 1, 1), (33, .ireturn, 1), (34, .aload_n 0, 1), (35, .getfield 19, 3), (38, .iconst 1, 1), (39, .invokevirtual 133, 3), (42, .iinc 1 1, 3), (45, .goto (-32), 3), (48, .iconst (-1), 1), (49, .ireturn, 1)]
theorem ttX10_lonely : zdt cX10_lonely tX10_lonely = true := by decide +kernel
abbrev w_X10_lonely (a b : Int) : Prop := (a = 70 ∧ 3 ≤ b ∧ b ≤ 13) ∨ (71 ≤ a ∧ a ≤ 73) ∨ (a = 74 ∧ 6 ≤ b ∧ b ≤ 7) ∨ (75 ≤ a ∧ a ≤ 80) ∨ (a = 81 ∧ b = 3) ∨ (82 ≤ a ∧ a ≤ 84) ∨ (a = 85 ∧ b = 3) ∨ (86 ≤ a ∧ a ≤ 88) ∨ (a = 89 ∧ b = 1) ∨ a = 90 ∨ (a = 91 ∧ b = 4) ∨ (92 ≤ a ∧ a ≤ 95) ∨ (a = 96 ∧ b = 2) ∨ (a = 96 ∧ b = 4) ∨ (a = 96 ∧ b = 6) ∨ (a = 96 ∧ b = 9) ∨ (97 ≤ a ∧ a ≤ 102)
abbrev tX10_strokes : List (Nat × Instr × Nat) := [(0, .iload_n 1, 1), (1, .iconst 0, 1), (2, .sipush 719, 3), (5, .invokestatic 77, 3), (8, .ifCond .eq 14, 3), (11, .iload_n 2, 1), (12, .iconst 0, 1), (13, .sipush 719, 3), (16, .invokestatic 77, 3), (19, .ifCond .ne 5, 3), (22, .iconst (-1), 1), (23, .ireturn, 1), (24, .iload_n 1, 1), (25, .iload_n 1, 1), (26, .iload_n 2, 1), (27, .if_icmp .gt 9, 3), (30, .iload_n 2, 1), (31, .iload_n 1, 1), (32, .isub, 1), (33, .goto 10, 3), (36, .iload_n 2, 1), (37, .sipush 720, 3), (40, .iadd, 1), (41, .iload_n 1, 1), (42, .isub, 1), (43, .invokestatic 254, 3), (46, .ireturn, 1)]
theorem ttX10_strokes : zdt cX10_strokes tX10_strokes = true := by decide +kernel
abbrev w_X10_strokes (a b : Int) : Prop := False
abbrev q_X10_strokes (h : zM) (p1 : Int) (p2 : Int) : Option zV → zM → Prop := zqi fun v h' => ((-2147483648) ≤ v ∧ v ≤ 2147483647) ∧ okC h' ∧ zfC w_X10_strokes h h'
set_option maxRecDepth 100000 in
set_option maxHeartbeats 4000000 in
theorem s_X10_strokes (l : Launch) (h : zM) (p1 : Int) (p2 : Int) (s0 : okC h) (b_p1 : (-2147483648) ≤ p1 ∧ p1 ≤ 2147483647) (b_p2 : (-2147483648) ≤ p2 ∧ p2 ≤ 2147483647) : zT shC l yX10_strokes cX10_strokes 3 (some .int) (rmL 2) 0 0 [.inr 0, .inl p1, .inl p2] h (q_X10_strokes h p1 p2) := by
  refine zT_of (by decide +kernel) (L0 := [some (.inr 0), some (.inl p1), some (.inl p2)]) rfl (Nat.le_of_ble_eq_true rfl) ?_
  refine zj_iload_n (zdk ttX10_strokes 0 rfl rfl) rfl ?_
  refine zj_iconst (zdk ttX10_strokes 1 rfl rfl) ?_
  refine zj_sipush (zdk ttX10_strokes 2 rfl rfl) (by decide) ?_
  refine zj_callS (av := [.inl p1, .inl 0, .inl 719]) (st := []) (zdk ttX10_strokes 3 rfl rfl) mb_X10_within ms_RX10_77 rfl rfl (Nat.le_of_ble_eq_true rfl) (s_X10_within l h p1 0 719 s0 (by omega) (by omega) (by omega)) (rm_ok (by decide) (by decide)) (zq_i fun v2 h3 q1 => ?_)
  obtain ⟨rfl, ⟨rfl, b4⟩ | ⟨rfl, b4⟩⟩ := q1
  · refine zj_if_eq (t := 22) (zdk ttX10_strokes 4 rfl rfl) (by decide) (by decide) (fun c5 => ?_) (fun c5 => ?_)
    · refine zj_iconst (zdk ttX10_strokes 10 rfl rfl) ?_
      exact zj_iret rfl (zdk ttX10_strokes 11 rfl rfl) (Nat.le_refl _) (Nat.le_refl _) ⟨(-1), rfl, by omega, s0, (zfC_r _ _)⟩
    · exact absurd c5 (by omega)
  · refine zj_if_eq (t := 22) (zdk ttX10_strokes 4 rfl rfl) (by decide) (by decide) (fun c6 => ?_) (fun c6 => ?_)
    · exact absurd c6 (by omega)
    · refine zj_iload_n (zdk ttX10_strokes 5 rfl rfl) rfl ?_
      refine zj_iconst (zdk ttX10_strokes 6 rfl rfl) ?_
      refine zj_sipush (zdk ttX10_strokes 7 rfl rfl) (by decide) ?_
      refine zj_callS (av := [.inl p2, .inl 0, .inl 719]) (st := []) (zdk ttX10_strokes 8 rfl rfl) mb_X10_within ms_RX10_77 rfl rfl (Nat.le_of_ble_eq_true rfl) (s_X10_within l h p2 0 719 s0 (by omega) (by omega) (by omega)) (rm_ok (by decide) (by decide)) (zq_i fun v8 h9 q7 => ?_)
      obtain ⟨rfl, ⟨rfl, b10⟩ | ⟨rfl, b10⟩⟩ := q7
      · refine zj_if_ne (t := 24) (zdk ttX10_strokes 9 rfl rfl) (by decide) (by decide) (fun c11 => ?_) (fun c11 => ?_)
        · exact absurd c11 (by omega)
        · refine zj_iconst (zdk ttX10_strokes 10 rfl rfl) ?_
          exact zj_iret rfl (zdk ttX10_strokes 11 rfl rfl) (Nat.le_refl _) (Nat.le_refl _) ⟨(-1), rfl, by omega, s0, (zfC_r _ _)⟩
      · refine zj_if_ne (t := 24) (zdk ttX10_strokes 9 rfl rfl) (by decide) (by decide) (fun c12 => ?_) (fun c12 => ?_)
        · refine zj_iload_n (zdk ttX10_strokes 12 rfl rfl) rfl ?_
          refine zj_iload_n (zdk ttX10_strokes 13 rfl rfl) rfl ?_
          refine zj_iload_n (zdk ttX10_strokes 14 rfl rfl) rfl ?_
          refine zj_icmp_gt (t := 36) (zdk ttX10_strokes 15 rfl rfl) (by decide) (by omega) (by omega) (fun c13 => ?_) (fun c13 => ?_)
          · refine zj_iload_n (zdk ttX10_strokes 20 rfl rfl) rfl ?_
            refine zj_sipush (zdk ttX10_strokes 21 rfl rfl) (by decide) ?_
            refine zj_iadd (zdk ttX10_strokes 22 rfl rfl) ?_
            refine zj_iload_n (zdk ttX10_strokes 23 rfl rfl) rfl ?_
            refine zj_isub (zdk ttX10_strokes 24 rfl rfl) ?_
            refine zj_callS (av := [.inl p1, .inl ((p2 + 720) - p1)]) (st := []) (zdk ttX10_strokes 25 rfl rfl) mb_X8_strokesOver ms_RX10_254 rfl rfl (Nat.le_of_ble_eq_true rfl) (s_X8_strokesOver l h p1 ((p2 + 720) - p1) s0 (by omega) (by omega)) (rm_ok (by decide) (by decide)) (zq_i fun v15 h16 q14 => ?_)
            obtain ⟨rfl, b17⟩ := q14
            exact zj_iret rfl (zdk ttX10_strokes 26 rfl rfl) (Nat.le_refl _) (Nat.le_refl _) ⟨v15, rfl, by omega, s0, (zfC_r _ _)⟩
          · refine zj_iload_n (zdk ttX10_strokes 16 rfl rfl) rfl ?_
            refine zj_iload_n (zdk ttX10_strokes 17 rfl rfl) rfl ?_
            refine zj_isub (zdk ttX10_strokes 18 rfl rfl) ?_
            refine zj_goto (t := 43) (zdk ttX10_strokes 19 rfl rfl) (by decide) ?_
            refine zj_callS (av := [.inl p1, .inl (p2 - p1)]) (st := []) (zdk ttX10_strokes 25 rfl rfl) mb_X8_strokesOver ms_RX10_254 rfl rfl (Nat.le_of_ble_eq_true rfl) (s_X8_strokesOver l h p1 (p2 - p1) s0 (by omega) (by omega)) (rm_ok (by decide) (by decide)) (zq_i fun v19 h20 q18 => ?_)
            obtain ⟨rfl, b21⟩ := q18
            exact zj_iret rfl (zdk ttX10_strokes 26 rfl rfl) (Nat.le_refl _) (Nat.le_refl _) ⟨v19, rfl, by omega, s0, (zfC_r _ _)⟩
        · exact absurd c12 (by omega)

abbrev tX10_hands : List (Nat × Instr × Nat) := [(0, .iload_n 2, 1), (1, .ifCond .ne 19, 3), (4, .iload_n 1, 1), (5, .iconst 0, 1), (6, .sipush 719, 3), (9, .invokestatic 77, 3), (12, .ifCond .eq 8, 3), (15, .iload_n 1, 1), (16, .invokestatic 257, 3), (19, .ireturn, 1), (20, .iload_n 2, 1), (21, .iconst 1, 1), (22, .if_icmp .ne 19, 3), (25, .iload_n 1, 1), (26, .iconst 0, 1), (27, .sipush 360, 3), (30, .invokestatic 77, 3), (33, .ifCond .eq 8, 3), (36, .iload_n 1, 1), (37, .invokestatic 260, 3), (40, .ireturn, 1), (41, .iconst (-1), 1), (42, .ireturn, 1)]
theorem ttX10_hands : zdt cX10_hands tX10_hands = true := by decide +kernel
abbrev w_X10_hands (a b : Int) : Prop := False
abbrev q_X10_hands (h : zM) (p1 : Int) (p2 : Int) : Option zV → zM → Prop := zqi fun v h' => ((-2147483648) ≤ v ∧ v ≤ 2147483647) ∧ okC h' ∧ zfC w_X10_hands h h'
set_option maxRecDepth 100000 in
set_option maxHeartbeats 4000000 in
theorem s_X10_hands (l : Launch) (h : zM) (p1 : Int) (p2 : Int) (s0 : okC h) (b_p1 : (-2147483648) ≤ p1 ∧ p1 ≤ 2147483647) (b_p2 : (-2147483648) ≤ p2 ∧ p2 ≤ 2147483647) : zT shC l yX10_hands cX10_hands 3 (some .int) (rmL 4) 0 0 [.inr 0, .inl p1, .inl p2] h (q_X10_hands h p1 p2) := by
  refine zT_of (by decide +kernel) (L0 := [some (.inr 0), some (.inl p1), some (.inl p2)]) rfl (Nat.le_of_ble_eq_true rfl) ?_
  refine zj_iload_n (zdk ttX10_hands 0 rfl rfl) rfl ?_
  refine zj_if_ne (t := 20) (zdk ttX10_hands 1 rfl rfl) (by decide) (by omega) (fun c1 => ?_) (fun c1 => ?_)
  · refine zj_iload_n (zdk ttX10_hands 10 rfl rfl) rfl ?_
    refine zj_iconst (zdk ttX10_hands 11 rfl rfl) ?_
    refine zj_icmp_ne (t := 41) (zdk ttX10_hands 12 rfl rfl) (by decide) (by omega) (by decide) (fun c2 => ?_) (fun c2 => ?_)
    · refine zj_iconst (zdk ttX10_hands 21 rfl rfl) ?_
      exact zj_iret rfl (zdk ttX10_hands 22 rfl rfl) (Nat.le_refl _) (Nat.le_refl _) ⟨(-1), rfl, by omega, s0, (zfC_r _ _)⟩
    · refine zj_iload_n (zdk ttX10_hands 13 rfl rfl) rfl ?_
      refine zj_iconst (zdk ttX10_hands 14 rfl rfl) ?_
      refine zj_sipush (zdk ttX10_hands 15 rfl rfl) (by decide) ?_
      refine zj_callS (av := [.inl p1, .inl 0, .inl 360]) (st := []) (zdk ttX10_hands 16 rfl rfl) mb_X10_within ms_RX10_77 rfl rfl (Nat.le_of_ble_eq_true rfl) (s_X10_within l h p1 0 360 s0 (by omega) (by omega) (by omega)) (rm_ok (by decide) (by decide)) (zq_i fun v4 h5 q3 => ?_)
      obtain ⟨rfl, ⟨rfl, b6⟩ | ⟨rfl, b6⟩⟩ := q3
      · refine zj_if_eq (t := 41) (zdk ttX10_hands 17 rfl rfl) (by decide) (by decide) (fun c7 => ?_) (fun c7 => ?_)
        · refine zj_iconst (zdk ttX10_hands 21 rfl rfl) ?_
          exact zj_iret rfl (zdk ttX10_hands 22 rfl rfl) (Nat.le_refl _) (Nat.le_refl _) ⟨(-1), rfl, by omega, s0, (zfC_r _ _)⟩
        · exact absurd c7 (by omega)
      · refine zj_if_eq (t := 41) (zdk ttX10_hands 17 rfl rfl) (by decide) (by decide) (fun c8 => ?_) (fun c8 => ?_)
        · exact absurd c8 (by omega)
        · refine zj_iload_n (zdk ttX10_hands 18 rfl rfl) rfl ?_
          refine zj_callS (av := [.inl p1]) (st := []) (zdk ttX10_hands 19 rfl rfl) mb_X8_minutesApartBy ms_RX10_260 rfl rfl (Nat.le_of_ble_eq_true rfl) (s_X8_minutesApartBy l h p1 s0 (by omega)) (rm_ok (by decide) (by decide)) (zq_i fun v10 h11 q9 => ?_)
          obtain ⟨rfl, b12⟩ := q9
          exact zj_iret rfl (zdk ttX10_hands 20 rfl rfl) (Nat.le_refl _) (Nat.le_refl _) ⟨v10, rfl, by omega, s0, (zfC_r _ _)⟩
  · refine zj_iload_n (zdk ttX10_hands 2 rfl rfl) rfl ?_
    refine zj_iconst (zdk ttX10_hands 3 rfl rfl) ?_
    refine zj_sipush (zdk ttX10_hands 4 rfl rfl) (by decide) ?_
    refine zj_callS (av := [.inl p1, .inl 0, .inl 719]) (st := []) (zdk ttX10_hands 5 rfl rfl) mb_X10_within ms_RX10_77 rfl rfl (Nat.le_of_ble_eq_true rfl) (s_X10_within l h p1 0 719 s0 (by omega) (by omega) (by omega)) (rm_ok (by decide) (by decide)) (zq_i fun v14 h15 q13 => ?_)
    obtain ⟨rfl, ⟨rfl, b16⟩ | ⟨rfl, b16⟩⟩ := q13
    · refine zj_if_eq (t := 20) (zdk ttX10_hands 6 rfl rfl) (by decide) (by decide) (fun c17 => ?_) (fun c17 => ?_)
      · refine zj_iload_n (zdk ttX10_hands 10 rfl rfl) rfl ?_
        refine zj_iconst (zdk ttX10_hands 11 rfl rfl) ?_
        refine zj_icmp_ne (t := 41) (zdk ttX10_hands 12 rfl rfl) (by decide) (by omega) (by decide) (fun c18 => ?_) (fun c18 => ?_)
        · refine zj_iconst (zdk ttX10_hands 21 rfl rfl) ?_
          exact zj_iret rfl (zdk ttX10_hands 22 rfl rfl) (Nat.le_refl _) (Nat.le_refl _) ⟨(-1), rfl, by omega, s0, (zfC_r _ _)⟩
        · exact absurd c18 (by omega)
      · exact absurd c17 (by omega)
    · refine zj_if_eq (t := 20) (zdk ttX10_hands 6 rfl rfl) (by decide) (by decide) (fun c19 => ?_) (fun c19 => ?_)
      · exact absurd c19 (by omega)
      · refine zj_iload_n (zdk ttX10_hands 7 rfl rfl) rfl ?_
        refine zj_callS (av := [.inl p1]) (st := []) (zdk ttX10_hands 8 rfl rfl) mb_X8_handsApart ms_RX10_257 rfl rfl (Nat.le_of_ble_eq_true rfl) (s_X8_handsApart l h p1 s0 (by omega)) (rm_ok (by decide) (by decide)) (zq_i fun v21 h22 q20 => ?_)
        obtain ⟨rfl, b23⟩ := q20
        have b24 : 0 ≤ v21 ∧ v21 ≤ 719 := by omega
        exact zj_iret rfl (zdk ttX10_hands 9 rfl rfl) (Nat.le_refl _) (Nat.le_refl _) ⟨v21, rfl, by omega, s0, (zfC_r _ _)⟩

abbrev tX10_wheel : List (Nat × Instr × Nat) := [(0, .aload_n 0, 1), (1, .getfield 10, 3), (4, .getfield 263, 3), (7, .iload_n 1, 1), (8, .iload_n 2, 1), (9, .invokevirtual 267, 3), (12, .ireturn, 1)]
theorem ttX10_wheel : zdt cX10_wheel tX10_wheel = true := by decide +kernel
abbrev w_X10_wheel (a b : Int) : Prop := (a = 28 ∧ b = 2) ∨ (29 ≤ a ∧ a ≤ 30)
abbrev q_X10_wheel (h : zM) (p1 : Int) (p2 : Int) : Option zV → zM → Prop := zqi fun v h' => ((-2147483648) ≤ v ∧ v ≤ 2147483647) ∧ okC h' ∧ zfC w_X10_wheel h h' ∧ (zcw (p1 = -1) (6 ≤ p1 ∧ p1 ≤ 99) 5 (h.2 28 2) v (h'.2 28 2))
set_option maxRecDepth 100000 in
set_option maxHeartbeats 4000000 in
theorem s_X10_wheel (l : Launch) (h : zM) (p1 : Int) (p2 : Int) (s0 : okC h) (b_p1 : (-2147483648) ≤ p1 ∧ p1 ≤ 2147483647) (b_p2 : 0 ≤ p2 ∧ p2 ≤ 1) : zT shC l yX10_wheel cX10_wheel 3 (some .int) (rmL 3) 0 0 [.inr 0, .inl p1, .inl p2] h (q_X10_wheel h p1 p2) := by
  refine zT_of (by decide +kernel) (L0 := [some (.inr 0), some (.inl p1), some (.inl p2)]) rfl (Nat.le_of_ble_eq_true rfl) ?_
  refine zj_aload_n (zdk ttX10_wheel 0 rfl rfl) rfl (by decide) ?_
  refine zj_getr (r := 1) (zdk ttX10_wheel 1 rfl rfl) zf_RX10_10 rfl (k_L0 s0) (rf_L0_0 s0) ?_
  refine zj_getr (r := 28) (zdk ttX10_wheel 2 rfl rfl) zf_RX10_263 rfl (k_9_0 s0 zWd_1) (rf_9_0_6 s0 zWd_1) ?_
  refine zj_iload_n (zdk ttX10_wheel 3 rfl rfl) rfl ?_
  refine zj_iload_n (zdk ttX10_wheel 4 rfl rfl) rfl ?_
  refine zj_callV (av := [.inl p1, .inl p2]) (st := []) (zdk ttX10_wheel 5 rfl rfl) mb_X5_tellWheel mv_RX10_267 (ci := 5) rfl rfl (k_5_0 s0 zPu_28) rfl rfl (Nat.le_of_ble_eq_true rfl) (s_X5_tellWheel l h 28 p1 p2 s0 zPu_28 (by omega) (by omega)) (rm_ok (by decide) (by decide)) (zq_i fun v2 h3 q1 => ?_)
  obtain ⟨b4, s5, f7, u6⟩ := q1
  have f8 : zfC w_X10_wheel h h3 := zfC_t (zfC_r _ _) f7 (fun a9 b9 z9 => by
    rcases z9 with z9 | z9
    · exact (Or.inl z9)
    · exact (Or.inr z9))
  exact zj_iret rfl (zdk ttX10_wheel 6 rfl rfl) (Nat.le_refl _) (Nat.le_refl _) ⟨v2, rfl, by omega, s5, f8, u6⟩

abbrev tX10_wheels : List (Nat × Instr × Nat) := [(0, .iload_n 1, 1), (1, .iconst 0, 1), (2, .iconst 2, 1), (3, .invokestatic 77, 3), (6, .ifCond .eq 17, 3), (9, .aload_n 0, 1), (10, .getfield 10, 3), (13, .getfield 263, 3), (16, .iload_n 1, 1), (17, .invokevirtual 273, 3), (20, .goto 6, 3), (23, .ldc_w 276, 3), (26, .ireturn, 1)]
theorem ttX10_wheels : zdt cX10_wheels tX10_wheels = true := by decide +kernel
abbrev w_X10_wheels (a b : Int) : Prop := False
abbrev q_X10_wheels (h : zM) (p1 : Int) : Option zV → zM → Prop := zqi fun v h' => ((-2147483648) ≤ v ∧ v ≤ 2147483647) ∧ okC h' ∧ zfC w_X10_wheels h h'
set_option maxRecDepth 100000 in
set_option maxHeartbeats 4000000 in
theorem s_X10_wheels (l : Launch) (h : zM) (p1 : Int) (s0 : okC h) (b_p1 : (-2147483648) ≤ p1 ∧ p1 ≤ 2147483647) : zT shC l yX10_wheels cX10_wheels 2 (some .int) (rmL 4) 0 0 [.inr 0, .inl p1] h (q_X10_wheels h p1) := by
  refine zT_of (by decide +kernel) (L0 := [some (.inr 0), some (.inl p1)]) rfl (Nat.le_of_ble_eq_true rfl) ?_
  refine zj_iload_n (zdk ttX10_wheels 0 rfl rfl) rfl ?_
  refine zj_iconst (zdk ttX10_wheels 1 rfl rfl) ?_
  refine zj_iconst (zdk ttX10_wheels 2 rfl rfl) ?_
  refine zj_callS (av := [.inl p1, .inl 0, .inl 2]) (st := []) (zdk ttX10_wheels 3 rfl rfl) mb_X10_within ms_RX10_77 rfl rfl (Nat.le_of_ble_eq_true rfl) (s_X10_within l h p1 0 2 s0 (by omega) (by omega) (by omega)) (rm_ok (by decide) (by decide)) (zq_i fun v2 h3 q1 => ?_)
  obtain ⟨rfl, ⟨rfl, b4⟩ | ⟨rfl, b4⟩⟩ := q1
  · refine zj_if_eq (t := 23) (zdk ttX10_wheels 4 rfl rfl) (by decide) (by decide) (fun c5 => ?_) (fun c5 => ?_)
    · refine zj_ldc_w (z := (-10000000)) (zdk ttX10_wheels 11 rfl rfl) wc_RX10_276 ?_
      exact zj_iret rfl (zdk ttX10_wheels 12 rfl rfl) (Nat.le_refl _) (Nat.le_refl _) ⟨(-10000000), rfl, by omega, s0, (zfC_r _ _)⟩
    · exact absurd c5 (by omega)
  · refine zj_if_eq (t := 23) (zdk ttX10_wheels 4 rfl rfl) (by decide) (by decide) (fun c6 => ?_) (fun c6 => ?_)
    · exact absurd c6 (by omega)
    · refine zj_aload_n (zdk ttX10_wheels 5 rfl rfl) rfl (by decide) ?_
      refine zj_getr (r := 1) (zdk ttX10_wheels 6 rfl rfl) zf_RX10_10 rfl (k_L0 s0) (rf_L0_0 s0) ?_
      refine zj_getr (r := 28) (zdk ttX10_wheels 7 rfl rfl) zf_RX10_263 rfl (k_9_0 s0 zWd_1) (rf_9_0_6 s0 zWd_1) ?_
      refine zj_iload_n (zdk ttX10_wheels 8 rfl rfl) rfl ?_
      refine zj_callV (av := [.inl p1]) (st := []) (zdk ttX10_wheels 9 rfl rfl) mb_X5_turnOf mv_RX10_273 (ci := 5) rfl rfl (k_5_0 s0 zPu_28) rfl rfl (Nat.le_of_ble_eq_true rfl) (s_X5_turnOf l h 28 p1 s0 zPu_28 (by omega)) (rm_ok (by decide) (by decide)) (zq_i fun v8 h9 q7 => ?_)
      obtain ⟨rfl, b10⟩ := q7
      refine zj_goto (t := 26) (zdk ttX10_wheels 10 rfl rfl) (by decide) ?_
      exact zj_iret rfl (zdk ttX10_wheels 12 rfl rfl) (Nat.le_refl _) (Nat.le_refl _) ⟨v8, rfl, by omega, s0, (zfC_r _ _)⟩

abbrev tX10_couple : List (Nat × Instr × Nat) := [(0, .aload_n 0, 1), (1, .getfield 10, 3), (4, .getfield 263, 3), (7, .iload_n 1, 1), (8, .iload_n 2, 1), (9, .invokevirtual 277, 3), (12, .ireturn, 1)]
theorem ttX10_couple : zdt cX10_couple tX10_couple = true := by decide +kernel
abbrev w_X10_couple (a b : Int) : Prop := (a = 28 ∧ b = 4) ∨ a = 31
abbrev q_X10_couple (h : zM) (p1 : Int) (p2 : Int) : Option zV → zM → Prop := zqi fun v h' => ((-2147483648) ≤ v ∧ v ≤ 2147483647) ∧ okC h' ∧ zfC w_X10_couple h h' ∧ (zcw (p1 = -1) ((0 ≤ p1 ∧ p1 ≤ 5) ∧ (0 ≤ p2 ∧ p2 ≤ 5) ∧ ¬ p1 = p2) 8 (h.2 28 4) v (h'.2 28 4))
set_option maxRecDepth 100000 in
set_option maxHeartbeats 4000000 in
theorem s_X10_couple (l : Launch) (h : zM) (p1 : Int) (p2 : Int) (s0 : okC h) (b_p1 : (-2147483648) ≤ p1 ∧ p1 ≤ 2147483647) (b_p2 : (-2147483648) ≤ p2 ∧ p2 ≤ 2147483647) : zT shC l yX10_couple cX10_couple 3 (some .int) (rmL 3) 0 0 [.inr 0, .inl p1, .inl p2] h (q_X10_couple h p1 p2) := by
  refine zT_of (by decide +kernel) (L0 := [some (.inr 0), some (.inl p1), some (.inl p2)]) rfl (Nat.le_of_ble_eq_true rfl) ?_
  refine zj_aload_n (zdk ttX10_couple 0 rfl rfl) rfl (by decide) ?_
  refine zj_getr (r := 1) (zdk ttX10_couple 1 rfl rfl) zf_RX10_10 rfl (k_L0 s0) (rf_L0_0 s0) ?_
  refine zj_getr (r := 28) (zdk ttX10_couple 2 rfl rfl) zf_RX10_263 rfl (k_9_0 s0 zWd_1) (rf_9_0_6 s0 zWd_1) ?_
  refine zj_iload_n (zdk ttX10_couple 3 rfl rfl) rfl ?_
  refine zj_iload_n (zdk ttX10_couple 4 rfl rfl) rfl ?_
  refine zj_callV (av := [.inl p1, .inl p2]) (st := []) (zdk ttX10_couple 5 rfl rfl) mb_X5_tellCouple mv_RX10_277 (ci := 5) rfl rfl (k_5_0 s0 zPu_28) rfl rfl (Nat.le_of_ble_eq_true rfl) (s_X5_tellCouple l h 28 p1 p2 s0 zPu_28 (by omega) (by omega)) (rm_ok (by decide) (by decide)) (zq_i fun v2 h3 q1 => ?_)
  obtain ⟨b4, s5, f7, u6⟩ := q1
  have f8 : zfC w_X10_couple h h3 := zfC_t (zfC_r _ _) f7 (fun a9 b9 z9 => by
    rcases z9 with z9 | z9
    · exact (Or.inl z9)
    · exact (Or.inr z9))
  exact zj_iret rfl (zdk ttX10_couple 6 rfl rfl) (Nat.le_refl _) (Nat.le_refl _) ⟨v2, rfl, by omega, s5, f8, u6⟩

abbrev tX10_ferry : List (Nat × Instr × Nat) := [(0, .iload_n 1, 1), (1, .iconst 1, 1), (2, .bipush 6, 2), (4, .invokestatic 77, 3), (7, .ifCond .eq 12, 3), (10, .iload_n 2, 1), (11, .iconst 1, 1), (12, .iconst 3, 1), (13, .invokestatic 77, 3), (16, .ifCond .ne 5, 3), (19, .iconst (-1), 1), (20, .ireturn, 1), (21, .aload_n 0, 1), (22, .getfield 41, 3), (25, .aload_n 0, 1), (26, .getfield 10, 3), (29, .getfield 263, 3), (32, .iload_n 1, 1), (33, .iload_n 2, 1), (34, .invokevirtual 280, 3), (37, .ireturn, 1)]
theorem ttX10_ferry : zdt cX10_ferry tX10_ferry = true := by decide +kernel
abbrev w_X10_ferry (a b : Int) : Prop := (111 ≤ a ∧ a ≤ 112)
abbrev q_X10_ferry (h : zM) (p1 : Int) (p2 : Int) : Option zV → zM → Prop := zqi fun v h' => ((-2147483648) ≤ v ∧ v ≤ 2147483647) ∧ okC h' ∧ zfC w_X10_ferry h h'
set_option maxRecDepth 100000 in
set_option maxHeartbeats 4000000 in
theorem s_X10_ferry (l : Launch) (h : zM) (p1 : Int) (p2 : Int) (s0 : okC h) (b_p1 : (-2147483648) ≤ p1 ∧ p1 ≤ 2147483647) (b_p2 : (-2147483648) ≤ p2 ∧ p2 ≤ 2147483647) : zT shC l yX10_ferry cX10_ferry 3 (some .int) (rmL 3) 0 0 [.inr 0, .inl p1, .inl p2] h (q_X10_ferry h p1 p2) := by
  refine zT_of (by decide +kernel) (L0 := [some (.inr 0), some (.inl p1), some (.inl p2)]) rfl (Nat.le_of_ble_eq_true rfl) ?_
  refine zj_iload_n (zdk ttX10_ferry 0 rfl rfl) rfl ?_
  refine zj_iconst (zdk ttX10_ferry 1 rfl rfl) ?_
  refine zj_bipush (zdk ttX10_ferry 2 rfl rfl) (by decide) ?_
  refine zj_callS (av := [.inl p1, .inl 1, .inl 6]) (st := []) (zdk ttX10_ferry 3 rfl rfl) mb_X10_within ms_RX10_77 rfl rfl (Nat.le_of_ble_eq_true rfl) (s_X10_within l h p1 1 6 s0 (by omega) (by omega) (by omega)) (rm_ok (by decide) (by decide)) (zq_i fun v2 h3 q1 => ?_)
  obtain ⟨rfl, ⟨rfl, b4⟩ | ⟨rfl, b4⟩⟩ := q1
  · refine zj_if_eq (t := 19) (zdk ttX10_ferry 4 rfl rfl) (by decide) (by decide) (fun c5 => ?_) (fun c5 => ?_)
    · refine zj_iconst (zdk ttX10_ferry 10 rfl rfl) ?_
      exact zj_iret rfl (zdk ttX10_ferry 11 rfl rfl) (Nat.le_refl _) (Nat.le_refl _) ⟨(-1), rfl, by omega, s0, (zfC_r _ _)⟩
    · exact absurd c5 (by omega)
  · refine zj_if_eq (t := 19) (zdk ttX10_ferry 4 rfl rfl) (by decide) (by decide) (fun c6 => ?_) (fun c6 => ?_)
    · exact absurd c6 (by omega)
    · refine zj_iload_n (zdk ttX10_ferry 5 rfl rfl) rfl ?_
      refine zj_iconst (zdk ttX10_ferry 6 rfl rfl) ?_
      refine zj_iconst (zdk ttX10_ferry 7 rfl rfl) ?_
      refine zj_callS (av := [.inl p2, .inl 1, .inl 3]) (st := []) (zdk ttX10_ferry 8 rfl rfl) mb_X10_within ms_RX10_77 rfl rfl (Nat.le_of_ble_eq_true rfl) (s_X10_within l h p2 1 3 s0 (by omega) (by omega) (by omega)) (rm_ok (by decide) (by decide)) (zq_i fun v8 h9 q7 => ?_)
      obtain ⟨rfl, ⟨rfl, b10⟩ | ⟨rfl, b10⟩⟩ := q7
      · refine zj_if_ne (t := 21) (zdk ttX10_ferry 9 rfl rfl) (by decide) (by decide) (fun c11 => ?_) (fun c11 => ?_)
        · exact absurd c11 (by omega)
        · refine zj_iconst (zdk ttX10_ferry 10 rfl rfl) ?_
          exact zj_iret rfl (zdk ttX10_ferry 11 rfl rfl) (Nat.le_refl _) (Nat.le_refl _) ⟨(-1), rfl, by omega, s0, (zfC_r _ _)⟩
      · refine zj_if_ne (t := 21) (zdk ttX10_ferry 9 rfl rfl) (by decide) (by decide) (fun c12 => ?_) (fun c12 => ?_)
        · refine zj_aload_n (zdk ttX10_ferry 12 rfl rfl) rfl (by decide) ?_
          refine zj_getr (r := 108) (zdk ttX10_ferry 13 rfl rfl) zf_RX10_41 rfl (k_L0 s0) (rf_L0_5 s0) ?_
          refine zj_aload_n (zdk ttX10_ferry 14 rfl rfl) rfl (by decide) ?_
          refine zj_getr (r := 1) (zdk ttX10_ferry 15 rfl rfl) zf_RX10_10 rfl (k_L0 s0) (rf_L0_0 s0) ?_
          refine zj_getr (r := 28) (zdk ttX10_ferry 16 rfl rfl) zf_RX10_263 rfl (k_9_0 s0 zWd_1) (rf_9_0_6 s0 zWd_1) ?_
          refine zj_iload_n (zdk ttX10_ferry 17 rfl rfl) rfl ?_
          refine zj_iload_n (zdk ttX10_ferry 18 rfl rfl) rfl ?_
          refine zj_callV (av := [.inr 28, .inl p1, .inl p2]) (st := []) (zdk ttX10_ferry 19 rfl rfl) mb_X8_fewestCrossings mv_RX10_280 (ci := 8) rfl rfl (k_L108 s0) rfl rfl (Nat.le_of_ble_eq_true rfl) (s_X8_fewestCrossings l h 28 p1 p2 s0 zPu_28 (by omega) (by omega)) (rm_ok (by decide) (by decide)) (zq_i fun v14 h15 q13 => ?_)
          obtain ⟨b16, s17, f18⟩ := q13
          have f19 : zfC w_X10_ferry h h15 := zfC_t (zfC_r _ _) f18 (fun a9 b9 z9 => by
            exact z9)
          exact zj_iret rfl (zdk ttX10_ferry 20 rfl rfl) (Nat.le_refl _) (Nat.le_refl _) ⟨v14, rfl, by omega, s17, f19⟩
        · exact absurd c12 (by omega)

