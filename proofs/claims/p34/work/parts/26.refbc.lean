abbrev tX11_goes : List (Nat × Instr × Nat) := [(0, .aload_n 0, 1), (1, .iconst 0, 1), (2, .putfield 120, 3), (5, .aload_n 0, 1), (6, .iload_n 1, 1), (7, .iconst 1, 1), (8, .bipush 60, 2), (10, .invokevirtual 139, 3), (13, .ifCond .eq 13, 3), (16, .aload_n 0, 1), (17, .iload_n 2, 1), (18, .iconst 0, 1), (19, .iconst 3, 1), (20, .invokevirtual 139, 3), (23, .ifCond .ne 5, 3), (26, .iconst (-1), 1), (27, .ireturn, 1), (28, .aload_n 0, 1), (29, .invokevirtual 392, 3), (32, .iconst 0, 1), (33, .istore_n 3, 1), (34, .iload_n 3, 1), (35, .iload_n 1, 1), (36, .if_icmp .ge 14, 3), (39, .aload_n 0, 1), (40, .invokevirtual 389, 3), (43, .pop, 1), (44, .iinc 3 1, 3), (47, .goto (-13), 3), (50, .iload_n 2, 1), (51, .ifCond .ne 12, 3), (54, .aload_n 0, 1), (55, .getfield 7, 3), (58, .iconst 3, 1), (59, .iaload, 1), (60, .goto 40, 3), (63, .iload_n 2, 1), (64, .iconst 1, 1), (65, .if_icmp .ne 14, 3), (68, .aload_n 0, 1), (69, .aload_n 0, 1), (70, .invokevirtual 313, 3), (73, .invokevirtual 316, 3), (76, .goto 24, 3), (79, .iload_n 2, 1), (80, .iconst 2, 1), (81, .if_icmp .ne 12, 3), (84, .aload_n 0, 1), (85, .getfield 7, 3), (88, .iconst 5, 1), (89, .iaload, 1), (90, .goto 10, 3), (93, .aload_n 0, 1), (94, .getfield 7, 3), (97, .bipush 8, 2), (99, .iaload, 1), (100, .istore_n 3, 1), (101, .aload_n 0, 1), (102, .invokevirtual 395, 3), (105, .iload_n 3, 1), (106, .ireturn, 1)]
theorem ttX11_goes : zdt cX11_goes tX11_goes = true := by decide +kernel
abbrev tX11_lonely : List (Nat × Instr × Nat) := [(0, .aload_n 0, 1), (1, .iconst 0, 1), (2, .putfield 120, 3), (5, .aload_n 0, 1), (6, .invokevirtual 392, 3), (9, .iconst 0, 1), (10, .istore_n 1, 1), (11, .iload_n 1, 1), (12, .bipush 60, 2), (14, .if_icmp .gt 22, 3), (17, .aload_n 0, 1), (18, .invokevirtual 313, 3), (21, .ifCond .eq 15, 3), (24, .aload_n 0, 1), (25, .invokevirtual 389, 3), (28, .pop, 1), (29, .iload_n 1, 1), (30, .iconst 1, 1), (31, .iadd, 1), (32, .istore_n 1, 1), (33, .goto (-22), 3), (36, .aload_n 0, 1), (37, .invokevirtual 395, 3), (40, .iload_n 1, 1), (41, .bipush 60, 2), (43, .if_icmp .le 7, 3), (46, .iconst (-1), 1), (47, .goto 4, 3), (50, .iload_n 1, 1), (51, .ireturn, 1)]
theorem ttX11_lonely : zdt cX11_lonely tX11_lonely = true := by decide +kernel
abbrev tX11_must : List (Nat × Instr × Nat) := [(0, .aload_n 0, 1), (1, .iconst 0, 1), (2, .putfield 120, 3), (5, .aload_n 0, 1), (6, .iload_n 1, 1), (7, .iconst 0, 1), (8, .sipush 9999, 3), (11, .invokevirtual 139, 3), (14, .ifCond .eq 13, 3), (17, .aload_n 0, 1), (18, .iload_n 2, 1), (19, .iconst 0, 1), (20, .iconst 1, 1), (21, .invokevirtual 139, 3), (24, .ifCond .ne 5, 3), (27, .iconst (-1), 1), (28, .ireturn, 1), (29, .aload_n 0, 1), (30, .invokevirtual 313, 3), (33, .istore_n 3, 1), (34, .iconst (-1), 1), (35, .istore 4, 2), (37, .iconst 0, 1), (38, .istore 5, 2), (40, .iload 5, 2), (42, .aload_n 0, 1), (43, .getfield 132, 3), (46, .if_icmp .ge 35, 3), (49, .aload_n 0, 1), (50, .getfield 77, 3), (53, .iload 5, 2), (55, .aload_n 0, 1), (56, .iload 5, 2), (58, .invokevirtual 135, 3), (61, .ifCond .eq 12, 3), (64, .aload_n 0, 1), (65, .iload 5, 2), (67, .invokevirtual 334, 3), (70, .goto 4, 3), (73, .iconst 0, 1), (74, .iastore, 1), (75, .iinc 5 1, 3), (78, .goto (-38), 3), (81, .iconst 0, 1), (82, .istore 5, 2), (84, .iload 5, 2), (86, .iconst 1, 1), (87, .aload_n 0, 1), (88, .getfield 132, 3), (91, .ishl, 1), (92, .if_icmp .ge 96, 3), (95, .iload 5, 2), (97, .iload_n 3, 1), (98, .iconst (-1), 1), (99, .ixor, 1), (100, .iand, 1), (101, .ifCond .ne 81, 3), (104, .iload 4, 2), (106, .iconst (-1), 1), (107, .if_icmp .eq 21, 3), (110, .aload_n 0, 1), (111, .iload 5, 2), (113, .invokevirtual 316, 3), (116, .aload_n 0, 1), (117, .iload 4, 2), (119, .invokevirtual 316, 3), (122, .if_icmp .lt 6, 3), (125, .goto 57, 3), (128, .iconst 0, 1), (129, .istore 6, 2), (131, .iconst 0, 1), (132, .istore 7, 2), (134, .iload 7, 2), (136, .aload_n 0, 1), (137, .getfield 132, 3), (140, .if_icmp .ge 32, 3), (143, .aload_n 0, 1), (144, .iload 5, 2), (146, .iload 7, 2), (148, .invokevirtual 309, 3), (151, .ifCond .eq 15, 3), (154, .iload 6, 2), (156, .aload_n 0, 1), (157, .getfield 77, 3), (160, .iload 7, 2), (162, .iaload, 1), (163, .iadd, 1), (164, .istore 6, 2), (166, .iinc 7 1, 3), (169, .goto (-35), 3), (172, .iload 6, 2), (174, .iload_n 1, 1), (175, .if_icmp .ne 7, 3), (178, .iload 5, 2), (180, .istore 4, 2), (182, .iinc 5 1, 3), (185, .goto (-101), 3), (188, .iload 4, 2), (190, .iconst (-1), 1), (191, .if_icmp .eq 8, 3), (194, .iload_n 2, 1), (195, .iconst 1, 1), (196, .if_icmp .ne 8, 3), (199, .iload 4, 2), (201, .goto 9, 3), (204, .aload_n 0, 1), (205, .iload 4, 2), (207, .invokevirtual 316, 3), (210, .ireturn, 1)]
theorem ttX11_must : zdt cX11_must tX11_must = true := by decide +kernel
abbrev q_X11_must (h : zM) (p1 : Int) (p2 : Int) : Option zV → zM → Prop := zqi fun v h' => ((-2147483648) ≤ v ∧ v ≤ 2147483647) ∧ okM h' ∧ zfr [0] [20, 21, 22] h h'
set_option maxRecDepth 100000 in
set_option maxHeartbeats 4000000 in
theorem s_X11_must (l : Launch) (h : zM) (p1 : Int) (p2 : Int) (s0 : okM h) (b_p1 : (-2147483648) ≤ p1 ∧ p1 ≤ 2147483647) (b_p2 : (-2147483648) ≤ p2 ∧ p2 ≤ 2147483647) : zT shM l yX11_must cX11_must 8 (some .int) (rmL 6) 0 0 [.inr 0, .inl p1, .inl p2] h (q_X11_must h p1 p2) := by
  refine zT_of (by decide +kernel) (L0 := [some (.inr 0), some (.inl p1), some (.inl p2), none, none, none, none, none]) rfl (Nat.le_of_ble_eq_true rfl) ?_
  refine zj_aload_n (zdk ttX11_must 0 rfl rfl) rfl (by decide) ?_
  refine zj_iconst (zdk ttX11_must 1 rfl rfl) ?_
  refine zj_puti (zdk ttX11_must 2 rfl rfl) zf_RX11_120 rfl (k_M s0) (Or.inl zw_RX11_120) (k2 := 0) rfl (fun h1 e2 => ?_)
  refine zj_aload_n (zdk ttX11_must 3 rfl rfl) rfl (by decide) ?_
  refine zj_iload_n (zdk ttX11_must 4 rfl rfl) rfl ?_
  refine zj_iconst (zdk ttX11_must 5 rfl rfl) ?_
  refine zj_sipush (zdk ttX11_must 6 rfl rfl) (by decide) ?_
  have s3 : okM h1 := fwM_0 s0 e2 (by omega)
  refine zj_callV (av := [.inl p1, .inl 0, .inl 9999]) (st := []) (zdk ttX11_must 7 rfl rfl) mb_X11_isIn mv_RX11_139 (ci := 11) rfl rfl (k_M s3) rfl rfl (Nat.le_of_ble_eq_true rfl) (s_X11_isIn l h1 p1 0 9999 s3 (by omega) (by omega) (by omega)) (rm_ok (by decide) (by decide)) (zq_i fun v5 h6 q4 => ?_)
  obtain ⟨rfl, ⟨rfl, b7⟩ | ⟨rfl, b7⟩⟩ := q4
  · refine zj_if_eq (t := 27) (zdk ttX11_must 8 rfl rfl) (by decide) (by decide) (fun c8 => ?_) (fun c8 => ?_)
    · refine zj_iconst (zdk ttX11_must 15 rfl rfl) ?_
      have f9 : zfr [0] [20, 21, 22] h h1 := zfr_wf (zfr_r _ _ _) e2 rfl
      exact zj_iret rfl (zdk ttX11_must 16 rfl rfl) (Nat.le_refl _) (Nat.le_refl _) ⟨(-1), rfl, by omega, s3, f9⟩
    · exact absurd c8 (by omega)
  · refine zj_if_eq (t := 27) (zdk ttX11_must 8 rfl rfl) (by decide) (by decide) (fun c10 => ?_) (fun c10 => ?_)
    · exact absurd c10 (by omega)
    · refine zj_aload_n (zdk ttX11_must 9 rfl rfl) rfl (by decide) ?_
      refine zj_iload_n (zdk ttX11_must 10 rfl rfl) rfl ?_
      refine zj_iconst (zdk ttX11_must 11 rfl rfl) ?_
      refine zj_iconst (zdk ttX11_must 12 rfl rfl) ?_
      refine zj_callV (av := [.inl p2, .inl 0, .inl 1]) (st := []) (zdk ttX11_must 13 rfl rfl) mb_X11_isIn mv_RX11_139 (ci := 11) rfl rfl (k_M s3) rfl rfl (Nat.le_of_ble_eq_true rfl) (s_X11_isIn l h1 p2 0 1 s3 (by omega) (by omega) (by omega)) (rm_ok (by decide) (by decide)) (zq_i fun v12 h13 q11 => ?_)
      obtain ⟨rfl, ⟨rfl, b14⟩ | ⟨rfl, b14⟩⟩ := q11
      · refine zj_if_ne (t := 29) (zdk ttX11_must 14 rfl rfl) (by decide) (by decide) (fun c15 => ?_) (fun c15 => ?_)
        · exact absurd c15 (by omega)
        · refine zj_iconst (zdk ttX11_must 15 rfl rfl) ?_
          have f16 : zfr [0] [20, 21, 22] h h1 := zfr_wf (zfr_r _ _ _) e2 rfl
          exact zj_iret rfl (zdk ttX11_must 16 rfl rfl) (Nat.le_refl _) (Nat.le_refl _) ⟨(-1), rfl, by omega, s3, f16⟩
      · refine zj_if_ne (t := 29) (zdk ttX11_must 14 rfl rfl) (by decide) (by decide) (fun c17 => ?_) (fun c17 => ?_)
        · refine zj_aload_n (zdk ttX11_must 17 rfl rfl) rfl (by decide) ?_
          refine zj_callV (av := []) (st := []) (zdk ttX11_must 18 rfl rfl) mb_X11_hereSet mv_RX11_313 (ci := 11) rfl rfl (k_M s3) rfl rfl (Nat.le_of_ble_eq_true rfl) (s_X11_hereSet l h1 s3) (rm_ok (by decide) (by decide)) (zq_i fun v19 h20 q18 => ?_)
          obtain ⟨rfl, b21⟩ := q18
          refine zj_istore_n (L' := [some (.inr 0), some (.inl p1), some (.inl p2), some (.inl v19), none, none, none, none]) (zdk ttX11_must 19 rfl rfl) (by decide) rfl ?_
          refine zj_iconst (zdk ttX11_must 20 rfl rfl) ?_
          refine zj_istore (L' := [some (.inr 0), some (.inl p1), some (.inl p2), some (.inl v19), some (.inl (-1)), none, none, none]) (zdk ttX11_must 21 rfl rfl) (by decide) rfl ?_
          refine zj_iconst (zdk ttX11_must 22 rfl rfl) ?_
          refine zj_istore (L' := [some (.inr 0), some (.inl p1), some (.inl p2), some (.inl v19), some (.inl (-1)), some (.inl 0), none, none]) (zdk ttX11_must 23 rfl rfl) (by decide) rfl ?_
          have lp116 : ∀ (n40 : Nat) (x22 : Int) (h23 : zM), (0 ≤ x22 ∧ x22 ≤ 18) → okM h23 → zfr [0] [20, 21, 22] h h23 → (19 - x22).toNat < n40 → zJ shM l yX11_must cX11_must 8 (some .int) (rmL 6) 0 0 (q_X11_must h p1 p2) 0 0 40 [some (.inr 0), some (.inl p1), some (.inl p2), some (.inl v19), some (.inl (-1)), some (.inl x22), none, none] [] h23 := by
            intro n40
            induction n40 with
            | zero => intro x22 h23 b117 s24 f25 m118; exact absurd m118 (Nat.not_lt_zero _)
            | succ n40 ih119 =>
              intro x22 h23 b117 s24 f25 m118
              refine zj_iload (zdk ttX11_must 24 rfl rfl) rfl ?_
              refine zj_aload_n (zdk ttX11_must 25 rfl rfl) rfl (by decide) ?_
              have b120 : 0 ≤ (h.2 0 6) ∧ (h.2 0 6) ≤ 18 := fM_6 s0
              refine zj_geti (v := (h.2 0 6)) (zdk ttX11_must 26 rfl rfl) zf_RX11_132 rfl (k_M s24) (zfr_f f25 rfl rfl) ?_
              refine zj_icmp_ge (t := 81) (zdk ttX11_must 27 rfl rfl) (by decide) (by omega) (by omega) (fun c121 => ?_) (fun c121 => ?_)
              · refine zj_iconst (zdk ttX11_must 43 rfl rfl) ?_
                refine zj_istore (L' := [some (.inr 0), some (.inl p1), some (.inl p2), some (.inl v19), some (.inl (-1)), some (.inl 0), none, none]) (zdk ttX11_must 44 rfl rfl) (by decide) rfl ?_
                have lp1303 : ∀ (n84 : Nat) (x138 x139 : Int), (-1 ≤ x138 ∧ x138 ≤ 2147483647) → (0 ≤ x139 ∧ x139 ≤ 262144) → (262145 - x139).toNat < n84 → zJ shM l yX11_must cX11_must 8 (some .int) (rmL 6) 0 0 (q_X11_must h p1 p2) 0 0 84 [some (.inr 0), some (.inl p1), some (.inl p2), some (.inl v19), some (.inl x138), some (.inl x139), none, none] [] h23 := by
                  intro n84
                  induction n84 with
                  | zero => intro x138 x139 b1304 b1305 m1306; exact absurd m1306 (Nat.not_lt_zero _)
                  | succ n84 ih1307 =>
                    intro x138 x139 b1304 b1305 m1306
                    refine zj_iload (zdk ttX11_must 45 rfl rfl) rfl ?_
                    refine zj_iconst (zdk ttX11_must 46 rfl rfl) ?_
                    refine zj_aload_n (zdk ttX11_must 47 rfl rfl) rfl (by decide) ?_
                    refine zj_geti (v := (h.2 0 6)) (zdk ttX11_must 48 rfl rfl) zf_RX11_132 rfl (k_M s24) (zfr_f f25 rfl rfl) ?_
                    refine zj_ishl (zdk ttX11_must 49 rfl rfl) ?_
                    have b1308 := zshl_1 (n := (h.2 0 6)) (a := 0) (b := 18) (lo := 1) (hi := 262144) (by omega) (by decide) (by decide) (by decide)
                    refine zj_icmp_ge (t := 188) (zdk ttX11_must 50 rfl rfl) (by decide) (by omega) (by omega) (fun c1309 => ?_) (fun c1309 => ?_)
                    · refine zj_iload (zdk ttX11_must 97 rfl rfl) rfl ?_
                      refine zj_iconst (zdk ttX11_must 98 rfl rfl) ?_
                      refine zj_icmp_eq (t := 199) (zdk ttX11_must 99 rfl rfl) (by decide) (by omega) (by decide) (fun c1310 => ?_) (fun c1310 => ?_)
                      · refine zj_iload (zdk ttX11_must 103 rfl rfl) rfl ?_
                        refine zj_goto (t := 210) (zdk ttX11_must 104 rfl rfl) (by decide) ?_
                        exact zj_iret rfl (zdk ttX11_must 108 rfl rfl) (Nat.le_refl _) (Nat.le_refl _) ⟨x138, rfl, by omega, s24, f25⟩
                      · refine zj_iload_n (zdk ttX11_must 100 rfl rfl) rfl ?_
                        refine zj_iconst (zdk ttX11_must 101 rfl rfl) ?_
                        refine zj_icmp_ne (t := 204) (zdk ttX11_must 102 rfl rfl) (by decide) (by omega) (by decide) (fun c1311 => ?_) (fun c1311 => ?_)
                        · refine zj_aload_n (zdk ttX11_must 105 rfl rfl) rfl (by decide) ?_
                          refine zj_iload (zdk ttX11_must 106 rfl rfl) rfl ?_
                          refine zj_callV (av := [.inl x138]) (st := []) (zdk ttX11_must 107 rfl rfl) mb_X11_onesOf mv_RX11_316 (ci := 11) rfl rfl (k_M s24) rfl rfl (Nat.le_of_ble_eq_true rfl) (s_X11_onesOf l h23 x138 s24 (by omega)) (rm_ok (by decide) (by decide)) (zq_i fun v1313 h1314 q1312 => ?_)
                          obtain ⟨rfl, b1315⟩ := q1312
                          exact zj_iret rfl (zdk ttX11_must 108 rfl rfl) (Nat.le_refl _) (Nat.le_refl _) ⟨v1313, rfl, by omega, s24, f25⟩
                        · refine zj_iload (zdk ttX11_must 103 rfl rfl) rfl ?_
                          refine zj_goto (t := 210) (zdk ttX11_must 104 rfl rfl) (by decide) ?_
                          exact zj_iret rfl (zdk ttX11_must 108 rfl rfl) (Nat.le_refl _) (Nat.le_refl _) ⟨x138, rfl, by omega, s24, f25⟩
                    · refine zj_iload (zdk ttX11_must 51 rfl rfl) rfl ?_
                      refine zj_iload_n (zdk ttX11_must 52 rfl rfl) rfl ?_
                      refine zj_iconst (zdk ttX11_must 53 rfl rfl) ?_
                      refine zj_ixor (zdk ttX11_must 54 rfl rfl) ?_
                      have b1316 := zxor_in v19 (-1)
                      refine zj_iand (zdk ttX11_must 55 rfl rfl) ?_
                      have b1317 := zand_l (a := x139) (by omega) (zxor v19 (-1))
                      refine zj_if_ne (t := 182) (zdk ttX11_must 56 rfl rfl) (by decide) (by omega) (fun c1318 => ?_) (fun c1318 => ?_)
                      · refine zj_iinc (L' := [some (.inr 0), some (.inl p1), some (.inl p2), some (.inl v19), some (.inl x138), some (.inl (x139 + 1)), none, none]) (zdk ttX11_must 95 rfl rfl) rfl (by decide) rfl ?_
                        refine zj_goto (t := 84) (zdk ttX11_must 96 rfl rfl) (by decide) ?_
                        exact ih1307  x138 (x139 + 1) (by omega) (by omega) (by omega)
                      · refine zj_iload (zdk ttX11_must 57 rfl rfl) rfl ?_
                        refine zj_iconst (zdk ttX11_must 58 rfl rfl) ?_
                        refine zj_icmp_eq (t := 128) (zdk ttX11_must 59 rfl rfl) (by decide) (by omega) (by decide) (fun c1319 => ?_) (fun c1319 => ?_)
                        · refine zj_iconst (zdk ttX11_must 68 rfl rfl) ?_
                          refine zj_istore (L' := [some (.inr 0), some (.inl p1), some (.inl p2), some (.inl v19), some (.inl x138), some (.inl x139), some (.inl 0), none]) (zdk ttX11_must 69 rfl rfl) (by decide) rfl ?_
                          refine zj_iconst (zdk ttX11_must 70 rfl rfl) ?_
                          refine zj_istore (L' := [some (.inr 0), some (.inl p1), some (.inl p2), some (.inl v19), some (.inl x138), some (.inl x139), some (.inl 0), some (.inl 0)]) (zdk ttX11_must 71 rfl rfl) (by decide) rfl ?_
                          have lp1366 : ∀ (n134 : Nat) (x1320 x1321 : Int), (-2147483648 ≤ x1320 ∧ x1320 ≤ 2147483647) → (0 ≤ x1321 ∧ x1321 ≤ 18) → (19 - x1321).toNat < n134 → zJ shM l yX11_must cX11_must 8 (some .int) (rmL 6) 0 0 (q_X11_must h p1 p2) 0 0 134 [some (.inr 0), some (.inl p1), some (.inl p2), some (.inl v19), some (.inl x138), some (.inl x139), some (.inl x1320), some (.inl x1321)] [] h23 := by
                            intro n134
                            induction n134 with
                            | zero => intro x1320 x1321 b1367 b1368 m1369; exact absurd m1369 (Nat.not_lt_zero _)
                            | succ n134 ih1370 =>
                              intro x1320 x1321 b1367 b1368 m1369
                              refine zj_iload (zdk ttX11_must 72 rfl rfl) rfl ?_
                              refine zj_aload_n (zdk ttX11_must 73 rfl rfl) rfl (by decide) ?_
                              refine zj_geti (v := (h.2 0 6)) (zdk ttX11_must 74 rfl rfl) zf_RX11_132 rfl (k_M s24) (zfr_f f25 rfl rfl) ?_
                              refine zj_icmp_ge (t := 172) (zdk ttX11_must 75 rfl rfl) (by decide) (by omega) (by omega) (fun c1371 => ?_) (fun c1371 => ?_)
                              · refine zj_iload (zdk ttX11_must 90 rfl rfl) rfl ?_
                                refine zj_iload_n (zdk ttX11_must 91 rfl rfl) rfl ?_
                                refine zj_icmp_ne (t := 182) (zdk ttX11_must 92 rfl rfl) (by decide) (by omega) (by omega) (fun c1372 => ?_) (fun c1372 => ?_)
                                · refine zj_iinc (L' := [some (.inr 0), some (.inl p1), some (.inl p2), some (.inl v19), some (.inl x138), some (.inl (x139 + 1)), some (.inl x1320), some (.inl x1321)]) (zdk ttX11_must 95 rfl rfl) rfl (by decide) rfl ?_
                                  refine zj_goto (t := 84) (zdk ttX11_must 96 rfl rfl) (by decide) ?_
                                  refine zj_kill (k := 6) (L' := [some (.inr 0), some (.inl p1), some (.inl p2), some (.inl v19), some (.inl x138), some (.inl (x139 + 1)), none, some (.inl x1321)]) rfl ?_
                                  refine zj_kill (k := 7) (L' := [some (.inr 0), some (.inl p1), some (.inl p2), some (.inl v19), some (.inl x138), some (.inl (x139 + 1)), none, none]) rfl ?_
                                  exact ih1307  x138 (x139 + 1) (by omega) (by omega) (by omega)
                                · refine zj_iload (zdk ttX11_must 93 rfl rfl) rfl ?_
                                  refine zj_istore (L' := [some (.inr 0), some (.inl p1), some (.inl p2), some (.inl v19), some (.inl x139), some (.inl x139), some (.inl x1320), some (.inl x1321)]) (zdk ttX11_must 94 rfl rfl) (by decide) rfl ?_
                                  refine zj_iinc (L' := [some (.inr 0), some (.inl p1), some (.inl p2), some (.inl v19), some (.inl x139), some (.inl (x139 + 1)), some (.inl x1320), some (.inl x1321)]) (zdk ttX11_must 95 rfl rfl) rfl (by decide) rfl ?_
                                  refine zj_goto (t := 84) (zdk ttX11_must 96 rfl rfl) (by decide) ?_
                                  refine zj_kill (k := 6) (L' := [some (.inr 0), some (.inl p1), some (.inl p2), some (.inl v19), some (.inl x139), some (.inl (x139 + 1)), none, some (.inl x1321)]) rfl ?_
                                  refine zj_kill (k := 7) (L' := [some (.inr 0), some (.inl p1), some (.inl p2), some (.inl v19), some (.inl x139), some (.inl (x139 + 1)), none, none]) rfl ?_
                                  exact ih1307  x139 (x139 + 1) (by omega) (by omega) (by omega)
                              · refine zj_aload_n (zdk ttX11_must 76 rfl rfl) rfl (by decide) ?_
                                refine zj_iload (zdk ttX11_must 77 rfl rfl) rfl ?_
                                refine zj_iload (zdk ttX11_must 78 rfl rfl) rfl ?_
                                refine zj_callV (av := [.inl x139, .inl x1321]) (st := []) (zdk ttX11_must 79 rfl rfl) mb_X11_has mv_RX11_309 (ci := 11) rfl rfl (k_M s24) rfl rfl (Nat.le_of_ble_eq_true rfl) (s_X11_has l h23 x139 x1321 s24 (by omega) (by omega)) (rm_ok (by decide) (by decide)) (zq_i fun v1374 h1375 q1373 => ?_)
                                obtain ⟨rfl, ⟨rfl, b1376⟩ | ⟨rfl, b1376⟩⟩ := q1373
                                · refine zj_if_eq (t := 166) (zdk ttX11_must 80 rfl rfl) (by decide) (by decide) (fun c1377 => ?_) (fun c1377 => ?_)
                                  · refine zj_iinc (L' := [some (.inr 0), some (.inl p1), some (.inl p2), some (.inl v19), some (.inl x138), some (.inl x139), some (.inl x1320), some (.inl (x1321 + 1))]) (zdk ttX11_must 88 rfl rfl) rfl (by decide) rfl ?_
                                    refine zj_goto (t := 134) (zdk ttX11_must 89 rfl rfl) (by decide) ?_
                                    exact ih1370  x1320 (x1321 + 1) (by omega) (by omega) (by omega)
                                  · exact absurd c1377 (by omega)
                                · refine zj_if_eq (t := 166) (zdk ttX11_must 80 rfl rfl) (by decide) (by decide) (fun c1378 => ?_) (fun c1378 => ?_)
                                  · exact absurd c1378 (by omega)
                                  · refine zj_iload (zdk ttX11_must 81 rfl rfl) rfl ?_
                                    refine zj_aload_n (zdk ttX11_must 82 rfl rfl) rfl (by decide) ?_
                                    refine zj_getr (r := 22) (zdk ttX11_must 83 rfl rfl) zf_RX11_77 rfl (k_M s24) (rfM_41 s24) ?_
                                    refine zj_iload (zdk ttX11_must 84 rfl rfl) rfl ?_
                                    have b1379 : -2147483648 ≤ (h23.2 22 x1321) ∧ (h23.2 22 x1321) ≤ 2147483647 := abM_22 s24 x1321
                                    refine zj_iald (v := (h23.2 22 x1321)) (zdk ttX11_must 85 rfl rfl) (kaM_22 s24) (by decide) (by omega) rfl ?_
                                    refine zj_iadd (zdk ttX11_must 86 rfl rfl) ?_
                                    refine zj_wrap ?_
                                    have b1380 := zwp_in (x1320 + (h23.2 22 x1321))
                                    refine zj_istore (L' := [some (.inr 0), some (.inl p1), some (.inl p2), some (.inl v19), some (.inl x138), some (.inl x139), some (.inl (zwp (x1320 + (h23.2 22 x1321)))), some (.inl x1321)]) (zdk ttX11_must 87 rfl rfl) (by decide) rfl ?_
                                    refine zj_iinc (L' := [some (.inr 0), some (.inl p1), some (.inl p2), some (.inl v19), some (.inl x138), some (.inl x139), some (.inl (zwp (x1320 + (h23.2 22 x1321)))), some (.inl (x1321 + 1))]) (zdk ttX11_must 88 rfl rfl) rfl (by decide) rfl ?_
                                    refine zj_goto (t := 134) (zdk ttX11_must 89 rfl rfl) (by decide) ?_
                                    exact ih1370  (zwp (x1320 + (h23.2 22 x1321))) (x1321 + 1) (by omega) (by omega) (by omega)
                          exact lp1366 _ 0 0 (by omega) (by omega) (Nat.lt_succ_self _)
                        · refine zj_aload_n (zdk ttX11_must 60 rfl rfl) rfl (by decide) ?_
                          refine zj_iload (zdk ttX11_must 61 rfl rfl) rfl ?_
                          refine zj_callV (av := [.inl x139]) (st := []) (zdk ttX11_must 62 rfl rfl) mb_X11_onesOf mv_RX11_316 (ci := 11) rfl rfl (k_M s24) rfl rfl (Nat.le_of_ble_eq_true rfl) (s_X11_onesOf l h23 x139 s24 (by omega)) (rm_ok (by decide) (by decide)) (zq_i fun v1382 h1383 q1381 => ?_)
                          obtain ⟨rfl, b1384⟩ := q1381
                          refine zj_aload_n (zdk ttX11_must 63 rfl rfl) rfl (by decide) ?_
                          refine zj_iload (zdk ttX11_must 64 rfl rfl) rfl ?_
                          refine zj_callV (av := [.inl x138]) (st := [.inl v1382]) (zdk ttX11_must 65 rfl rfl) mb_X11_onesOf mv_RX11_316 (ci := 11) rfl rfl (k_M s24) rfl rfl (Nat.le_of_ble_eq_true rfl) (s_X11_onesOf l h23 x138 s24 (by omega)) (rm_ok (by decide) (by decide)) (zq_i fun v1386 h1387 q1385 => ?_)
                          obtain ⟨rfl, b1388⟩ := q1385
                          refine zj_icmp_lt (t := 128) (zdk ttX11_must 66 rfl rfl) (by decide) (by omega) (by omega) (fun c1389 => ?_) (fun c1389 => ?_)
                          · refine zj_iconst (zdk ttX11_must 68 rfl rfl) ?_
                            refine zj_istore (L' := [some (.inr 0), some (.inl p1), some (.inl p2), some (.inl v19), some (.inl x138), some (.inl x139), some (.inl 0), none]) (zdk ttX11_must 69 rfl rfl) (by decide) rfl ?_
                            refine zj_iconst (zdk ttX11_must 70 rfl rfl) ?_
                            refine zj_istore (L' := [some (.inr 0), some (.inl p1), some (.inl p2), some (.inl v19), some (.inl x138), some (.inl x139), some (.inl 0), some (.inl 0)]) (zdk ttX11_must 71 rfl rfl) (by decide) rfl ?_
                            have lp1436 : ∀ (n134 : Nat) (x1390 x1391 : Int), (-2147483648 ≤ x1390 ∧ x1390 ≤ 2147483647) → (0 ≤ x1391 ∧ x1391 ≤ 18) → (19 - x1391).toNat < n134 → zJ shM l yX11_must cX11_must 8 (some .int) (rmL 6) 0 0 (q_X11_must h p1 p2) 0 0 134 [some (.inr 0), some (.inl p1), some (.inl p2), some (.inl v19), some (.inl x138), some (.inl x139), some (.inl x1390), some (.inl x1391)] [] h23 := by
                              intro n134
                              induction n134 with
                              | zero => intro x1390 x1391 b1437 b1438 m1439; exact absurd m1439 (Nat.not_lt_zero _)
                              | succ n134 ih1440 =>
                                intro x1390 x1391 b1437 b1438 m1439
                                refine zj_iload (zdk ttX11_must 72 rfl rfl) rfl ?_
                                refine zj_aload_n (zdk ttX11_must 73 rfl rfl) rfl (by decide) ?_
                                refine zj_geti (v := (h.2 0 6)) (zdk ttX11_must 74 rfl rfl) zf_RX11_132 rfl (k_M s24) (zfr_f f25 rfl rfl) ?_
                                refine zj_icmp_ge (t := 172) (zdk ttX11_must 75 rfl rfl) (by decide) (by omega) (by omega) (fun c1441 => ?_) (fun c1441 => ?_)
                                · refine zj_iload (zdk ttX11_must 90 rfl rfl) rfl ?_
                                  refine zj_iload_n (zdk ttX11_must 91 rfl rfl) rfl ?_
                                  refine zj_icmp_ne (t := 182) (zdk ttX11_must 92 rfl rfl) (by decide) (by omega) (by omega) (fun c1442 => ?_) (fun c1442 => ?_)
                                  · refine zj_iinc (L' := [some (.inr 0), some (.inl p1), some (.inl p2), some (.inl v19), some (.inl x138), some (.inl (x139 + 1)), some (.inl x1390), some (.inl x1391)]) (zdk ttX11_must 95 rfl rfl) rfl (by decide) rfl ?_
                                    refine zj_goto (t := 84) (zdk ttX11_must 96 rfl rfl) (by decide) ?_
                                    refine zj_kill (k := 6) (L' := [some (.inr 0), some (.inl p1), some (.inl p2), some (.inl v19), some (.inl x138), some (.inl (x139 + 1)), none, some (.inl x1391)]) rfl ?_
                                    refine zj_kill (k := 7) (L' := [some (.inr 0), some (.inl p1), some (.inl p2), some (.inl v19), some (.inl x138), some (.inl (x139 + 1)), none, none]) rfl ?_
                                    exact ih1307  x138 (x139 + 1) (by omega) (by omega) (by omega)
                                  · refine zj_iload (zdk ttX11_must 93 rfl rfl) rfl ?_
                                    refine zj_istore (L' := [some (.inr 0), some (.inl p1), some (.inl p2), some (.inl v19), some (.inl x139), some (.inl x139), some (.inl x1390), some (.inl x1391)]) (zdk ttX11_must 94 rfl rfl) (by decide) rfl ?_
                                    refine zj_iinc (L' := [some (.inr 0), some (.inl p1), some (.inl p2), some (.inl v19), some (.inl x139), some (.inl (x139 + 1)), some (.inl x1390), some (.inl x1391)]) (zdk ttX11_must 95 rfl rfl) rfl (by decide) rfl ?_
                                    refine zj_goto (t := 84) (zdk ttX11_must 96 rfl rfl) (by decide) ?_
                                    refine zj_kill (k := 6) (L' := [some (.inr 0), some (.inl p1), some (.inl p2), some (.inl v19), some (.inl x139), some (.inl (x139 + 1)), none, some (.inl x1391)]) rfl ?_
                                    refine zj_kill (k := 7) (L' := [some (.inr 0), some (.inl p1), some (.inl p2), some (.inl v19), some (.inl x139), some (.inl (x139 + 1)), none, none]) rfl ?_
                                    exact ih1307  x139 (x139 + 1) (by omega) (by omega) (by omega)
                                · refine zj_aload_n (zdk ttX11_must 76 rfl rfl) rfl (by decide) ?_
                                  refine zj_iload (zdk ttX11_must 77 rfl rfl) rfl ?_
                                  refine zj_iload (zdk ttX11_must 78 rfl rfl) rfl ?_
                                  refine zj_callV (av := [.inl x139, .inl x1391]) (st := []) (zdk ttX11_must 79 rfl rfl) mb_X11_has mv_RX11_309 (ci := 11) rfl rfl (k_M s24) rfl rfl (Nat.le_of_ble_eq_true rfl) (s_X11_has l h23 x139 x1391 s24 (by omega) (by omega)) (rm_ok (by decide) (by decide)) (zq_i fun v1444 h1445 q1443 => ?_)
                                  obtain ⟨rfl, ⟨rfl, b1446⟩ | ⟨rfl, b1446⟩⟩ := q1443
                                  · refine zj_if_eq (t := 166) (zdk ttX11_must 80 rfl rfl) (by decide) (by decide) (fun c1447 => ?_) (fun c1447 => ?_)
                                    · refine zj_iinc (L' := [some (.inr 0), some (.inl p1), some (.inl p2), some (.inl v19), some (.inl x138), some (.inl x139), some (.inl x1390), some (.inl (x1391 + 1))]) (zdk ttX11_must 88 rfl rfl) rfl (by decide) rfl ?_
                                      refine zj_goto (t := 134) (zdk ttX11_must 89 rfl rfl) (by decide) ?_
                                      exact ih1440  x1390 (x1391 + 1) (by omega) (by omega) (by omega)
                                    · exact absurd c1447 (by omega)
                                  · refine zj_if_eq (t := 166) (zdk ttX11_must 80 rfl rfl) (by decide) (by decide) (fun c1448 => ?_) (fun c1448 => ?_)
                                    · exact absurd c1448 (by omega)
                                    · refine zj_iload (zdk ttX11_must 81 rfl rfl) rfl ?_
                                      refine zj_aload_n (zdk ttX11_must 82 rfl rfl) rfl (by decide) ?_
                                      refine zj_getr (r := 22) (zdk ttX11_must 83 rfl rfl) zf_RX11_77 rfl (k_M s24) (rfM_41 s24) ?_
                                      refine zj_iload (zdk ttX11_must 84 rfl rfl) rfl ?_
                                      have b1449 : -2147483648 ≤ (h23.2 22 x1391) ∧ (h23.2 22 x1391) ≤ 2147483647 := abM_22 s24 x1391
                                      refine zj_iald (v := (h23.2 22 x1391)) (zdk ttX11_must 85 rfl rfl) (kaM_22 s24) (by decide) (by omega) rfl ?_
                                      refine zj_iadd (zdk ttX11_must 86 rfl rfl) ?_
                                      refine zj_wrap ?_
                                      have b1450 := zwp_in (x1390 + (h23.2 22 x1391))
                                      refine zj_istore (L' := [some (.inr 0), some (.inl p1), some (.inl p2), some (.inl v19), some (.inl x138), some (.inl x139), some (.inl (zwp (x1390 + (h23.2 22 x1391)))), some (.inl x1391)]) (zdk ttX11_must 87 rfl rfl) (by decide) rfl ?_
                                      refine zj_iinc (L' := [some (.inr 0), some (.inl p1), some (.inl p2), some (.inl v19), some (.inl x138), some (.inl x139), some (.inl (zwp (x1390 + (h23.2 22 x1391)))), some (.inl (x1391 + 1))]) (zdk ttX11_must 88 rfl rfl) rfl (by decide) rfl ?_
                                      refine zj_goto (t := 134) (zdk ttX11_must 89 rfl rfl) (by decide) ?_
                                      exact ih1440  (zwp (x1390 + (h23.2 22 x1391))) (x1391 + 1) (by omega) (by omega) (by omega)
                            exact lp1436 _ 0 0 (by omega) (by omega) (Nat.lt_succ_self _)
                          · refine zj_goto (t := 182) (zdk ttX11_must 67 rfl rfl) (by decide) ?_
                            refine zj_iinc (L' := [some (.inr 0), some (.inl p1), some (.inl p2), some (.inl v19), some (.inl x138), some (.inl (x139 + 1)), none, none]) (zdk ttX11_must 95 rfl rfl) rfl (by decide) rfl ?_
                            refine zj_goto (t := 84) (zdk ttX11_must 96 rfl rfl) (by decide) ?_
                            exact ih1307  x138 (x139 + 1) (by omega) (by omega) (by omega)
                exact lp1303 _ (-1) 0 (by omega) (by omega) (Nat.lt_succ_self _)
              · refine zj_aload_n (zdk ttX11_must 28 rfl rfl) rfl (by decide) ?_
                refine zj_getr (r := 22) (zdk ttX11_must 29 rfl rfl) zf_RX11_77 rfl (k_M s24) (rfM_41 s24) ?_
                refine zj_iload (zdk ttX11_must 30 rfl rfl) rfl ?_
                refine zj_aload_n (zdk ttX11_must 31 rfl rfl) rfl (by decide) ?_
                refine zj_iload (zdk ttX11_must 32 rfl rfl) rfl ?_
                refine zj_callV (av := [.inl x22]) (st := [.inl x22, .inr 22]) (zdk ttX11_must 33 rfl rfl) mb_X11_isHere mv_RX11_135 (ci := 11) rfl rfl (k_M s24) rfl rfl (Nat.le_of_ble_eq_true rfl) (s_X11_isHere l h23 x22 s24 (by omega)) (rm_ok (by decide) (by decide)) (zq_i fun v1452 h1453 q1451 => ?_)
                obtain ⟨rfl, ⟨rfl, b1454⟩ | ⟨rfl, b1454⟩⟩ := q1451
                · refine zj_if_eq (t := 73) (zdk ttX11_must 34 rfl rfl) (by decide) (by decide) (fun c1455 => ?_) (fun c1455 => ?_)
                  · refine zj_iconst (zdk ttX11_must 39 rfl rfl) ?_
                    refine zj_iast (zdk ttX11_must 40 rfl rfl) (kaM_22 s24) (by decide) (by omega) (fun h1456 e1457 => ?_)
                    refine zj_iinc (L' := [some (.inr 0), some (.inl p1), some (.inl p2), some (.inl v19), some (.inl (-1)), some (.inl (x22 + 1)), none, none]) (zdk ttX11_must 41 rfl rfl) rfl (by decide) rfl ?_
                    refine zj_goto (t := 40) (zdk ttX11_must 42 rfl rfl) (by decide) ?_
                    have s1458 : okM h1456 := awM_22 s24 e1457 (by omega) (by unfold nsp; omega)
                    have f1459 : zfr [0] [20, 21, 22] h h1456 := zfr_wa f25 e1457 rfl
                    exact ih119  (x22 + 1) h1456 (by omega) s1458 f1459 (by omega)
                  · exact absurd c1455 (by omega)
                · refine zj_if_eq (t := 73) (zdk ttX11_must 34 rfl rfl) (by decide) (by decide) (fun c1460 => ?_) (fun c1460 => ?_)
                  · exact absurd c1460 (by omega)
                  · refine zj_aload_n (zdk ttX11_must 35 rfl rfl) rfl (by decide) ?_
                    refine zj_iload (zdk ttX11_must 36 rfl rfl) rfl ?_
                    refine zj_callV (av := [.inl x22]) (st := [.inl x22, .inr 22]) (zdk ttX11_must 37 rfl rfl) mb_X11_windsOf mv_RX11_334 (ci := 11) rfl rfl (k_M s24) rfl rfl (Nat.le_of_ble_eq_true rfl) (s_X11_windsOf l h23 x22 s24 (by omega)) (rm_ok (by decide) (by decide)) (zq_i fun v1462 h1463 q1461 => ?_)
                    obtain ⟨b1464, s1465, f1466⟩ := q1461
                    refine zj_goto (t := 74) (zdk ttX11_must 38 rfl rfl) (by decide) ?_
                    refine zj_iast (zdk ttX11_must 40 rfl rfl) (kaM_22 s1465) (by decide) (by omega) (fun h1467 e1468 => ?_)
                    refine zj_iinc (L' := [some (.inr 0), some (.inl p1), some (.inl p2), some (.inl v19), some (.inl (-1)), some (.inl (x22 + 1)), none, none]) (zdk ttX11_must 41 rfl rfl) rfl (by decide) rfl ?_
                    refine zj_goto (t := 40) (zdk ttX11_must 42 rfl rfl) (by decide) ?_
                    have s1469 : okM h1467 := awM_22 s1465 e1468 (by omega) (by unfold nsp; omega)
                    have f1471 : zfr [0] [20, 21, 22] h h1463 := zfr_t f25 f1466 rfl rfl
                    have f1470 : zfr [0] [20, 21, 22] h h1467 := zfr_wa f1471 e1468 rfl
                    exact ih119  (x22 + 1) h1467 (by omega) s1469 f1470 (by omega)
          have f1472 : zfr [0] [20, 21, 22] h h1 := zfr_wf (zfr_r _ _ _) e2 rfl
          exact lp116 _ 0 h1 (by omega) s3 f1472 (Nat.lt_succ_self _)
        · exact absurd c17 (by omega)

