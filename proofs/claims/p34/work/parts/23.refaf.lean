abbrev tX11_glasses : List (Nat × Instr × Nat) := [(0, .aload_n 0, 1), (1, .iconst 0, 1), (2, .putfield 120, 3), (5, .aload_n 0, 1), (6, .iload_n 1, 1), (7, .iconst 1, 1), (8, .bipush 30, 2), (10, .invokevirtual 139, 3), (13, .ifCond .eq 25, 3), (16, .aload_n 0, 1), (17, .iload_n 2, 1), (18, .iconst 1, 1), (19, .bipush 30, 2), (21, .invokevirtual 139, 3), (24, .ifCond .eq 14, 3), (27, .aload_n 0, 1), (28, .iload_n 3, 1), (29, .iconst 1, 1), (30, .bipush 120, 2), (32, .invokevirtual 139, 3), (35, .ifCond .ne 5, 3), (38, .iconst (-1), 1), (39, .ireturn, 1), (40, .iconst 0, 1), (41, .istore 4, 2), (43, .iload 4, 2), (45, .sipush 961, 3), (48, .iload_n 3, 1), (49, .iconst 1, 1), (50, .iadd, 1), (51, .imul, 1), (52, .if_icmp .ge 19, 3), (55, .aload_n 0, 1), (56, .getfield 93, 3), (59, .iload 4, 2), (61, .ldc_w 411, 3), (64, .iastore, 1), (65, .iinc 4 1, 3), (68, .goto (-25), 3), (71, .aload_n 0, 1), (72, .getfield 93, 3), (75, .aload_n 0, 1), (76, .iconst 0, 1), (77, .iload_n 1, 1), (78, .iload_n 2, 1), (79, .invokevirtual 415, 3), (82, .iconst 0, 1), (83, .iastore, 1), (84, .ldc_w 411, 3), (87, .istore 4, 2), (89, .iconst 0, 1), (90, .istore 5, 2), (92, .iload 5, 2), (94, .iload_n 3, 1), (95, .if_icmp .ge 228, 3), (98, .iconst 0, 1), (99, .istore 6, 2), (101, .iload 6, 2), (103, .iload_n 1, 1), (104, .if_icmp .gt 213, 3), (107, .iconst 0, 1), (108, .istore 7, 2), (110, .iload 7, 2), (112, .iload_n 2, 1), (113, .if_icmp .gt 198, 3), (116, .aload_n 0, 1), (117, .getfield 93, 3), (120, .aload_n 0, 1), (121, .iload 5, 2), (123, .iload 6, 2), (125, .iload 7, 2), (127, .invokevirtual 415, 3), (130, .iaload, 1), (131, .istore 8, 2), (133, .iload 6, 2), (135, .ifCond .ne 8, 3), (138, .iload 7, 2), (140, .goto 21, 3), (143, .iload 7, 2), (145, .ifCond .ne 8, 3), (148, .iload 6, 2), (150, .goto 11, 3), (153, .aload_n 0, 1), (154, .iload 6, 2), (156, .iload 7, 2), (158, .invokevirtual 371, 3), (161, .istore 9, 2), (163, .iload 8, 2), (165, .ldc_w 411, 3), (168, .if_icmp .eq 137, 3), (171, .iload 9, 2), (173, .ifCond .eq 132, 3), (176, .iload 5, 2), (178, .iload 9, 2), (180, .iadd, 1), (181, .iload_n 3, 1), (182, .if_icmp .le 6, 3), (185, .goto 120, 3), (188, .iload 5, 2), (190, .iload 9, 2), (192, .iadd, 1), (193, .iload_n 3, 1), (194, .if_icmp .ne 13, 3), (197, .aload_n 0, 1), (198, .iload 4, 2), (200, .iload 8, 2), (202, .invokevirtual 371, 3), (205, .istore 4, 2), (207, .aload_n 0, 1), (208, .iconst 0, 1), (209, .iload 6, 2), (211, .iload 9, 2), (213, .isub, 1), (214, .invokevirtual 418, 3), (217, .istore 10, 2), (219, .aload_n 0, 1), (220, .iconst 0, 1), (221, .iload 7, 2), (223, .iload 9, 2), (225, .isub, 1), (226, .invokevirtual 418, 3), (229, .istore 11, 2), (231, .aload_n 0, 1), (232, .iload 5, 2), (234, .iload 9, 2), (236, .iadd, 1), (237, .iload 10, 2), (239, .iload 11, 2), (241, .iload 8, 2), (243, .invokevirtual 421, 3), (246, .aload_n 0, 1), (247, .iload 5, 2), (249, .iload 9, 2), (251, .iadd, 1), (252, .iload_n 1, 1), (253, .iload 10, 2), (255, .isub, 1), (256, .iload 11, 2), (258, .iload 8, 2), (260, .iconst 1, 1), (261, .iadd, 1), (262, .invokevirtual 421, 3), (265, .aload_n 0, 1), (266, .iload 5, 2), (268, .iload 9, 2), (270, .iadd, 1), (271, .iload 10, 2), (273, .iload_n 2, 1), (274, .iload 11, 2), (276, .isub, 1), (277, .iload 8, 2), (279, .iconst 1, 1), (280, .iadd, 1), (281, .invokevirtual 421, 3), (284, .aload_n 0, 1), (285, .iload 5, 2), (287, .iload 9, 2), (289, .iadd, 1), (290, .iload_n 1, 1), (291, .iload 10, 2), (293, .isub, 1), (294, .iload_n 2, 1), (295, .iload 11, 2), (297, .isub, 1), (298, .iload 8, 2), (300, .iconst 2, 1), (301, .iadd, 1), (302, .invokevirtual 421, 3), (305, .iinc 7 1, 3), (308, .goto (-198), 3), (311, .iinc 6 1, 3), (314, .goto (-213), 3), (317, .iinc 5 1, 3), (320, .goto (-228), 3), (323, .iload 4, 2), (325, .ldc_w 411, 3), (328, .if_icmp .ne 7, 3), (331, .iconst (-1), 1), (332, .goto 5, 3), (335, .iload 4, 2), (337, .ireturn, 1)]
theorem ttX11_glasses : zdt cX11_glasses tX11_glasses = true := by decide +kernel
abbrev q_X11_glasses (h : zM) (p1 : Int) (p2 : Int) (p3 : Int) : Option zV → zM → Prop := zqi fun v h' => ((-2147483648) ≤ v ∧ v ≤ 2147483647) ∧ okM h' ∧ zfr [0] [27] h h'
set_option maxRecDepth 100000 in
set_option maxHeartbeats 4000000 in
theorem s_X11_glasses (l : Launch) (h : zM) (p1 : Int) (p2 : Int) (p3 : Int) (s0 : okM h) (b_p1 : (-2147483648) ≤ p1 ∧ p1 ≤ 2147483647) (b_p2 : (-2147483648) ≤ p2 ∧ p2 ≤ 2147483647) (b_p3 : (-2147483648) ≤ p3 ∧ p3 ≤ 2147483647) : zT shM l yX11_glasses cX11_glasses 12 (some .int) (rmL 3) 0 0 [.inr 0, .inl p1, .inl p2, .inl p3] h (q_X11_glasses h p1 p2 p3) := by
  refine zT_of (by decide +kernel) (L0 := [some (.inr 0), some (.inl p1), some (.inl p2), some (.inl p3), none, none, none, none, none, none, none, none]) rfl (Nat.le_of_ble_eq_true rfl) ?_
  refine zj_aload_n (zdk ttX11_glasses 0 rfl rfl) rfl (by decide) ?_
  refine zj_iconst (zdk ttX11_glasses 1 rfl rfl) ?_
  refine zj_puti (zdk ttX11_glasses 2 rfl rfl) zf_RX11_120 rfl (k_M s0) (Or.inl zw_RX11_120) (k2 := 0) rfl (fun h1 e2 => ?_)
  refine zj_aload_n (zdk ttX11_glasses 3 rfl rfl) rfl (by decide) ?_
  refine zj_iload_n (zdk ttX11_glasses 4 rfl rfl) rfl ?_
  refine zj_iconst (zdk ttX11_glasses 5 rfl rfl) ?_
  refine zj_bipush (zdk ttX11_glasses 6 rfl rfl) (by decide) ?_
  have s3 : okM h1 := fwM_0 s0 e2 (by omega)
  refine zj_callV (av := [.inl p1, .inl 1, .inl 30]) (st := []) (zdk ttX11_glasses 7 rfl rfl) mb_X11_isIn mv_RX11_139 (ci := 11) rfl rfl (k_M s3) rfl rfl (Nat.le_of_ble_eq_true rfl) (s_X11_isIn l h1 p1 1 30 s3 (by omega) (by omega) (by omega)) (rm_ok (by decide) (by decide)) (zq_i fun v5 h6 q4 => ?_)
  obtain ⟨rfl, ⟨rfl, b7⟩ | ⟨rfl, b7⟩⟩ := q4
  · refine zj_if_eq (t := 38) (zdk ttX11_glasses 8 rfl rfl) (by decide) (by decide) (fun c8 => ?_) (fun c8 => ?_)
    · refine zj_iconst (zdk ttX11_glasses 21 rfl rfl) ?_
      have f9 : zfr [0] [27] h h1 := zfr_wf (zfr_r _ _ _) e2 rfl
      exact zj_iret rfl (zdk ttX11_glasses 22 rfl rfl) (Nat.le_refl _) (Nat.le_refl _) ⟨(-1), rfl, by omega, s3, f9⟩
    · exact absurd c8 (by omega)
  · refine zj_if_eq (t := 38) (zdk ttX11_glasses 8 rfl rfl) (by decide) (by decide) (fun c10 => ?_) (fun c10 => ?_)
    · exact absurd c10 (by omega)
    · refine zj_aload_n (zdk ttX11_glasses 9 rfl rfl) rfl (by decide) ?_
      refine zj_iload_n (zdk ttX11_glasses 10 rfl rfl) rfl ?_
      refine zj_iconst (zdk ttX11_glasses 11 rfl rfl) ?_
      refine zj_bipush (zdk ttX11_glasses 12 rfl rfl) (by decide) ?_
      refine zj_callV (av := [.inl p2, .inl 1, .inl 30]) (st := []) (zdk ttX11_glasses 13 rfl rfl) mb_X11_isIn mv_RX11_139 (ci := 11) rfl rfl (k_M s3) rfl rfl (Nat.le_of_ble_eq_true rfl) (s_X11_isIn l h1 p2 1 30 s3 (by omega) (by omega) (by omega)) (rm_ok (by decide) (by decide)) (zq_i fun v12 h13 q11 => ?_)
      obtain ⟨rfl, ⟨rfl, b14⟩ | ⟨rfl, b14⟩⟩ := q11
      · refine zj_if_eq (t := 38) (zdk ttX11_glasses 14 rfl rfl) (by decide) (by decide) (fun c15 => ?_) (fun c15 => ?_)
        · refine zj_iconst (zdk ttX11_glasses 21 rfl rfl) ?_
          have f16 : zfr [0] [27] h h1 := zfr_wf (zfr_r _ _ _) e2 rfl
          exact zj_iret rfl (zdk ttX11_glasses 22 rfl rfl) (Nat.le_refl _) (Nat.le_refl _) ⟨(-1), rfl, by omega, s3, f16⟩
        · exact absurd c15 (by omega)
      · refine zj_if_eq (t := 38) (zdk ttX11_glasses 14 rfl rfl) (by decide) (by decide) (fun c17 => ?_) (fun c17 => ?_)
        · exact absurd c17 (by omega)
        · refine zj_aload_n (zdk ttX11_glasses 15 rfl rfl) rfl (by decide) ?_
          refine zj_iload_n (zdk ttX11_glasses 16 rfl rfl) rfl ?_
          refine zj_iconst (zdk ttX11_glasses 17 rfl rfl) ?_
          refine zj_bipush (zdk ttX11_glasses 18 rfl rfl) (by decide) ?_
          refine zj_callV (av := [.inl p3, .inl 1, .inl 120]) (st := []) (zdk ttX11_glasses 19 rfl rfl) mb_X11_isIn mv_RX11_139 (ci := 11) rfl rfl (k_M s3) rfl rfl (Nat.le_of_ble_eq_true rfl) (s_X11_isIn l h1 p3 1 120 s3 (by omega) (by omega) (by omega)) (rm_ok (by decide) (by decide)) (zq_i fun v19 h20 q18 => ?_)
          obtain ⟨rfl, ⟨rfl, b21⟩ | ⟨rfl, b21⟩⟩ := q18
          · refine zj_if_ne (t := 40) (zdk ttX11_glasses 20 rfl rfl) (by decide) (by decide) (fun c22 => ?_) (fun c22 => ?_)
            · exact absurd c22 (by omega)
            · refine zj_iconst (zdk ttX11_glasses 21 rfl rfl) ?_
              have f23 : zfr [0] [27] h h1 := zfr_wf (zfr_r _ _ _) e2 rfl
              exact zj_iret rfl (zdk ttX11_glasses 22 rfl rfl) (Nat.le_refl _) (Nat.le_refl _) ⟨(-1), rfl, by omega, s3, f23⟩
          · refine zj_if_ne (t := 40) (zdk ttX11_glasses 20 rfl rfl) (by decide) (by decide) (fun c24 => ?_) (fun c24 => ?_)
            · refine zj_iconst (zdk ttX11_glasses 23 rfl rfl) ?_
              refine zj_istore (L' := [some (.inr 0), some (.inl p1), some (.inl p2), some (.inl p3), some (.inl 0), none, none, none, none, none, none, none]) (zdk ttX11_glasses 24 rfl rfl) (by decide) rfl ?_
              have lp62 : ∀ (n43 : Nat) (x25 : Int) (h26 : zM), (0 ≤ x25 ∧ x25 ≤ 116281) → okM h26 → zfr [0] [27] h h26 → (116282 - x25).toNat < n43 → zJ shM l yX11_glasses cX11_glasses 12 (some .int) (rmL 3) 0 0 (q_X11_glasses h p1 p2 p3) 0 0 43 [some (.inr 0), some (.inl p1), some (.inl p2), some (.inl p3), some (.inl x25), none, none, none, none, none, none, none] [] h26 := by
                intro n43
                induction n43 with
                | zero => intro x25 h26 b63 s27 f28 m64; exact absurd m64 (Nat.not_lt_zero _)
                | succ n43 ih65 =>
                  intro x25 h26 b63 s27 f28 m64
                  refine zj_iload (zdk ttX11_glasses 25 rfl rfl) rfl ?_
                  refine zj_sipush (zdk ttX11_glasses 26 rfl rfl) (by decide) ?_
                  refine zj_iload_n (zdk ttX11_glasses 27 rfl rfl) rfl ?_
                  refine zj_iconst (zdk ttX11_glasses 28 rfl rfl) ?_
                  refine zj_iadd (zdk ttX11_glasses 29 rfl rfl) ?_
                  refine zj_imul (zdk ttX11_glasses 30 rfl rfl) ?_
                  refine zj_icmp_ge (t := 71) (zdk ttX11_glasses 31 rfl rfl) (by decide) (by omega) (by omega) (fun c66 => ?_) (fun c66 => ?_)
                  · refine zj_aload_n (zdk ttX11_glasses 39 rfl rfl) rfl (by decide) ?_
                    refine zj_getr (r := 27) (zdk ttX11_glasses 40 rfl rfl) zf_RX11_93 rfl (k_M s27) (rfM_48 s27) ?_
                    refine zj_aload_n (zdk ttX11_glasses 41 rfl rfl) rfl (by decide) ?_
                    refine zj_iconst (zdk ttX11_glasses 42 rfl rfl) ?_
                    refine zj_iload_n (zdk ttX11_glasses 43 rfl rfl) rfl ?_
                    refine zj_iload_n (zdk ttX11_glasses 44 rfl rfl) rfl ?_
                    refine zj_callV (av := [.inl 0, .inl p1, .inl p2]) (st := [.inr 27]) (zdk ttX11_glasses 45 rfl rfl) mb_X11_glassAt mv_RX11_415 (ci := 11) rfl rfl (k_M s27) rfl rfl (Nat.le_of_ble_eq_true rfl) (s_X11_glassAt l h26 0 p1 p2 s27 (by omega) (by omega) (by omega)) (rm_ok (by decide) (by decide)) (zq_i fun v70 h71 q69 => ?_)
                    obtain ⟨rfl, rfl, b72⟩ := q69
                    refine zj_iconst (zdk ttX11_glasses 46 rfl rfl) ?_
                    refine zj_iast (zdk ttX11_glasses 47 rfl rfl) (kaM_27 s27) (by decide) (by omega) (fun h73 e74 => ?_)
                    refine zj_ldc_w (z := 100000000) (zdk ttX11_glasses 48 rfl rfl) wc_RX11_411 ?_
                    refine zj_istore (L' := [some (.inr 0), some (.inl p1), some (.inl p2), some (.inl p3), some (.inl 100000000), none, none, none, none, none, none, none]) (zdk ttX11_glasses 49 rfl rfl) (by decide) rfl ?_
                    refine zj_iconst (zdk ttX11_glasses 50 rfl rfl) ?_
                    refine zj_istore (L' := [some (.inr 0), some (.inl p1), some (.inl p2), some (.inl p3), some (.inl 100000000), some (.inl 0), none, none, none, none, none, none]) (zdk ttX11_glasses 51 rfl rfl) (by decide) rfl ?_
                    have lp42002 : ∀ (n92 : Nat) (x75 x76 : Int) (h77 : zM), (-2147483648 ≤ x75 ∧ x75 ≤ 100000000) → (0 ≤ x76 ∧ x76 ≤ 120) → okM h77 → zfr [0] [27] h h77 → (121 - x76).toNat < n92 → zJ shM l yX11_glasses cX11_glasses 12 (some .int) (rmL 3) 0 0 (q_X11_glasses h p1 p2 p3) 0 0 92 [some (.inr 0), some (.inl p1), some (.inl p2), some (.inl p3), some (.inl x75), some (.inl x76), none, none, none, none, none, none] [] h77 := by
                      intro n92
                      induction n92 with
                      | zero => intro x75 x76 h77 b42003 b42004 s78 f79 m42005; exact absurd m42005 (Nat.not_lt_zero _)
                      | succ n92 ih42006 =>
                        intro x75 x76 h77 b42003 b42004 s78 f79 m42005
                        refine zj_iload (zdk ttX11_glasses 52 rfl rfl) rfl ?_
                        refine zj_iload_n (zdk ttX11_glasses 53 rfl rfl) rfl ?_
                        refine zj_icmp_ge (t := 323) (zdk ttX11_glasses 54 rfl rfl) (by decide) (by omega) (by omega) (fun c42007 => ?_) (fun c42007 => ?_)
                        · refine zj_iload (zdk ttX11_glasses 174 rfl rfl) rfl ?_
                          refine zj_ldc_w (z := 100000000) (zdk ttX11_glasses 175 rfl rfl) wc_RX11_411 ?_
                          refine zj_icmp_ne (t := 335) (zdk ttX11_glasses 176 rfl rfl) (by decide) (by omega) (by decide) (fun c42008 => ?_) (fun c42008 => ?_)
                          · refine zj_iload (zdk ttX11_glasses 179 rfl rfl) rfl ?_
                            exact zj_iret rfl (zdk ttX11_glasses 180 rfl rfl) (Nat.le_refl _) (Nat.le_refl _) ⟨x75, rfl, by omega, s78, f79⟩
                          · refine zj_iconst (zdk ttX11_glasses 177 rfl rfl) ?_
                            refine zj_goto (t := 337) (zdk ttX11_glasses 178 rfl rfl) (by decide) ?_
                            exact zj_iret rfl (zdk ttX11_glasses 180 rfl rfl) (Nat.le_refl _) (Nat.le_refl _) ⟨(-1), rfl, by omega, s78, f79⟩
                        · refine zj_iconst (zdk ttX11_glasses 55 rfl rfl) ?_
                          refine zj_istore (L' := [some (.inr 0), some (.inl p1), some (.inl p2), some (.inl p3), some (.inl x75), some (.inl x76), some (.inl 0), none, none, none, none, none]) (zdk ttX11_glasses 56 rfl rfl) (by decide) rfl ?_
                          have lp46060 : ∀ (n101 : Nat) (x42009 x42010 : Int) (h42011 : zM), (-2147483648 ≤ x42009 ∧ x42009 ≤ 100000000) → (0 ≤ x42010 ∧ x42010 ≤ 31) → okM h42011 → zfr [0] [27] h h42011 → (32 - x42010).toNat < n101 → zJ shM l yX11_glasses cX11_glasses 12 (some .int) (rmL 3) 0 0 (q_X11_glasses h p1 p2 p3) 0 0 101 [some (.inr 0), some (.inl p1), some (.inl p2), some (.inl p3), some (.inl x42009), some (.inl x76), some (.inl x42010), none, none, none, none, none] [] h42011 := by
                            intro n101
                            induction n101 with
                            | zero => intro x42009 x42010 h42011 b46061 b46062 s42012 f42013 m46063; exact absurd m46063 (Nat.not_lt_zero _)
                            | succ n101 ih46064 =>
                              intro x42009 x42010 h42011 b46061 b46062 s42012 f42013 m46063
                              refine zj_iload (zdk ttX11_glasses 57 rfl rfl) rfl ?_
                              refine zj_iload_n (zdk ttX11_glasses 58 rfl rfl) rfl ?_
                              refine zj_icmp_gt (t := 317) (zdk ttX11_glasses 59 rfl rfl) (by decide) (by omega) (by omega) (fun c46065 => ?_) (fun c46065 => ?_)
                              · refine zj_iinc (L' := [some (.inr 0), some (.inl p1), some (.inl p2), some (.inl p3), some (.inl x42009), some (.inl (x76 + 1)), some (.inl x42010), none, none, none, none, none]) (zdk ttX11_glasses 172 rfl rfl) rfl (by decide) rfl ?_
                                refine zj_goto (t := 92) (zdk ttX11_glasses 173 rfl rfl) (by decide) ?_
                                refine zj_kill (k := 6) (L' := [some (.inr 0), some (.inl p1), some (.inl p2), some (.inl p3), some (.inl x42009), some (.inl (x76 + 1)), none, none, none, none, none, none]) rfl ?_
                                exact ih42006  x42009 (x76 + 1) h42011 (by omega) (by omega) s42012 f42013 (by omega)
                              · refine zj_iconst (zdk ttX11_glasses 60 rfl rfl) ?_
                                refine zj_istore (L' := [some (.inr 0), some (.inl p1), some (.inl p2), some (.inl p3), some (.inl x42009), some (.inl x76), some (.inl x42010), some (.inl 0), none, none, none, none]) (zdk ttX11_glasses 61 rfl rfl) (by decide) rfl ?_
                                have lp46586 : ∀ (n110 : Nat) (x46066 x46067 : Int) (h46068 : zM), (-2147483648 ≤ x46066 ∧ x46066 ≤ 100000000) → (0 ≤ x46067 ∧ x46067 ≤ 31) → okM h46068 → zfr [0] [27] h h46068 → (32 - x46067).toNat < n110 → zJ shM l yX11_glasses cX11_glasses 12 (some .int) (rmL 3) 0 0 (q_X11_glasses h p1 p2 p3) 0 0 110 [some (.inr 0), some (.inl p1), some (.inl p2), some (.inl p3), some (.inl x46066), some (.inl x76), some (.inl x42010), some (.inl x46067), none, none, none, none] [] h46068 := by
                                  intro n110
                                  induction n110 with
                                  | zero => intro x46066 x46067 h46068 b46587 b46588 s46069 f46070 m46589; exact absurd m46589 (Nat.not_lt_zero _)
                                  | succ n110 ih46590 =>
                                    intro x46066 x46067 h46068 b46587 b46588 s46069 f46070 m46589
                                    refine zj_iload (zdk ttX11_glasses 62 rfl rfl) rfl ?_
                                    refine zj_iload_n (zdk ttX11_glasses 63 rfl rfl) rfl ?_
                                    refine zj_icmp_gt (t := 311) (zdk ttX11_glasses 64 rfl rfl) (by decide) (by omega) (by omega) (fun c46591 => ?_) (fun c46591 => ?_)
                                    · refine zj_iinc (L' := [some (.inr 0), some (.inl p1), some (.inl p2), some (.inl p3), some (.inl x46066), some (.inl x76), some (.inl (x42010 + 1)), some (.inl x46067), none, none, none, none]) (zdk ttX11_glasses 170 rfl rfl) rfl (by decide) rfl ?_
                                      refine zj_goto (t := 101) (zdk ttX11_glasses 171 rfl rfl) (by decide) ?_
                                      refine zj_kill (k := 7) (L' := [some (.inr 0), some (.inl p1), some (.inl p2), some (.inl p3), some (.inl x46066), some (.inl x76), some (.inl (x42010 + 1)), none, none, none, none, none]) rfl ?_
                                      exact ih46064  x46066 (x42010 + 1) h46068 (by omega) (by omega) s46069 f46070 (by omega)
                                    · refine zj_aload_n (zdk ttX11_glasses 65 rfl rfl) rfl (by decide) ?_
                                      refine zj_getr (r := 27) (zdk ttX11_glasses 66 rfl rfl) zf_RX11_93 rfl (k_M s46069) (rfM_48 s46069) ?_
                                      refine zj_aload_n (zdk ttX11_glasses 67 rfl rfl) rfl (by decide) ?_
                                      refine zj_iload (zdk ttX11_glasses 68 rfl rfl) rfl ?_
                                      refine zj_iload (zdk ttX11_glasses 69 rfl rfl) rfl ?_
                                      refine zj_iload (zdk ttX11_glasses 70 rfl rfl) rfl ?_
                                      refine zj_callV (av := [.inl x76, .inl x42010, .inl x46067]) (st := [.inr 27]) (zdk ttX11_glasses 71 rfl rfl) mb_X11_glassAt mv_RX11_415 (ci := 11) rfl rfl (k_M s46069) rfl rfl (Nat.le_of_ble_eq_true rfl) (s_X11_glassAt l h46068 x76 x42010 x46067 s46069 (by omega) (by omega) (by omega)) (rm_ok (by decide) (by decide)) (zq_i fun v46593 h46594 q46592 => ?_)
                                      obtain ⟨rfl, rfl, b46595⟩ := q46592
                                      have b46596 : -2147483648 ≤ (h46068.2 27 (((961 * x76) + (31 * x42010)) + x46067)) ∧ (h46068.2 27 (((961 * x76) + (31 * x42010)) + x46067)) ≤ 2147483647 := abM_27 s46069 (((961 * x76) + (31 * x42010)) + x46067)
                                      refine zj_iald (v := (h46068.2 27 (((961 * x76) + (31 * x42010)) + x46067))) (zdk ttX11_glasses 72 rfl rfl) (kaM_27 s46069) (by decide) (by omega) rfl ?_
                                      refine zj_istore (L' := [some (.inr 0), some (.inl p1), some (.inl p2), some (.inl p3), some (.inl x46066), some (.inl x76), some (.inl x42010), some (.inl x46067), some (.inl (h46068.2 27 (((961 * x76) + (31 * x42010)) + x46067))), none, none, none]) (zdk ttX11_glasses 73 rfl rfl) (by decide) rfl ?_
                                      refine zj_iload (zdk ttX11_glasses 74 rfl rfl) rfl ?_
                                      have j46605 : ∀ (y46604 : Int), (0 ≤ y46604 ∧ y46604 ≤ 30) → zJ shM l yX11_glasses cX11_glasses 12 (some .int) (rmL 3) 0 0 (q_X11_glasses h p1 p2 p3) 0 0 161 [some (.inr 0), some (.inl p1), some (.inl p2), some (.inl p3), some (.inl x46066), some (.inl x76), some (.inl x42010), some (.inl x46067), some (.inl (h46068.2 27 (((961 * x76) + (31 * x42010)) + x46067))), none, none, none] [.inl y46604] h46068 := by
                                        intro y46604 b46606
                                        refine zj_istore (L' := [some (.inr 0), some (.inl p1), some (.inl p2), some (.inl p3), some (.inl x46066), some (.inl x76), some (.inl x42010), some (.inl x46067), some (.inl (h46068.2 27 (((961 * x76) + (31 * x42010)) + x46067))), some (.inl y46604), none, none]) (zdk ttX11_glasses 86 rfl rfl) (by decide) rfl ?_
                                        refine zj_iload (zdk ttX11_glasses 87 rfl rfl) rfl ?_
                                        refine zj_ldc_w (z := 100000000) (zdk ttX11_glasses 88 rfl rfl) wc_RX11_411 ?_
                                        refine zj_icmp_eq (t := 305) (zdk ttX11_glasses 89 rfl rfl) (by decide) (by omega) (by decide) (fun c46607 => ?_) (fun c46607 => ?_)
                                        · refine zj_iinc (L' := [some (.inr 0), some (.inl p1), some (.inl p2), some (.inl p3), some (.inl x46066), some (.inl x76), some (.inl x42010), some (.inl (x46067 + 1)), some (.inl (h46068.2 27 (((961 * x76) + (31 * x42010)) + x46067))), some (.inl y46604), none, none]) (zdk ttX11_glasses 168 rfl rfl) rfl (by decide) rfl ?_
                                          refine zj_goto (t := 110) (zdk ttX11_glasses 169 rfl rfl) (by decide) ?_
                                          refine zj_kill (k := 8) (L' := [some (.inr 0), some (.inl p1), some (.inl p2), some (.inl p3), some (.inl x46066), some (.inl x76), some (.inl x42010), some (.inl (x46067 + 1)), none, some (.inl y46604), none, none]) rfl ?_
                                          refine zj_kill (k := 9) (L' := [some (.inr 0), some (.inl p1), some (.inl p2), some (.inl p3), some (.inl x46066), some (.inl x76), some (.inl x42010), some (.inl (x46067 + 1)), none, none, none, none]) rfl ?_
                                          exact ih46590  x46066 (x46067 + 1) h46068 (by omega) (by omega) s46069 f46070 (by omega)
                                        · refine zj_iload (zdk ttX11_glasses 90 rfl rfl) rfl ?_
                                          refine zj_if_eq (t := 305) (zdk ttX11_glasses 91 rfl rfl) (by decide) (by omega) (fun c46608 => ?_) (fun c46608 => ?_)
                                          · refine zj_iinc (L' := [some (.inr 0), some (.inl p1), some (.inl p2), some (.inl p3), some (.inl x46066), some (.inl x76), some (.inl x42010), some (.inl (x46067 + 1)), some (.inl (h46068.2 27 (((961 * x76) + (31 * x42010)) + x46067))), some (.inl y46604), none, none]) (zdk ttX11_glasses 168 rfl rfl) rfl (by decide) rfl ?_
                                            refine zj_goto (t := 110) (zdk ttX11_glasses 169 rfl rfl) (by decide) ?_
                                            refine zj_kill (k := 8) (L' := [some (.inr 0), some (.inl p1), some (.inl p2), some (.inl p3), some (.inl x46066), some (.inl x76), some (.inl x42010), some (.inl (x46067 + 1)), none, some (.inl y46604), none, none]) rfl ?_
                                            refine zj_kill (k := 9) (L' := [some (.inr 0), some (.inl p1), some (.inl p2), some (.inl p3), some (.inl x46066), some (.inl x76), some (.inl x42010), some (.inl (x46067 + 1)), none, none, none, none]) rfl ?_
                                            exact ih46590  x46066 (x46067 + 1) h46068 (by omega) (by omega) s46069 f46070 (by omega)
                                          · refine zj_iload (zdk ttX11_glasses 92 rfl rfl) rfl ?_
                                            refine zj_iload (zdk ttX11_glasses 93 rfl rfl) rfl ?_
                                            refine zj_iadd (zdk ttX11_glasses 94 rfl rfl) ?_
                                            refine zj_iload_n (zdk ttX11_glasses 95 rfl rfl) rfl ?_
                                            refine zj_icmp_le (t := 188) (zdk ttX11_glasses 96 rfl rfl) (by decide) (by omega) (by omega) (fun c46609 => ?_) (fun c46609 => ?_)
                                            · refine zj_iload (zdk ttX11_glasses 98 rfl rfl) rfl ?_
                                              refine zj_iload (zdk ttX11_glasses 99 rfl rfl) rfl ?_
                                              refine zj_iadd (zdk ttX11_glasses 100 rfl rfl) ?_
                                              refine zj_iload_n (zdk ttX11_glasses 101 rfl rfl) rfl ?_
                                              have j46617 : ∀ (x46616 : Int), (-2147483648 ≤ x46616 ∧ x46616 ≤ 100000000) → zJ shM l yX11_glasses cX11_glasses 12 (some .int) (rmL 3) 0 0 (q_X11_glasses h p1 p2 p3) 0 0 207 [some (.inr 0), some (.inl p1), some (.inl p2), some (.inl p3), some (.inl x46616), some (.inl x76), some (.inl x42010), some (.inl x46067), some (.inl (h46068.2 27 (((961 * x76) + (31 * x42010)) + x46067))), some (.inl y46604), none, none] [] h46068 := by
                                                intro x46616 b46618
                                                refine zj_aload_n (zdk ttX11_glasses 108 rfl rfl) rfl (by decide) ?_
                                                refine zj_iconst (zdk ttX11_glasses 109 rfl rfl) ?_
                                                refine zj_iload (zdk ttX11_glasses 110 rfl rfl) rfl ?_
                                                refine zj_iload (zdk ttX11_glasses 111 rfl rfl) rfl ?_
                                                refine zj_isub (zdk ttX11_glasses 112 rfl rfl) ?_
                                                refine zj_callV (av := [.inl 0, .inl (x42010 - y46604)]) (st := []) (zdk ttX11_glasses 113 rfl rfl) mb_X11_greater mv_RX11_418 (ci := 11) rfl rfl (k_M s46069) rfl rfl (Nat.le_of_ble_eq_true rfl) (s_X11_greater l h46068 0 (x42010 - y46604) s46069 (by omega) (by omega)) (rm_ok (by decide) (by decide)) (zq_i fun v46620 h46621 q46619 => ?_)
                                                obtain ⟨rfl, b46622⟩ := q46619
                                                have b46623 : -29 ≤ v46620 ∧ v46620 ≤ 29 := by omega
                                                refine zj_istore (L' := [some (.inr 0), some (.inl p1), some (.inl p2), some (.inl p3), some (.inl x46616), some (.inl x76), some (.inl x42010), some (.inl x46067), some (.inl (h46068.2 27 (((961 * x76) + (31 * x42010)) + x46067))), some (.inl y46604), some (.inl v46620), none]) (zdk ttX11_glasses 114 rfl rfl) (by decide) rfl ?_
                                                refine zj_aload_n (zdk ttX11_glasses 115 rfl rfl) rfl (by decide) ?_
                                                refine zj_iconst (zdk ttX11_glasses 116 rfl rfl) ?_
                                                refine zj_iload (zdk ttX11_glasses 117 rfl rfl) rfl ?_
                                                refine zj_iload (zdk ttX11_glasses 118 rfl rfl) rfl ?_
                                                refine zj_isub (zdk ttX11_glasses 119 rfl rfl) ?_
                                                refine zj_callV (av := [.inl 0, .inl (x46067 - y46604)]) (st := []) (zdk ttX11_glasses 120 rfl rfl) mb_X11_greater mv_RX11_418 (ci := 11) rfl rfl (k_M s46069) rfl rfl (Nat.le_of_ble_eq_true rfl) (s_X11_greater l h46068 0 (x46067 - y46604) s46069 (by omega) (by omega)) (rm_ok (by decide) (by decide)) (zq_i fun v46625 h46626 q46624 => ?_)
                                                obtain ⟨rfl, b46627⟩ := q46624
                                                have b46628 : -29 ≤ v46625 ∧ v46625 ≤ 29 := by omega
                                                refine zj_istore (L' := [some (.inr 0), some (.inl p1), some (.inl p2), some (.inl p3), some (.inl x46616), some (.inl x76), some (.inl x42010), some (.inl x46067), some (.inl (h46068.2 27 (((961 * x76) + (31 * x42010)) + x46067))), some (.inl y46604), some (.inl v46620), some (.inl v46625)]) (zdk ttX11_glasses 121 rfl rfl) (by decide) rfl ?_
                                                refine zj_aload_n (zdk ttX11_glasses 122 rfl rfl) rfl (by decide) ?_
                                                refine zj_iload (zdk ttX11_glasses 123 rfl rfl) rfl ?_
                                                refine zj_iload (zdk ttX11_glasses 124 rfl rfl) rfl ?_
                                                refine zj_iadd (zdk ttX11_glasses 125 rfl rfl) ?_
                                                refine zj_iload (zdk ttX11_glasses 126 rfl rfl) rfl ?_
                                                refine zj_iload (zdk ttX11_glasses 127 rfl rfl) rfl ?_
                                                refine zj_iload (zdk ttX11_glasses 128 rfl rfl) rfl ?_
                                                refine zj_callV (av := [.inl (x76 + y46604), .inl v46620, .inl v46625, .inl (h46068.2 27 (((961 * x76) + (31 * x42010)) + x46067))]) (st := []) (zdk ttX11_glasses 129 rfl rfl) mb_X11_turns mv_RX11_421 (ci := 11) rfl rfl (k_M s46069) rfl rfl (Nat.le_of_ble_eq_true rfl) (s_X11_turns l h46068 (x76 + y46604) v46620 v46625 (h46068.2 27 (((961 * x76) + (31 * x42010)) + x46067)) s46069 (by omega) (by omega) (by omega) (by omega)) (rm_ok (by decide) (by decide)) (zq_v fun h46631 q46629 => ?_)
                                                obtain ⟨s46633, f46634⟩ := q46629
                                                refine zj_aload_n (zdk ttX11_glasses 130 rfl rfl) rfl (by decide) ?_
                                                refine zj_iload (zdk ttX11_glasses 131 rfl rfl) rfl ?_
                                                refine zj_iload (zdk ttX11_glasses 132 rfl rfl) rfl ?_
                                                refine zj_iadd (zdk ttX11_glasses 133 rfl rfl) ?_
                                                refine zj_iload_n (zdk ttX11_glasses 134 rfl rfl) rfl ?_
                                                refine zj_iload (zdk ttX11_glasses 135 rfl rfl) rfl ?_
                                                refine zj_isub (zdk ttX11_glasses 136 rfl rfl) ?_
                                                refine zj_iload (zdk ttX11_glasses 137 rfl rfl) rfl ?_
                                                refine zj_iload (zdk ttX11_glasses 138 rfl rfl) rfl ?_
                                                refine zj_iconst (zdk ttX11_glasses 139 rfl rfl) ?_
                                                refine zj_iadd (zdk ttX11_glasses 140 rfl rfl) ?_
                                                refine zj_wrap ?_
                                                have b46635 := zwp_in ((h46068.2 27 (((961 * x76) + (31 * x42010)) + x46067)) + 1)
                                                refine zj_callV (av := [.inl (x76 + y46604), .inl (p1 - v46620), .inl v46625, .inl (zwp ((h46068.2 27 (((961 * x76) + (31 * x42010)) + x46067)) + 1))]) (st := []) (zdk ttX11_glasses 141 rfl rfl) mb_X11_turns mv_RX11_421 (ci := 11) rfl rfl (k_M s46633) rfl rfl (Nat.le_of_ble_eq_true rfl) (s_X11_turns l h46631 (x76 + y46604) (p1 - v46620) v46625 (zwp ((h46068.2 27 (((961 * x76) + (31 * x42010)) + x46067)) + 1)) s46633 (by omega) (by omega) (by omega) (by omega)) (rm_ok (by decide) (by decide)) (zq_v fun h46638 q46636 => ?_)
                                                obtain ⟨s46640, f46641⟩ := q46636
                                                refine zj_aload_n (zdk ttX11_glasses 142 rfl rfl) rfl (by decide) ?_
                                                refine zj_iload (zdk ttX11_glasses 143 rfl rfl) rfl ?_
                                                refine zj_iload (zdk ttX11_glasses 144 rfl rfl) rfl ?_
                                                refine zj_iadd (zdk ttX11_glasses 145 rfl rfl) ?_
                                                refine zj_iload (zdk ttX11_glasses 146 rfl rfl) rfl ?_
                                                refine zj_iload_n (zdk ttX11_glasses 147 rfl rfl) rfl ?_
                                                refine zj_iload (zdk ttX11_glasses 148 rfl rfl) rfl ?_
                                                refine zj_isub (zdk ttX11_glasses 149 rfl rfl) ?_
                                                refine zj_iload (zdk ttX11_glasses 150 rfl rfl) rfl ?_
                                                refine zj_iconst (zdk ttX11_glasses 151 rfl rfl) ?_
                                                refine zj_iadd (zdk ttX11_glasses 152 rfl rfl) ?_
                                                refine zj_wrap ?_
                                                refine zj_callV (av := [.inl (x76 + y46604), .inl v46620, .inl (p2 - v46625), .inl (zwp ((h46068.2 27 (((961 * x76) + (31 * x42010)) + x46067)) + 1))]) (st := []) (zdk ttX11_glasses 153 rfl rfl) mb_X11_turns mv_RX11_421 (ci := 11) rfl rfl (k_M s46640) rfl rfl (Nat.le_of_ble_eq_true rfl) (s_X11_turns l h46638 (x76 + y46604) v46620 (p2 - v46625) (zwp ((h46068.2 27 (((961 * x76) + (31 * x42010)) + x46067)) + 1)) s46640 (by omega) (by omega) (by omega) (by omega)) (rm_ok (by decide) (by decide)) (zq_v fun h46644 q46642 => ?_)
                                                obtain ⟨s46646, f46647⟩ := q46642
                                                refine zj_aload_n (zdk ttX11_glasses 154 rfl rfl) rfl (by decide) ?_
                                                refine zj_iload (zdk ttX11_glasses 155 rfl rfl) rfl ?_
                                                refine zj_iload (zdk ttX11_glasses 156 rfl rfl) rfl ?_
                                                refine zj_iadd (zdk ttX11_glasses 157 rfl rfl) ?_
                                                refine zj_iload_n (zdk ttX11_glasses 158 rfl rfl) rfl ?_
                                                refine zj_iload (zdk ttX11_glasses 159 rfl rfl) rfl ?_
                                                refine zj_isub (zdk ttX11_glasses 160 rfl rfl) ?_
                                                refine zj_iload_n (zdk ttX11_glasses 161 rfl rfl) rfl ?_
                                                refine zj_iload (zdk ttX11_glasses 162 rfl rfl) rfl ?_
                                                refine zj_isub (zdk ttX11_glasses 163 rfl rfl) ?_
                                                refine zj_iload (zdk ttX11_glasses 164 rfl rfl) rfl ?_
                                                refine zj_iconst (zdk ttX11_glasses 165 rfl rfl) ?_
                                                refine zj_iadd (zdk ttX11_glasses 166 rfl rfl) ?_
                                                refine zj_wrap ?_
                                                have b46648 := zwp_in ((h46068.2 27 (((961 * x76) + (31 * x42010)) + x46067)) + 2)
                                                refine zj_callV (av := [.inl (x76 + y46604), .inl (p1 - v46620), .inl (p2 - v46625), .inl (zwp ((h46068.2 27 (((961 * x76) + (31 * x42010)) + x46067)) + 2))]) (st := []) (zdk ttX11_glasses 167 rfl rfl) mb_X11_turns mv_RX11_421 (ci := 11) rfl rfl (k_M s46646) rfl rfl (Nat.le_of_ble_eq_true rfl) (s_X11_turns l h46644 (x76 + y46604) (p1 - v46620) (p2 - v46625) (zwp ((h46068.2 27 (((961 * x76) + (31 * x42010)) + x46067)) + 2)) s46646 (by omega) (by omega) (by omega) (by omega)) (rm_ok (by decide) (by decide)) (zq_v fun h46651 q46649 => ?_)
                                                obtain ⟨s46653, f46654⟩ := q46649
                                                refine zj_iinc (L' := [some (.inr 0), some (.inl p1), some (.inl p2), some (.inl p3), some (.inl x46616), some (.inl x76), some (.inl x42010), some (.inl (x46067 + 1)), some (.inl (h46068.2 27 (((961 * x76) + (31 * x42010)) + x46067))), some (.inl y46604), some (.inl v46620), some (.inl v46625)]) (zdk ttX11_glasses 168 rfl rfl) rfl (by decide) rfl ?_
                                                refine zj_goto (t := 110) (zdk ttX11_glasses 169 rfl rfl) (by decide) ?_
                                                refine zj_kill (k := 8) (L' := [some (.inr 0), some (.inl p1), some (.inl p2), some (.inl p3), some (.inl x46616), some (.inl x76), some (.inl x42010), some (.inl (x46067 + 1)), none, some (.inl y46604), some (.inl v46620), some (.inl v46625)]) rfl ?_
                                                refine zj_kill (k := 9) (L' := [some (.inr 0), some (.inl p1), some (.inl p2), some (.inl p3), some (.inl x46616), some (.inl x76), some (.inl x42010), some (.inl (x46067 + 1)), none, none, some (.inl v46620), some (.inl v46625)]) rfl ?_
                                                refine zj_kill (k := 10) (L' := [some (.inr 0), some (.inl p1), some (.inl p2), some (.inl p3), some (.inl x46616), some (.inl x76), some (.inl x42010), some (.inl (x46067 + 1)), none, none, none, some (.inl v46625)]) rfl ?_
                                                refine zj_kill (k := 11) (L' := [some (.inr 0), some (.inl p1), some (.inl p2), some (.inl p3), some (.inl x46616), some (.inl x76), some (.inl x42010), some (.inl (x46067 + 1)), none, none, none, none]) rfl ?_
                                                have f46658 : zfr [0] [27] h h46631 := zfr_t f46070 f46634 rfl rfl
                                                have f46657 : zfr [0] [27] h h46638 := zfr_t f46658 f46641 rfl rfl
                                                have f46656 : zfr [0] [27] h h46644 := zfr_t f46657 f46647 rfl rfl
                                                have f46655 : zfr [0] [27] h h46651 := zfr_t f46656 f46654 rfl rfl
                                                exact ih46590  x46616 (x46067 + 1) h46651 (by omega) (by omega) s46653 f46655 (by omega)
                                              refine zj_icmp_ne (t := 207) (zdk ttX11_glasses 102 rfl rfl) (by decide) (by omega) (by omega) (fun c46610 => ?_) (fun c46610 => ?_)
                                              · exact j46617 x46066 (by omega)
                                              · refine zj_aload_n (zdk ttX11_glasses 103 rfl rfl) rfl (by decide) ?_
                                                refine zj_iload (zdk ttX11_glasses 104 rfl rfl) rfl ?_
                                                refine zj_iload (zdk ttX11_glasses 105 rfl rfl) rfl ?_
                                                refine zj_callV (av := [.inl x46066, .inl (h46068.2 27 (((961 * x76) + (31 * x42010)) + x46067))]) (st := []) (zdk ttX11_glasses 106 rfl rfl) mb_X11_lesser mv_RX11_371 (ci := 11) rfl rfl (k_M s46069) rfl rfl (Nat.le_of_ble_eq_true rfl) (s_X11_lesser l h46068 x46066 (h46068.2 27 (((961 * x76) + (31 * x42010)) + x46067)) s46069 (by omega) (by omega)) (rm_ok (by decide) (by decide)) (zq_i fun v46660 h46661 q46659 => ?_)
                                                obtain ⟨rfl, b46662⟩ := q46659
                                                have b46663 : -2147483648 ≤ v46660 ∧ v46660 ≤ 100000000 := by omega
                                                refine zj_istore (L' := [some (.inr 0), some (.inl p1), some (.inl p2), some (.inl p3), some (.inl v46660), some (.inl x76), some (.inl x42010), some (.inl x46067), some (.inl (h46068.2 27 (((961 * x76) + (31 * x42010)) + x46067))), some (.inl y46604), none, none]) (zdk ttX11_glasses 107 rfl rfl) (by decide) rfl ?_
                                                exact j46617 v46660 (by omega)
                                            · refine zj_goto (t := 305) (zdk ttX11_glasses 97 rfl rfl) (by decide) ?_
                                              refine zj_iinc (L' := [some (.inr 0), some (.inl p1), some (.inl p2), some (.inl p3), some (.inl x46066), some (.inl x76), some (.inl x42010), some (.inl (x46067 + 1)), some (.inl (h46068.2 27 (((961 * x76) + (31 * x42010)) + x46067))), some (.inl y46604), none, none]) (zdk ttX11_glasses 168 rfl rfl) rfl (by decide) rfl ?_
                                              refine zj_goto (t := 110) (zdk ttX11_glasses 169 rfl rfl) (by decide) ?_
                                              refine zj_kill (k := 8) (L' := [some (.inr 0), some (.inl p1), some (.inl p2), some (.inl p3), some (.inl x46066), some (.inl x76), some (.inl x42010), some (.inl (x46067 + 1)), none, some (.inl y46604), none, none]) rfl ?_
                                              refine zj_kill (k := 9) (L' := [some (.inr 0), some (.inl p1), some (.inl p2), some (.inl p3), some (.inl x46066), some (.inl x76), some (.inl x42010), some (.inl (x46067 + 1)), none, none, none, none]) rfl ?_
                                              exact ih46590  x46066 (x46067 + 1) h46068 (by omega) (by omega) s46069 f46070 (by omega)
                                      refine zj_if_ne (t := 143) (zdk ttX11_glasses 75 rfl rfl) (by decide) (by omega) (fun c46597 => ?_) (fun c46597 => ?_)
                                      · refine zj_iload (zdk ttX11_glasses 78 rfl rfl) rfl ?_
                                        refine zj_if_ne (t := 153) (zdk ttX11_glasses 79 rfl rfl) (by decide) (by omega) (fun c46664 => ?_) (fun c46664 => ?_)
                                        · refine zj_aload_n (zdk ttX11_glasses 82 rfl rfl) rfl (by decide) ?_
                                          refine zj_iload (zdk ttX11_glasses 83 rfl rfl) rfl ?_
                                          refine zj_iload (zdk ttX11_glasses 84 rfl rfl) rfl ?_
                                          refine zj_callV (av := [.inl x42010, .inl x46067]) (st := []) (zdk ttX11_glasses 85 rfl rfl) mb_X11_lesser mv_RX11_371 (ci := 11) rfl rfl (k_M s46069) rfl rfl (Nat.le_of_ble_eq_true rfl) (s_X11_lesser l h46068 x42010 x46067 s46069 (by omega) (by omega)) (rm_ok (by decide) (by decide)) (zq_i fun v46666 h46667 q46665 => ?_)
                                          obtain ⟨rfl, b46668⟩ := q46665
                                          have b46669 : 1 ≤ v46666 ∧ v46666 ≤ 30 := by omega
                                          exact j46605 v46666 (by omega)
                                        · refine zj_iload (zdk ttX11_glasses 80 rfl rfl) rfl ?_
                                          refine zj_goto (t := 161) (zdk ttX11_glasses 81 rfl rfl) (by decide) ?_
                                          exact j46605 x42010 (by omega)
                                      · refine zj_iload (zdk ttX11_glasses 76 rfl rfl) rfl ?_
                                        refine zj_goto (t := 161) (zdk ttX11_glasses 77 rfl rfl) (by decide) ?_
                                        exact j46605 x46067 (by omega)
                                exact lp46586 _ x42009 0 h42011 (by omega) (by omega) s42012 f42013 (Nat.lt_succ_self _)
                          exact lp46060 _ x75 0 h77 (by omega) (by omega) s78 f79 (Nat.lt_succ_self _)
                    have s46670 : okM h73 := awM_27 s27 e74 (by omega) (by unfold nsp; omega)
                    have f46671 : zfr [0] [27] h h73 := zfr_wa f28 e74 rfl
                    exact lp42002 _ 100000000 0 h73 (by omega) (by omega) s46670 f46671 (Nat.lt_succ_self _)
                  · refine zj_aload_n (zdk ttX11_glasses 32 rfl rfl) rfl (by decide) ?_
                    refine zj_getr (r := 27) (zdk ttX11_glasses 33 rfl rfl) zf_RX11_93 rfl (k_M s27) (rfM_48 s27) ?_
                    refine zj_iload (zdk ttX11_glasses 34 rfl rfl) rfl ?_
                    refine zj_ldc_w (z := 100000000) (zdk ttX11_glasses 35 rfl rfl) wc_RX11_411 ?_
                    refine zj_iast (zdk ttX11_glasses 36 rfl rfl) (kaM_27 s27) (by decide) (by omega) (fun h46672 e46673 => ?_)
                    refine zj_iinc (L' := [some (.inr 0), some (.inl p1), some (.inl p2), some (.inl p3), some (.inl (x25 + 1)), none, none, none, none, none, none, none]) (zdk ttX11_glasses 37 rfl rfl) rfl (by decide) rfl ?_
                    refine zj_goto (t := 43) (zdk ttX11_glasses 38 rfl rfl) (by decide) ?_
                    have s46674 : okM h46672 := awM_27 s27 e46673 (by omega) (by unfold nsp; omega)
                    have f46675 : zfr [0] [27] h h46672 := zfr_wa f28 e46673 rfl
                    exact ih65  (x25 + 1) h46672 (by omega) s46674 f46675 (by omega)
              have f46676 : zfr [0] [27] h h1 := zfr_wf (zfr_r _ _ _) e2 rfl
              exact lp62 _ 0 h1 (by omega) s3 f46676 (Nat.lt_succ_self _)
            · exact absurd c24 (by omega)

abbrev tX11_ferry : List (Nat × Instr × Nat) := [(0, .aload_n 0, 1), (1, .iconst 0, 1), (2, .putfield 120, 3), (5, .aload_n 0, 1), (6, .iload_n 1, 1), (7, .iconst 1, 1), (8, .bipush 6, 2), (10, .invokevirtual 139, 3), (13, .ifCond .eq 13, 3), (16, .aload_n 0, 1), (17, .iload_n 2, 1), (18, .iconst 1, 1), (19, .iconst 3, 1), (20, .invokevirtual 139, 3), (23, .ifCond .ne 5, 3), (26, .iconst (-1), 1), (27, .ireturn, 1), (28, .iconst 1, 1), (29, .iload_n 1, 1), (30, .ishl, 1), (31, .iconst 1, 1), (32, .isub, 1), (33, .istore_n 3, 1), (34, .iconst 0, 1), (35, .istore 4, 2), (37, .iload 4, 2), (39, .sipush 128, 3), (42, .if_icmp .ge 19, 3), (45, .aload_n 0, 1), (46, .getfield 89, 3), (49, .iload 4, 2), (51, .ldc_w 411, 3), (54, .iastore, 1), (55, .iinc 4 1, 3), (58, .goto (-21), 3), (61, .aload_n 0, 1), (62, .getfield 89, 3), (65, .iconst 0, 1), (66, .iconst 0, 1), (67, .iastore, 1), (68, .iconst 0, 1), (69, .istore 4, 2), (71, .iload 4, 2), (73, .sipush 128, 3), (76, .if_icmp .ge 162, 3), (79, .iconst 0, 1), (80, .istore 5, 2), (82, .iload 5, 2), (84, .iload_n 3, 1), (85, .if_icmp .gt 147, 3), (88, .iload 4, 2), (90, .iconst 2, 1), (91, .irem, 1), (92, .istore 6, 2), (94, .aload_n 0, 1), (95, .getfield 89, 3), (98, .bipush 64, 2), (100, .iload 6, 2), (102, .imul, 1), (103, .iload 5, 2), (105, .iadd, 1), (106, .iaload, 1), (107, .iload 4, 2), (109, .if_icmp .eq 6, 3), (112, .goto 114, 3), (115, .iload 6, 2), (117, .ifCond .ne 12, 3), (120, .iload_n 3, 1), (121, .iload 5, 2), (123, .iconst (-1), 1), (124, .ixor, 1), (125, .iand, 1), (126, .goto 5, 3), (129, .iload 5, 2), (131, .istore 7, 2), (133, .iload 7, 2), (135, .istore 8, 2), (137, .iload 8, 2), (139, .ifCond .lt 87, 3), (142, .bipush 64, 2), (144, .iconst 1, 1), (145, .iload 6, 2), (147, .isub, 1), (148, .imul, 1), (149, .iload 5, 2), (151, .iload 8, 2), (153, .ixor, 1), (154, .iadd, 1), (155, .istore 9, 2), (157, .aload_n 0, 1), (158, .iload 8, 2), (160, .invokevirtual 316, 3), (163, .iload_n 2, 1), (164, .if_icmp .gt 41, 3), (167, .aload_n 0, 1), (168, .iload 7, 2), (170, .iload 8, 2), (172, .iconst (-1), 1), (173, .ixor, 1), (174, .iand, 1), (175, .invokevirtual 412, 3), (178, .ifCond .eq 27, 3), (181, .aload_n 0, 1), (182, .getfield 89, 3), (185, .iload 9, 2), (187, .iaload, 1), (188, .ldc_w 411, 3), (191, .if_icmp .ne 14, 3), (194, .aload_n 0, 1), (195, .getfield 89, 3), (198, .iload 9, 2), (200, .iload 4, 2), (202, .iconst 1, 1), (203, .iadd, 1), (204, .iastore, 1), (205, .iload 8, 2), (207, .ifCond .ne 7, 3), (210, .iconst (-1), 1), (211, .goto 10, 3), (214, .iload 8, 2), (216, .iconst 1, 1), (217, .isub, 1), (218, .iload 7, 2), (220, .iand, 1), (221, .istore 8, 2), (223, .goto (-86), 3), (226, .iinc 5 1, 3), (229, .goto (-147), 3), (232, .iinc 4 1, 3), (235, .goto (-164), 3), (238, .aload_n 0, 1), (239, .getfield 89, 3), (242, .bipush 64, 2), (244, .iload_n 3, 1), (245, .iadd, 1), (246, .iaload, 1), (247, .ldc_w 411, 3), (250, .if_icmp .ne 7, 3), (253, .iconst (-1), 1), (254, .goto 12, 3), (257, .aload_n 0, 1), (258, .getfield 89, 3), (261, .bipush 64, 2), (263, .iload_n 3, 1), (264, .iadd, 1), (265, .iaload, 1), (266, .ireturn, 1)]
theorem ttX11_ferry : zdt cX11_ferry tX11_ferry = true := by decide +kernel
abbrev q_X11_ferry (h : zM) (p1 : Int) (p2 : Int) : Option zV → zM → Prop := zqi fun v h' => ((-2147483648) ≤ v ∧ v ≤ 2147483647) ∧ okM h' ∧ zfr [0] [26] h h'
set_option maxRecDepth 100000 in
set_option maxHeartbeats 4000000 in
theorem s_X11_ferry (l : Launch) (h : zM) (p1 : Int) (p2 : Int) (s0 : okM h) (b_p1 : (-2147483648) ≤ p1 ∧ p1 ≤ 2147483647) (b_p2 : (-2147483648) ≤ p2 ∧ p2 ≤ 2147483647) : zT shM l yX11_ferry cX11_ferry 10 (some .int) (rmL 3) 0 0 [.inr 0, .inl p1, .inl p2] h (q_X11_ferry h p1 p2) := by
  refine zT_of (by decide +kernel) (L0 := [some (.inr 0), some (.inl p1), some (.inl p2), none, none, none, none, none, none, none]) rfl (Nat.le_of_ble_eq_true rfl) ?_
  refine zj_aload_n (zdk ttX11_ferry 0 rfl rfl) rfl (by decide) ?_
  refine zj_iconst (zdk ttX11_ferry 1 rfl rfl) ?_
  refine zj_puti (zdk ttX11_ferry 2 rfl rfl) zf_RX11_120 rfl (k_M s0) (Or.inl zw_RX11_120) (k2 := 0) rfl (fun h1 e2 => ?_)
  refine zj_aload_n (zdk ttX11_ferry 3 rfl rfl) rfl (by decide) ?_
  refine zj_iload_n (zdk ttX11_ferry 4 rfl rfl) rfl ?_
  refine zj_iconst (zdk ttX11_ferry 5 rfl rfl) ?_
  refine zj_bipush (zdk ttX11_ferry 6 rfl rfl) (by decide) ?_
  have s3 : okM h1 := fwM_0 s0 e2 (by omega)
  refine zj_callV (av := [.inl p1, .inl 1, .inl 6]) (st := []) (zdk ttX11_ferry 7 rfl rfl) mb_X11_isIn mv_RX11_139 (ci := 11) rfl rfl (k_M s3) rfl rfl (Nat.le_of_ble_eq_true rfl) (s_X11_isIn l h1 p1 1 6 s3 (by omega) (by omega) (by omega)) (rm_ok (by decide) (by decide)) (zq_i fun v5 h6 q4 => ?_)
  obtain ⟨rfl, ⟨rfl, b7⟩ | ⟨rfl, b7⟩⟩ := q4
  · refine zj_if_eq (t := 26) (zdk ttX11_ferry 8 rfl rfl) (by decide) (by decide) (fun c8 => ?_) (fun c8 => ?_)
    · refine zj_iconst (zdk ttX11_ferry 15 rfl rfl) ?_
      have f9 : zfr [0] [26] h h1 := zfr_wf (zfr_r _ _ _) e2 rfl
      exact zj_iret rfl (zdk ttX11_ferry 16 rfl rfl) (Nat.le_refl _) (Nat.le_refl _) ⟨(-1), rfl, by omega, s3, f9⟩
    · exact absurd c8 (by omega)
  · refine zj_if_eq (t := 26) (zdk ttX11_ferry 8 rfl rfl) (by decide) (by decide) (fun c10 => ?_) (fun c10 => ?_)
    · exact absurd c10 (by omega)
    · refine zj_aload_n (zdk ttX11_ferry 9 rfl rfl) rfl (by decide) ?_
      refine zj_iload_n (zdk ttX11_ferry 10 rfl rfl) rfl ?_
      refine zj_iconst (zdk ttX11_ferry 11 rfl rfl) ?_
      refine zj_iconst (zdk ttX11_ferry 12 rfl rfl) ?_
      refine zj_callV (av := [.inl p2, .inl 1, .inl 3]) (st := []) (zdk ttX11_ferry 13 rfl rfl) mb_X11_isIn mv_RX11_139 (ci := 11) rfl rfl (k_M s3) rfl rfl (Nat.le_of_ble_eq_true rfl) (s_X11_isIn l h1 p2 1 3 s3 (by omega) (by omega) (by omega)) (rm_ok (by decide) (by decide)) (zq_i fun v12 h13 q11 => ?_)
      obtain ⟨rfl, ⟨rfl, b14⟩ | ⟨rfl, b14⟩⟩ := q11
      · refine zj_if_ne (t := 28) (zdk ttX11_ferry 14 rfl rfl) (by decide) (by decide) (fun c15 => ?_) (fun c15 => ?_)
        · exact absurd c15 (by omega)
        · refine zj_iconst (zdk ttX11_ferry 15 rfl rfl) ?_
          have f16 : zfr [0] [26] h h1 := zfr_wf (zfr_r _ _ _) e2 rfl
          exact zj_iret rfl (zdk ttX11_ferry 16 rfl rfl) (Nat.le_refl _) (Nat.le_refl _) ⟨(-1), rfl, by omega, s3, f16⟩
      · refine zj_if_ne (t := 28) (zdk ttX11_ferry 14 rfl rfl) (by decide) (by decide) (fun c17 => ?_) (fun c17 => ?_)
        · refine zj_iconst (zdk ttX11_ferry 17 rfl rfl) ?_
          refine zj_iload_n (zdk ttX11_ferry 18 rfl rfl) rfl ?_
          refine zj_ishl (zdk ttX11_ferry 19 rfl rfl) ?_
          have b18 := zshl_1 (n := p1) (a := 1) (b := 6) (lo := 2) (hi := 64) (by omega) (by decide) (by decide) (by decide)
          refine zj_iconst (zdk ttX11_ferry 20 rfl rfl) ?_
          refine zj_isub (zdk ttX11_ferry 21 rfl rfl) ?_
          refine zj_istore_n (L' := [some (.inr 0), some (.inl p1), some (.inl p2), some (.inl ((zshl 1 p1) - 1)), none, none, none, none, none, none]) (zdk ttX11_ferry 22 rfl rfl) (by decide) rfl ?_
          refine zj_iconst (zdk ttX11_ferry 23 rfl rfl) ?_
          refine zj_istore (L' := [some (.inr 0), some (.inl p1), some (.inl p2), some (.inl ((zshl 1 p1) - 1)), some (.inl 0), none, none, none, none, none]) (zdk ttX11_ferry 24 rfl rfl) (by decide) rfl ?_
          have lp56 : ∀ (n37 : Nat) (x19 : Int) (h20 : zM), (0 ≤ x19 ∧ x19 ≤ 128) → okM h20 → zfr [0] [26] h h20 → (129 - x19).toNat < n37 → zJ shM l yX11_ferry cX11_ferry 10 (some .int) (rmL 3) 0 0 (q_X11_ferry h p1 p2) 0 0 37 [some (.inr 0), some (.inl p1), some (.inl p2), some (.inl ((zshl 1 p1) - 1)), some (.inl x19), none, none, none, none, none] [] h20 := by
            intro n37
            induction n37 with
            | zero => intro x19 h20 b57 s21 f22 m58; exact absurd m58 (Nat.not_lt_zero _)
            | succ n37 ih59 =>
              intro x19 h20 b57 s21 f22 m58
              refine zj_iload (zdk ttX11_ferry 25 rfl rfl) rfl ?_
              refine zj_sipush (zdk ttX11_ferry 26 rfl rfl) (by decide) ?_
              refine zj_icmp_ge (t := 61) (zdk ttX11_ferry 27 rfl rfl) (by decide) (by omega) (by decide) (fun c60 => ?_) (fun c60 => ?_)
              · refine zj_aload_n (zdk ttX11_ferry 35 rfl rfl) rfl (by decide) ?_
                refine zj_getr (r := 26) (zdk ttX11_ferry 36 rfl rfl) zf_RX11_89 rfl (k_M s21) (rfM_47 s21) ?_
                refine zj_iconst (zdk ttX11_ferry 37 rfl rfl) ?_
                refine zj_iconst (zdk ttX11_ferry 38 rfl rfl) ?_
                refine zj_iast (zdk ttX11_ferry 39 rfl rfl) (kaM_26 s21) (by decide) (by omega) (fun h63 e64 => ?_)
                refine zj_iconst (zdk ttX11_ferry 40 rfl rfl) ?_
                refine zj_istore (L' := [some (.inr 0), some (.inl p1), some (.inl p2), some (.inl ((zshl 1 p1) - 1)), some (.inl 0), none, none, none, none, none]) (zdk ttX11_ferry 41 rfl rfl) (by decide) rfl ?_
                have lp12912 : ∀ (n71 : Nat) (x65 : Int) (h66 : zM), (0 ≤ x65 ∧ x65 ≤ 128) → okM h66 → zfr [0] [26] h h66 → (129 - x65).toNat < n71 → zJ shM l yX11_ferry cX11_ferry 10 (some .int) (rmL 3) 0 0 (q_X11_ferry h p1 p2) 0 0 71 [some (.inr 0), some (.inl p1), some (.inl p2), some (.inl ((zshl 1 p1) - 1)), some (.inl x65), none, none, none, none, none] [] h66 := by
                  intro n71
                  induction n71 with
                  | zero => intro x65 h66 b12913 s67 f68 m12914; exact absurd m12914 (Nat.not_lt_zero _)
                  | succ n71 ih12915 =>
                    intro x65 h66 b12913 s67 f68 m12914
                    refine zj_iload (zdk ttX11_ferry 42 rfl rfl) rfl ?_
                    refine zj_sipush (zdk ttX11_ferry 43 rfl rfl) (by decide) ?_
                    refine zj_icmp_ge (t := 238) (zdk ttX11_ferry 44 rfl rfl) (by decide) (by omega) (by decide) (fun c12916 => ?_) (fun c12916 => ?_)
                    · refine zj_aload_n (zdk ttX11_ferry 130 rfl rfl) rfl (by decide) ?_
                      refine zj_getr (r := 26) (zdk ttX11_ferry 131 rfl rfl) zf_RX11_89 rfl (k_M s67) (rfM_47 s67) ?_
                      refine zj_bipush (zdk ttX11_ferry 132 rfl rfl) (by decide) ?_
                      refine zj_iload_n (zdk ttX11_ferry 133 rfl rfl) rfl ?_
                      refine zj_iadd (zdk ttX11_ferry 134 rfl rfl) ?_
                      have b14089 : -2147483648 ≤ (h66.2 26 (64 + ((zshl 1 p1) - 1))) ∧ (h66.2 26 (64 + ((zshl 1 p1) - 1))) ≤ 2147483647 := abM_26 s67 (64 + ((zshl 1 p1) - 1))
                      refine zj_iald (v := (h66.2 26 (64 + ((zshl 1 p1) - 1)))) (zdk ttX11_ferry 135 rfl rfl) (kaM_26 s67) (by decide) (by omega) rfl ?_
                      refine zj_ldc_w (z := 100000000) (zdk ttX11_ferry 136 rfl rfl) wc_RX11_411 ?_
                      refine zj_icmp_ne (t := 257) (zdk ttX11_ferry 137 rfl rfl) (by decide) (by omega) (by decide) (fun c14090 => ?_) (fun c14090 => ?_)
                      · refine zj_aload_n (zdk ttX11_ferry 140 rfl rfl) rfl (by decide) ?_
                        refine zj_getr (r := 26) (zdk ttX11_ferry 141 rfl rfl) zf_RX11_89 rfl (k_M s67) (rfM_47 s67) ?_
                        refine zj_bipush (zdk ttX11_ferry 142 rfl rfl) (by decide) ?_
                        refine zj_iload_n (zdk ttX11_ferry 143 rfl rfl) rfl ?_
                        refine zj_iadd (zdk ttX11_ferry 144 rfl rfl) ?_
                        refine zj_iald (v := (h66.2 26 (64 + ((zshl 1 p1) - 1)))) (zdk ttX11_ferry 145 rfl rfl) (kaM_26 s67) (by decide) (by omega) rfl ?_
                        exact zj_iret rfl (zdk ttX11_ferry 146 rfl rfl) (Nat.le_refl _) (Nat.le_refl _) ⟨(h66.2 26 (64 + ((zshl 1 p1) - 1))), rfl, by omega, s67, f68⟩
                      · refine zj_iconst (zdk ttX11_ferry 138 rfl rfl) ?_
                        refine zj_goto (t := 266) (zdk ttX11_ferry 139 rfl rfl) (by decide) ?_
                        exact zj_iret rfl (zdk ttX11_ferry 146 rfl rfl) (Nat.le_refl _) (Nat.le_refl _) ⟨(-1), rfl, by omega, s67, f68⟩
                    · refine zj_iconst (zdk ttX11_ferry 45 rfl rfl) ?_
                      refine zj_istore (L' := [some (.inr 0), some (.inl p1), some (.inl p2), some (.inl ((zshl 1 p1) - 1)), some (.inl x65), some (.inl 0), none, none, none, none]) (zdk ttX11_ferry 46 rfl rfl) (by decide) rfl ?_
                      have lp15162 : ∀ (n82 : Nat) (x14091 : Int) (h14092 : zM), (0 ≤ x14091 ∧ x14091 ≤ 64) → okM h14092 → zfr [0] [26] h h14092 → (65 - x14091).toNat < n82 → zJ shM l yX11_ferry cX11_ferry 10 (some .int) (rmL 3) 0 0 (q_X11_ferry h p1 p2) 0 0 82 [some (.inr 0), some (.inl p1), some (.inl p2), some (.inl ((zshl 1 p1) - 1)), some (.inl x65), some (.inl x14091), none, none, none, none] [] h14092 := by
                        intro n82
                        induction n82 with
                        | zero => intro x14091 h14092 b15163 s14093 f14094 m15164; exact absurd m15164 (Nat.not_lt_zero _)
                        | succ n82 ih15165 =>
                          intro x14091 h14092 b15163 s14093 f14094 m15164
                          refine zj_iload (zdk ttX11_ferry 47 rfl rfl) rfl ?_
                          refine zj_iload_n (zdk ttX11_ferry 48 rfl rfl) rfl ?_
                          refine zj_icmp_gt (t := 232) (zdk ttX11_ferry 49 rfl rfl) (by decide) (by omega) (by omega) (fun c15166 => ?_) (fun c15166 => ?_)
                          · refine zj_iinc (L' := [some (.inr 0), some (.inl p1), some (.inl p2), some (.inl ((zshl 1 p1) - 1)), some (.inl (x65 + 1)), some (.inl x14091), none, none, none, none]) (zdk ttX11_ferry 128 rfl rfl) rfl (by decide) rfl ?_
                            refine zj_goto (t := 71) (zdk ttX11_ferry 129 rfl rfl) (by decide) ?_
                            refine zj_kill (k := 5) (L' := [some (.inr 0), some (.inl p1), some (.inl p2), some (.inl ((zshl 1 p1) - 1)), some (.inl (x65 + 1)), none, none, none, none, none]) rfl ?_
                            exact ih12915  (x65 + 1) h14092 (by omega) s14093 f14094 (by omega)
                          · refine zj_iload (zdk ttX11_ferry 50 rfl rfl) rfl ?_
                            refine zj_iconst (zdk ttX11_ferry 51 rfl rfl) ?_
                            refine zj_iremP (zdk ttX11_ferry 52 rfl rfl) (by omega) (by omega) ?_
                            refine zj_istore (L' := [some (.inr 0), some (.inl p1), some (.inl p2), some (.inl ((zshl 1 p1) - 1)), some (.inl x65), some (.inl x14091), some (.inl (x65 % 2)), none, none, none]) (zdk ttX11_ferry 53 rfl rfl) (by decide) rfl ?_
                            refine zj_aload_n (zdk ttX11_ferry 54 rfl rfl) rfl (by decide) ?_
                            refine zj_getr (r := 26) (zdk ttX11_ferry 55 rfl rfl) zf_RX11_89 rfl (k_M s14093) (rfM_47 s14093) ?_
                            refine zj_bipush (zdk ttX11_ferry 56 rfl rfl) (by decide) ?_
                            refine zj_iload (zdk ttX11_ferry 57 rfl rfl) rfl ?_
                            refine zj_imul (zdk ttX11_ferry 58 rfl rfl) ?_
                            refine zj_iload (zdk ttX11_ferry 59 rfl rfl) rfl ?_
                            refine zj_iadd (zdk ttX11_ferry 60 rfl rfl) ?_
                            have b15167 : -2147483648 ≤ (h14092.2 26 ((64 * (x65 % 2)) + x14091)) ∧ (h14092.2 26 ((64 * (x65 % 2)) + x14091)) ≤ 2147483647 := abM_26 s14093 ((64 * (x65 % 2)) + x14091)
                            refine zj_iald (v := (h14092.2 26 ((64 * (x65 % 2)) + x14091))) (zdk ttX11_ferry 61 rfl rfl) (kaM_26 s14093) (by decide) (by omega) rfl ?_
                            refine zj_iload (zdk ttX11_ferry 62 rfl rfl) rfl ?_
                            refine zj_icmp_eq (t := 115) (zdk ttX11_ferry 63 rfl rfl) (by decide) (by omega) (by omega) (fun c15168 => ?_) (fun c15168 => ?_)
                            · refine zj_iload (zdk ttX11_ferry 65 rfl rfl) rfl ?_
                              have j15173 : ∀ (y15172 : Int), (0 ≤ y15172 ∧ y15172 ≤ 63) → zJ shM l yX11_ferry cX11_ferry 10 (some .int) (rmL 3) 0 0 (q_X11_ferry h p1 p2) 0 0 131 [some (.inr 0), some (.inl p1), some (.inl p2), some (.inl ((zshl 1 p1) - 1)), some (.inl x65), some (.inl x14091), some (.inl (x65 % 2)), none, none, none] [.inl y15172] h14092 := by
                                intro y15172 b15174
                                refine zj_istore (L' := [some (.inr 0), some (.inl p1), some (.inl p2), some (.inl ((zshl 1 p1) - 1)), some (.inl x65), some (.inl x14091), some (.inl (x65 % 2)), some (.inl y15172), none, none]) (zdk ttX11_ferry 74 rfl rfl) (by decide) rfl ?_
                                refine zj_iload (zdk ttX11_ferry 75 rfl rfl) rfl ?_
                                refine zj_istore (L' := [some (.inr 0), some (.inl p1), some (.inl p2), some (.inl ((zshl 1 p1) - 1)), some (.inl x65), some (.inl x14091), some (.inl (x65 % 2)), some (.inl y15172), some (.inl y15172), none]) (zdk ttX11_ferry 76 rfl rfl) (by decide) rfl ?_
                                have lp15231 : ∀ (n137 : Nat) (x15175 : Int) (h15176 : zM), (-1 ≤ x15175 ∧ x15175 ≤ 63) → okM h15176 → zfr [0] [26] h h15176 → (x15175 + 1).toNat < n137 → zJ shM l yX11_ferry cX11_ferry 10 (some .int) (rmL 3) 0 0 (q_X11_ferry h p1 p2) 0 0 137 [some (.inr 0), some (.inl p1), some (.inl p2), some (.inl ((zshl 1 p1) - 1)), some (.inl x65), some (.inl x14091), some (.inl (x65 % 2)), some (.inl y15172), some (.inl x15175), none] [] h15176 := by
                                  intro n137
                                  induction n137 with
                                  | zero => intro x15175 h15176 b15232 s15177 f15178 m15233; exact absurd m15233 (Nat.not_lt_zero _)
                                  | succ n137 ih15234 =>
                                    intro x15175 h15176 b15232 s15177 f15178 m15233
                                    refine zj_iload (zdk ttX11_ferry 77 rfl rfl) rfl ?_
                                    refine zj_if_lt (t := 226) (zdk ttX11_ferry 78 rfl rfl) (by decide) (by omega) (fun c15235 => ?_) (fun c15235 => ?_)
                                    · refine zj_iinc (L' := [some (.inr 0), some (.inl p1), some (.inl p2), some (.inl ((zshl 1 p1) - 1)), some (.inl x65), some (.inl (x14091 + 1)), some (.inl (x65 % 2)), some (.inl y15172), some (.inl x15175), none]) (zdk ttX11_ferry 126 rfl rfl) rfl (by decide) rfl ?_
                                      refine zj_goto (t := 82) (zdk ttX11_ferry 127 rfl rfl) (by decide) ?_
                                      refine zj_kill (k := 6) (L' := [some (.inr 0), some (.inl p1), some (.inl p2), some (.inl ((zshl 1 p1) - 1)), some (.inl x65), some (.inl (x14091 + 1)), none, some (.inl y15172), some (.inl x15175), none]) rfl ?_
                                      refine zj_kill (k := 7) (L' := [some (.inr 0), some (.inl p1), some (.inl p2), some (.inl ((zshl 1 p1) - 1)), some (.inl x65), some (.inl (x14091 + 1)), none, none, some (.inl x15175), none]) rfl ?_
                                      refine zj_kill (k := 8) (L' := [some (.inr 0), some (.inl p1), some (.inl p2), some (.inl ((zshl 1 p1) - 1)), some (.inl x65), some (.inl (x14091 + 1)), none, none, none, none]) rfl ?_
                                      exact ih15165  (x14091 + 1) h15176 (by omega) s15177 f15178 (by omega)
                                    · refine zj_bipush (zdk ttX11_ferry 79 rfl rfl) (by decide) ?_
                                      refine zj_iconst (zdk ttX11_ferry 80 rfl rfl) ?_
                                      refine zj_iload (zdk ttX11_ferry 81 rfl rfl) rfl ?_
                                      refine zj_isub (zdk ttX11_ferry 82 rfl rfl) ?_
                                      refine zj_imul (zdk ttX11_ferry 83 rfl rfl) ?_
                                      refine zj_iload (zdk ttX11_ferry 84 rfl rfl) rfl ?_
                                      refine zj_iload (zdk ttX11_ferry 85 rfl rfl) rfl ?_
                                      refine zj_ixor (zdk ttX11_ferry 86 rfl rfl) ?_
                                      have b15236 := zxor_k (a := x14091) (b := x15175) (K := 64) 6 (by decide) (by decide) (by omega) (by omega)
                                      refine zj_iadd (zdk ttX11_ferry 87 rfl rfl) ?_
                                      refine zj_istore (L' := [some (.inr 0), some (.inl p1), some (.inl p2), some (.inl ((zshl 1 p1) - 1)), some (.inl x65), some (.inl x14091), some (.inl (x65 % 2)), some (.inl y15172), some (.inl x15175), some (.inl ((64 * (1 - (x65 % 2))) + (zxor x14091 x15175)))]) (zdk ttX11_ferry 88 rfl rfl) (by decide) rfl ?_
                                      refine zj_aload_n (zdk ttX11_ferry 89 rfl rfl) rfl (by decide) ?_
                                      refine zj_iload (zdk ttX11_ferry 90 rfl rfl) rfl ?_
                                      refine zj_callV (av := [.inl x15175]) (st := []) (zdk ttX11_ferry 91 rfl rfl) mb_X11_onesOf mv_RX11_316 (ci := 11) rfl rfl (k_M s15177) rfl rfl (Nat.le_of_ble_eq_true rfl) (s_X11_onesOf l h15176 x15175 s15177 (by omega)) (rm_ok (by decide) (by decide)) (zq_i fun v15238 h15239 q15237 => ?_)
                                      obtain ⟨rfl, b15240⟩ := q15237
                                      refine zj_iload_n (zdk ttX11_ferry 92 rfl rfl) rfl ?_
                                      refine zj_icmp_gt (t := 205) (zdk ttX11_ferry 93 rfl rfl) (by decide) (by omega) (by omega) (fun c15241 => ?_) (fun c15241 => ?_)
                                      · refine zj_iload (zdk ttX11_ferry 115 rfl rfl) rfl ?_
                                        refine zj_if_ne (t := 214) (zdk ttX11_ferry 116 rfl rfl) (by decide) (by omega) (fun c15242 => ?_) (fun c15242 => ?_)
                                        · refine zj_iload (zdk ttX11_ferry 119 rfl rfl) rfl ?_
                                          refine zj_iconst (zdk ttX11_ferry 120 rfl rfl) ?_
                                          refine zj_isub (zdk ttX11_ferry 121 rfl rfl) ?_
                                          refine zj_iload (zdk ttX11_ferry 122 rfl rfl) rfl ?_
                                          refine zj_iand (zdk ttX11_ferry 123 rfl rfl) ?_
                                          have b15243 := And.intro (zand_l (a := (x15175 - 1)) (by omega) y15172) (zand_r (x15175 - 1) (b := y15172) (by omega))
                                          refine zj_istore (L' := [some (.inr 0), some (.inl p1), some (.inl p2), some (.inl ((zshl 1 p1) - 1)), some (.inl x65), some (.inl x14091), some (.inl (x65 % 2)), some (.inl y15172), some (.inl (zand (x15175 - 1) y15172)), some (.inl ((64 * (1 - (x65 % 2))) + (zxor x14091 x15175)))]) (zdk ttX11_ferry 124 rfl rfl) (by decide) rfl ?_
                                          refine zj_goto (t := 137) (zdk ttX11_ferry 125 rfl rfl) (by decide) ?_
                                          refine zj_kill (k := 9) (L' := [some (.inr 0), some (.inl p1), some (.inl p2), some (.inl ((zshl 1 p1) - 1)), some (.inl x65), some (.inl x14091), some (.inl (x65 % 2)), some (.inl y15172), some (.inl (zand (x15175 - 1) y15172)), none]) rfl ?_
                                          exact ih15234  (zand (x15175 - 1) y15172) h15176 (by omega) s15177 f15178 (by omega)
                                        · refine zj_iconst (zdk ttX11_ferry 117 rfl rfl) ?_
                                          refine zj_goto (t := 221) (zdk ttX11_ferry 118 rfl rfl) (by decide) ?_
                                          refine zj_istore (L' := [some (.inr 0), some (.inl p1), some (.inl p2), some (.inl ((zshl 1 p1) - 1)), some (.inl x65), some (.inl x14091), some (.inl (x65 % 2)), some (.inl y15172), some (.inl (-1)), some (.inl ((64 * (1 - (x65 % 2))) + (zxor x14091 x15175)))]) (zdk ttX11_ferry 124 rfl rfl) (by decide) rfl ?_
                                          refine zj_goto (t := 137) (zdk ttX11_ferry 125 rfl rfl) (by decide) ?_
                                          refine zj_kill (k := 9) (L' := [some (.inr 0), some (.inl p1), some (.inl p2), some (.inl ((zshl 1 p1) - 1)), some (.inl x65), some (.inl x14091), some (.inl (x65 % 2)), some (.inl y15172), some (.inl (-1)), none]) rfl ?_
                                          exact ih15234  (-1) h15176 (by omega) s15177 f15178 (by omega)
                                      · refine zj_aload_n (zdk ttX11_ferry 94 rfl rfl) rfl (by decide) ?_
                                        refine zj_iload (zdk ttX11_ferry 95 rfl rfl) rfl ?_
                                        refine zj_iload (zdk ttX11_ferry 96 rfl rfl) rfl ?_
                                        refine zj_iconst (zdk ttX11_ferry 97 rfl rfl) ?_
                                        refine zj_ixor (zdk ttX11_ferry 98 rfl rfl) ?_
                                        have b15244 := zxor_in x15175 (-1)
                                        refine zj_iand (zdk ttX11_ferry 99 rfl rfl) ?_
                                        have b15245 := zand_l (a := y15172) (by omega) (zxor x15175 (-1))
                                        refine zj_callV (av := [.inl (zand y15172 (zxor x15175 (-1)))]) (st := []) (zdk ttX11_ferry 100 rfl rfl) mb_X11_isPeace mv_RX11_412 (ci := 11) rfl rfl (k_M s15177) rfl rfl (Nat.le_of_ble_eq_true rfl) (s_X11_isPeace l h15176 (zand y15172 (zxor x15175 (-1))) s15177 (by omega)) (rm_ok (by decide) (by decide)) (zq_i fun v15247 h15248 q15246 => ?_)
                                        obtain ⟨rfl, b15249⟩ := q15246
                                        refine zj_if_eq (t := 205) (zdk ttX11_ferry 101 rfl rfl) (by decide) (by omega) (fun c15250 => ?_) (fun c15250 => ?_)
                                        · refine zj_iload (zdk ttX11_ferry 115 rfl rfl) rfl ?_
                                          refine zj_if_ne (t := 214) (zdk ttX11_ferry 116 rfl rfl) (by decide) (by omega) (fun c15251 => ?_) (fun c15251 => ?_)
                                          · refine zj_iload (zdk ttX11_ferry 119 rfl rfl) rfl ?_
                                            refine zj_iconst (zdk ttX11_ferry 120 rfl rfl) ?_
                                            refine zj_isub (zdk ttX11_ferry 121 rfl rfl) ?_
                                            refine zj_iload (zdk ttX11_ferry 122 rfl rfl) rfl ?_
                                            refine zj_iand (zdk ttX11_ferry 123 rfl rfl) ?_
                                            have b15252 := And.intro (zand_l (a := (x15175 - 1)) (by omega) y15172) (zand_r (x15175 - 1) (b := y15172) (by omega))
                                            refine zj_istore (L' := [some (.inr 0), some (.inl p1), some (.inl p2), some (.inl ((zshl 1 p1) - 1)), some (.inl x65), some (.inl x14091), some (.inl (x65 % 2)), some (.inl y15172), some (.inl (zand (x15175 - 1) y15172)), some (.inl ((64 * (1 - (x65 % 2))) + (zxor x14091 x15175)))]) (zdk ttX11_ferry 124 rfl rfl) (by decide) rfl ?_
                                            refine zj_goto (t := 137) (zdk ttX11_ferry 125 rfl rfl) (by decide) ?_
                                            refine zj_kill (k := 9) (L' := [some (.inr 0), some (.inl p1), some (.inl p2), some (.inl ((zshl 1 p1) - 1)), some (.inl x65), some (.inl x14091), some (.inl (x65 % 2)), some (.inl y15172), some (.inl (zand (x15175 - 1) y15172)), none]) rfl ?_
                                            exact ih15234  (zand (x15175 - 1) y15172) h15176 (by omega) s15177 f15178 (by omega)
                                          · refine zj_iconst (zdk ttX11_ferry 117 rfl rfl) ?_
                                            refine zj_goto (t := 221) (zdk ttX11_ferry 118 rfl rfl) (by decide) ?_
                                            refine zj_istore (L' := [some (.inr 0), some (.inl p1), some (.inl p2), some (.inl ((zshl 1 p1) - 1)), some (.inl x65), some (.inl x14091), some (.inl (x65 % 2)), some (.inl y15172), some (.inl (-1)), some (.inl ((64 * (1 - (x65 % 2))) + (zxor x14091 x15175)))]) (zdk ttX11_ferry 124 rfl rfl) (by decide) rfl ?_
                                            refine zj_goto (t := 137) (zdk ttX11_ferry 125 rfl rfl) (by decide) ?_
                                            refine zj_kill (k := 9) (L' := [some (.inr 0), some (.inl p1), some (.inl p2), some (.inl ((zshl 1 p1) - 1)), some (.inl x65), some (.inl x14091), some (.inl (x65 % 2)), some (.inl y15172), some (.inl (-1)), none]) rfl ?_
                                            exact ih15234  (-1) h15176 (by omega) s15177 f15178 (by omega)
                                        · refine zj_aload_n (zdk ttX11_ferry 102 rfl rfl) rfl (by decide) ?_
                                          refine zj_getr (r := 26) (zdk ttX11_ferry 103 rfl rfl) zf_RX11_89 rfl (k_M s15177) (rfM_47 s15177) ?_
                                          refine zj_iload (zdk ttX11_ferry 104 rfl rfl) rfl ?_
                                          have b15253 : -2147483648 ≤ (h15176.2 26 ((64 * (1 - (x65 % 2))) + (zxor x14091 x15175))) ∧ (h15176.2 26 ((64 * (1 - (x65 % 2))) + (zxor x14091 x15175))) ≤ 2147483647 := abM_26 s15177 ((64 * (1 - (x65 % 2))) + (zxor x14091 x15175))
                                          refine zj_iald (v := (h15176.2 26 ((64 * (1 - (x65 % 2))) + (zxor x14091 x15175)))) (zdk ttX11_ferry 105 rfl rfl) (kaM_26 s15177) (by decide) (by omega) rfl ?_
                                          refine zj_ldc_w (z := 100000000) (zdk ttX11_ferry 106 rfl rfl) wc_RX11_411 ?_
                                          refine zj_icmp_ne (t := 205) (zdk ttX11_ferry 107 rfl rfl) (by decide) (by omega) (by decide) (fun c15254 => ?_) (fun c15254 => ?_)
                                          · refine zj_iload (zdk ttX11_ferry 115 rfl rfl) rfl ?_
                                            refine zj_if_ne (t := 214) (zdk ttX11_ferry 116 rfl rfl) (by decide) (by omega) (fun c15255 => ?_) (fun c15255 => ?_)
                                            · refine zj_iload (zdk ttX11_ferry 119 rfl rfl) rfl ?_
                                              refine zj_iconst (zdk ttX11_ferry 120 rfl rfl) ?_
                                              refine zj_isub (zdk ttX11_ferry 121 rfl rfl) ?_
                                              refine zj_iload (zdk ttX11_ferry 122 rfl rfl) rfl ?_
                                              refine zj_iand (zdk ttX11_ferry 123 rfl rfl) ?_
                                              have b15256 := And.intro (zand_l (a := (x15175 - 1)) (by omega) y15172) (zand_r (x15175 - 1) (b := y15172) (by omega))
                                              refine zj_istore (L' := [some (.inr 0), some (.inl p1), some (.inl p2), some (.inl ((zshl 1 p1) - 1)), some (.inl x65), some (.inl x14091), some (.inl (x65 % 2)), some (.inl y15172), some (.inl (zand (x15175 - 1) y15172)), some (.inl ((64 * (1 - (x65 % 2))) + (zxor x14091 x15175)))]) (zdk ttX11_ferry 124 rfl rfl) (by decide) rfl ?_
                                              refine zj_goto (t := 137) (zdk ttX11_ferry 125 rfl rfl) (by decide) ?_
                                              refine zj_kill (k := 9) (L' := [some (.inr 0), some (.inl p1), some (.inl p2), some (.inl ((zshl 1 p1) - 1)), some (.inl x65), some (.inl x14091), some (.inl (x65 % 2)), some (.inl y15172), some (.inl (zand (x15175 - 1) y15172)), none]) rfl ?_
                                              exact ih15234  (zand (x15175 - 1) y15172) h15176 (by omega) s15177 f15178 (by omega)
                                            · refine zj_iconst (zdk ttX11_ferry 117 rfl rfl) ?_
                                              refine zj_goto (t := 221) (zdk ttX11_ferry 118 rfl rfl) (by decide) ?_
                                              refine zj_istore (L' := [some (.inr 0), some (.inl p1), some (.inl p2), some (.inl ((zshl 1 p1) - 1)), some (.inl x65), some (.inl x14091), some (.inl (x65 % 2)), some (.inl y15172), some (.inl (-1)), some (.inl ((64 * (1 - (x65 % 2))) + (zxor x14091 x15175)))]) (zdk ttX11_ferry 124 rfl rfl) (by decide) rfl ?_
                                              refine zj_goto (t := 137) (zdk ttX11_ferry 125 rfl rfl) (by decide) ?_
                                              refine zj_kill (k := 9) (L' := [some (.inr 0), some (.inl p1), some (.inl p2), some (.inl ((zshl 1 p1) - 1)), some (.inl x65), some (.inl x14091), some (.inl (x65 % 2)), some (.inl y15172), some (.inl (-1)), none]) rfl ?_
                                              exact ih15234  (-1) h15176 (by omega) s15177 f15178 (by omega)
                                          · refine zj_aload_n (zdk ttX11_ferry 108 rfl rfl) rfl (by decide) ?_
                                            refine zj_getr (r := 26) (zdk ttX11_ferry 109 rfl rfl) zf_RX11_89 rfl (k_M s15177) (rfM_47 s15177) ?_
                                            refine zj_iload (zdk ttX11_ferry 110 rfl rfl) rfl ?_
                                            refine zj_iload (zdk ttX11_ferry 111 rfl rfl) rfl ?_
                                            refine zj_iconst (zdk ttX11_ferry 112 rfl rfl) ?_
                                            refine zj_iadd (zdk ttX11_ferry 113 rfl rfl) ?_
                                            refine zj_iast (zdk ttX11_ferry 114 rfl rfl) (kaM_26 s15177) (by decide) (by omega) (fun h15257 e15258 => ?_)
                                            refine zj_iload (zdk ttX11_ferry 115 rfl rfl) rfl ?_
                                            refine zj_if_ne (t := 214) (zdk ttX11_ferry 116 rfl rfl) (by decide) (by omega) (fun c15259 => ?_) (fun c15259 => ?_)
                                            · refine zj_iload (zdk ttX11_ferry 119 rfl rfl) rfl ?_
                                              refine zj_iconst (zdk ttX11_ferry 120 rfl rfl) ?_
                                              refine zj_isub (zdk ttX11_ferry 121 rfl rfl) ?_
                                              refine zj_iload (zdk ttX11_ferry 122 rfl rfl) rfl ?_
                                              refine zj_iand (zdk ttX11_ferry 123 rfl rfl) ?_
                                              have b15260 := And.intro (zand_l (a := (x15175 - 1)) (by omega) y15172) (zand_r (x15175 - 1) (b := y15172) (by omega))
                                              refine zj_istore (L' := [some (.inr 0), some (.inl p1), some (.inl p2), some (.inl ((zshl 1 p1) - 1)), some (.inl x65), some (.inl x14091), some (.inl (x65 % 2)), some (.inl y15172), some (.inl (zand (x15175 - 1) y15172)), some (.inl ((64 * (1 - (x65 % 2))) + (zxor x14091 x15175)))]) (zdk ttX11_ferry 124 rfl rfl) (by decide) rfl ?_
                                              refine zj_goto (t := 137) (zdk ttX11_ferry 125 rfl rfl) (by decide) ?_
                                              refine zj_kill (k := 9) (L' := [some (.inr 0), some (.inl p1), some (.inl p2), some (.inl ((zshl 1 p1) - 1)), some (.inl x65), some (.inl x14091), some (.inl (x65 % 2)), some (.inl y15172), some (.inl (zand (x15175 - 1) y15172)), none]) rfl ?_
                                              have s15261 : okM h15257 := awM_26 s15177 e15258 (by omega) (by unfold nsp; omega)
                                              have f15262 : zfr [0] [26] h h15257 := zfr_wa f15178 e15258 rfl
                                              exact ih15234  (zand (x15175 - 1) y15172) h15257 (by omega) s15261 f15262 (by omega)
                                            · refine zj_iconst (zdk ttX11_ferry 117 rfl rfl) ?_
                                              refine zj_goto (t := 221) (zdk ttX11_ferry 118 rfl rfl) (by decide) ?_
                                              refine zj_istore (L' := [some (.inr 0), some (.inl p1), some (.inl p2), some (.inl ((zshl 1 p1) - 1)), some (.inl x65), some (.inl x14091), some (.inl (x65 % 2)), some (.inl y15172), some (.inl (-1)), some (.inl ((64 * (1 - (x65 % 2))) + (zxor x14091 x15175)))]) (zdk ttX11_ferry 124 rfl rfl) (by decide) rfl ?_
                                              refine zj_goto (t := 137) (zdk ttX11_ferry 125 rfl rfl) (by decide) ?_
                                              refine zj_kill (k := 9) (L' := [some (.inr 0), some (.inl p1), some (.inl p2), some (.inl ((zshl 1 p1) - 1)), some (.inl x65), some (.inl x14091), some (.inl (x65 % 2)), some (.inl y15172), some (.inl (-1)), none]) rfl ?_
                                              have s15263 : okM h15257 := awM_26 s15177 e15258 (by omega) (by unfold nsp; omega)
                                              have f15264 : zfr [0] [26] h h15257 := zfr_wa f15178 e15258 rfl
                                              exact ih15234  (-1) h15257 (by omega) s15263 f15264 (by omega)
                                exact lp15231 _ y15172 h14092 (by omega) s14093 f14094 (Nat.lt_succ_self _)
                              refine zj_if_ne (t := 129) (zdk ttX11_ferry 66 rfl rfl) (by decide) (by omega) (fun c15169 => ?_) (fun c15169 => ?_)
                              · refine zj_iload (zdk ttX11_ferry 73 rfl rfl) rfl ?_
                                exact j15173 x14091 (by omega)
                              · refine zj_iload_n (zdk ttX11_ferry 67 rfl rfl) rfl ?_
                                refine zj_iload (zdk ttX11_ferry 68 rfl rfl) rfl ?_
                                refine zj_iconst (zdk ttX11_ferry 69 rfl rfl) ?_
                                refine zj_ixor (zdk ttX11_ferry 70 rfl rfl) ?_
                                have b15265 := zxor_in x14091 (-1)
                                refine zj_iand (zdk ttX11_ferry 71 rfl rfl) ?_
                                have b15266 := zand_l (a := ((zshl 1 p1) - 1)) (by omega) (zxor x14091 (-1))
                                refine zj_goto (t := 131) (zdk ttX11_ferry 72 rfl rfl) (by decide) ?_
                                exact j15173 (zand ((zshl 1 p1) - 1) (zxor x14091 (-1))) (by omega)
                            · refine zj_goto (t := 226) (zdk ttX11_ferry 64 rfl rfl) (by decide) ?_
                              refine zj_iinc (L' := [some (.inr 0), some (.inl p1), some (.inl p2), some (.inl ((zshl 1 p1) - 1)), some (.inl x65), some (.inl (x14091 + 1)), some (.inl (x65 % 2)), none, none, none]) (zdk ttX11_ferry 126 rfl rfl) rfl (by decide) rfl ?_
                              refine zj_goto (t := 82) (zdk ttX11_ferry 127 rfl rfl) (by decide) ?_
                              refine zj_kill (k := 6) (L' := [some (.inr 0), some (.inl p1), some (.inl p2), some (.inl ((zshl 1 p1) - 1)), some (.inl x65), some (.inl (x14091 + 1)), none, none, none, none]) rfl ?_
                              exact ih15165  (x14091 + 1) h14092 (by omega) s14093 f14094 (by omega)
                      exact lp15162 _ 0 h66 (by omega) s67 f68 (Nat.lt_succ_self _)
                have s15267 : okM h63 := awM_26 s21 e64 (by omega) (by unfold nsp; omega)
                have f15268 : zfr [0] [26] h h63 := zfr_wa f22 e64 rfl
                exact lp12912 _ 0 h63 (by omega) s15267 f15268 (Nat.lt_succ_self _)
              · refine zj_aload_n (zdk ttX11_ferry 28 rfl rfl) rfl (by decide) ?_
                refine zj_getr (r := 26) (zdk ttX11_ferry 29 rfl rfl) zf_RX11_89 rfl (k_M s21) (rfM_47 s21) ?_
                refine zj_iload (zdk ttX11_ferry 30 rfl rfl) rfl ?_
                refine zj_ldc_w (z := 100000000) (zdk ttX11_ferry 31 rfl rfl) wc_RX11_411 ?_
                refine zj_iast (zdk ttX11_ferry 32 rfl rfl) (kaM_26 s21) (by decide) (by omega) (fun h15269 e15270 => ?_)
                refine zj_iinc (L' := [some (.inr 0), some (.inl p1), some (.inl p2), some (.inl ((zshl 1 p1) - 1)), some (.inl (x19 + 1)), none, none, none, none, none]) (zdk ttX11_ferry 33 rfl rfl) rfl (by decide) rfl ?_
                refine zj_goto (t := 37) (zdk ttX11_ferry 34 rfl rfl) (by decide) ?_
                have s15271 : okM h15269 := awM_26 s21 e15270 (by omega) (by unfold nsp; omega)
                have f15272 : zfr [0] [26] h h15269 := zfr_wa f22 e15270 rfl
                exact ih59  (x19 + 1) h15269 (by omega) s15271 f15272 (by omega)
          have f15273 : zfr [0] [26] h h1 := zfr_wf (zfr_r _ _ _) e2 rfl
          exact lp56 _ 0 h1 (by omega) s3 f15273 (Nat.lt_succ_self _)
        · exact absurd c17 (by omega)

abbrev tX11_endOf : List (Nat × Instr × Nat) := [(0, .iload_n 2, 1), (1, .ifCond .eq 7, 3), (4, .iconst 1, 1), (5, .goto 4, 3), (8, .iconst 0, 1), (9, .istore 4, 2), (11, .iconst 1, 1), (12, .istore 5, 2), (14, .iload 5, 2), (16, .bipush 11, 2), (18, .if_icmp .ge 65, 3), (21, .aload_n 0, 1), (22, .iload_n 2, 1), (23, .iload 5, 2), (25, .iconst 1, 1), (26, .isub, 1), (27, .invokevirtual 309, 3), (30, .ifCond .ne 6, 3), (33, .goto 44, 3), (36, .aload_n 0, 1), (37, .iload_n 1, 1), (38, .iload_n 3, 1), (39, .iload 5, 2), (41, .invokevirtual 451, 3), (44, .istore 6, 2), (46, .iload 6, 2), (48, .ifCond .eq 14, 3), (51, .aload_n 0, 1), (52, .getfield 114, 3), (55, .iload 6, 2), (57, .iaload, 1), (58, .iconst (-1), 1), (59, .if_icmp .ne 5, 3), (62, .iconst 1, 1), (63, .ireturn, 1), (64, .aload_n 0, 1), (65, .getfield 114, 3), (68, .iload 6, 2), (70, .iaload, 1), (71, .ifCond .ne 6, 3), (74, .iconst 0, 1), (75, .istore 4, 2), (77, .iinc 5 1, 3), (80, .goto (-66), 3), (83, .iload 4, 2), (85, .ifCond .eq 7, 3), (88, .iconst (-1), 1), (89, .goto 4, 3), (92, .iconst 0, 1), (93, .ireturn, 1)]
theorem ttX11_endOf : zdt cX11_endOf tX11_endOf = true := by decide +kernel
abbrev tX11_keepsSo : List (Nat × Instr × Nat) := [(0, .aload_n 0, 1), (1, .iload_n 1, 1), (2, .iload_n 2, 1), (3, .iload_n 3, 1), (4, .invokevirtual 451, 3), (7, .istore 5, 2), (9, .iload 4, 2), (11, .iconst (-1), 1), (12, .if_icmp .eq 43, 3), (15, .iload 4, 2), (17, .iconst 1, 1), (18, .if_icmp .ne 22, 3), (21, .iload 5, 2), (23, .ifCond .eq 32, 3), (26, .aload_n 0, 1), (27, .getfield 114, 3), (30, .iload 5, 2), (32, .iaload, 1), (33, .iconst (-1), 1), (34, .if_icmp .ne 25, 3), (37, .goto 18, 3), (40, .iload 5, 2), (42, .ifCond .eq 17, 3), (45, .aload_n 0, 1), (46, .getfield 114, 3), (49, .iload 5, 2), (51, .iaload, 1), (52, .ifCond .ne 7, 3), (55, .iconst 1, 1), (56, .goto 4, 3), (59, .iconst 0, 1), (60, .ireturn, 1)]
theorem ttX11_keepsSo : zdt cX11_keepsSo tX11_keepsSo = true := by decide +kernel
abbrev q_X11_keepsSo (h : zM) (p1 : Int) (p2 : Int) (p3 : Int) (p4 : Int) : Option zV → zM → Prop := zqi fun v h' => h = h' ∧ (0 ≤ v ∧ v ≤ 1)
set_option maxRecDepth 100000 in
set_option maxHeartbeats 4000000 in
theorem s_X11_keepsSo (l : Launch) (h : zM) (p1 : Int) (p2 : Int) (p3 : Int) (p4 : Int) (s0 : okM h) (b_p1 : 2 ≤ p1 ∧ p1 ≤ 60) (b_p2 : 0 ≤ p2 ∧ p2 ≤ 59) (b_p3 : 1 ≤ p3 ∧ p3 ≤ 10) (b_p4 : (-2147483648) ≤ p4 ∧ p4 ≤ 2147483647) : zT shM l yX11_keepsSo cX11_keepsSo 6 (some .boolean) (rmL 2) 0 0 [.inr 0, .inl p1, .inl p2, .inl p3, .inl p4] h (q_X11_keepsSo h p1 p2 p3 p4) := by
  refine zT_of (by decide +kernel) (L0 := [some (.inr 0), some (.inl p1), some (.inl p2), some (.inl p3), some (.inl p4), none]) rfl (Nat.le_of_ble_eq_true rfl) ?_
  refine zj_aload_n (zdk ttX11_keepsSo 0 rfl rfl) rfl (by decide) ?_
  refine zj_iload_n (zdk ttX11_keepsSo 1 rfl rfl) rfl ?_
  refine zj_iload_n (zdk ttX11_keepsSo 2 rfl rfl) rfl ?_
  refine zj_iload_n (zdk ttX11_keepsSo 3 rfl rfl) rfl ?_
  refine zj_callV (av := [.inl p1, .inl p2, .inl p3]) (st := []) (zdk ttX11_keepsSo 4 rfl rfl) mb_X11_leadsTo mv_RX11_451 (ci := 11) rfl rfl (k_M s0) rfl rfl (Nat.le_of_ble_eq_true rfl) (s_X11_leadsTo l h p1 p2 p3 s0 (by omega) (by omega) (by omega)) (rm_ok (by decide) (by decide)) (zq_i fun v2 h3 q1 => ?_)
  obtain ⟨rfl, rfl, b4⟩ := q1
  refine zj_istore (L' := [some (.inr 0), some (.inl p1), some (.inl p2), some (.inl p3), some (.inl p4), some (.inl ((p2 + p3) % p1))]) (zdk ttX11_keepsSo 5 rfl rfl) (by decide) rfl ?_
  refine zj_iload (zdk ttX11_keepsSo 6 rfl rfl) rfl ?_
  refine zj_iconst (zdk ttX11_keepsSo 7 rfl rfl) ?_
  refine zj_icmp_eq (t := 55) (zdk ttX11_keepsSo 8 rfl rfl) (by decide) (by omega) (by decide) (fun c5 => ?_) (fun c5 => ?_)
  · refine zj_iconst (zdk ttX11_keepsSo 28 rfl rfl) ?_
    refine zj_goto (t := 60) (zdk ttX11_keepsSo 29 rfl rfl) (by decide) ?_
    exact zj_zret rfl (zdk ttX11_keepsSo 31 rfl rfl) (Nat.le_refl _) (Nat.le_refl _) (by omega) ⟨1, rfl, rfl, by omega⟩
  · refine zj_iload (zdk ttX11_keepsSo 9 rfl rfl) rfl ?_
    refine zj_iconst (zdk ttX11_keepsSo 10 rfl rfl) ?_
    refine zj_icmp_ne (t := 40) (zdk ttX11_keepsSo 11 rfl rfl) (by decide) (by omega) (by decide) (fun c6 => ?_) (fun c6 => ?_)
    · refine zj_iload (zdk ttX11_keepsSo 21 rfl rfl) rfl ?_
      refine zj_if_eq (t := 59) (zdk ttX11_keepsSo 22 rfl rfl) (by decide) (by omega) (fun c7 => ?_) (fun c7 => ?_)
      · refine zj_iconst (zdk ttX11_keepsSo 30 rfl rfl) ?_
        exact zj_zret rfl (zdk ttX11_keepsSo 31 rfl rfl) (Nat.le_refl _) (Nat.le_refl _) (by omega) ⟨0, rfl, rfl, by omega⟩
      · refine zj_aload_n (zdk ttX11_keepsSo 23 rfl rfl) rfl (by decide) ?_
        refine zj_getr (r := 34) (zdk ttX11_keepsSo 24 rfl rfl) zf_RX11_114 rfl (k_M s0) (rfM_57 s0) ?_
        refine zj_iload (zdk ttX11_keepsSo 25 rfl rfl) rfl ?_
        have b8 : -2147483648 ≤ (h.2 34 ((p2 + p3) % p1)) ∧ (h.2 34 ((p2 + p3) % p1)) ≤ 2147483647 := abM_34 s0 ((p2 + p3) % p1)
        refine zj_iald (v := (h.2 34 ((p2 + p3) % p1))) (zdk ttX11_keepsSo 26 rfl rfl) (kaM_34 s0) (by decide) (by omega) rfl ?_
        refine zj_if_ne (t := 59) (zdk ttX11_keepsSo 27 rfl rfl) (by decide) (by omega) (fun c9 => ?_) (fun c9 => ?_)
        · refine zj_iconst (zdk ttX11_keepsSo 30 rfl rfl) ?_
          exact zj_zret rfl (zdk ttX11_keepsSo 31 rfl rfl) (Nat.le_refl _) (Nat.le_refl _) (by omega) ⟨0, rfl, rfl, by omega⟩
        · refine zj_iconst (zdk ttX11_keepsSo 28 rfl rfl) ?_
          refine zj_goto (t := 60) (zdk ttX11_keepsSo 29 rfl rfl) (by decide) ?_
          exact zj_zret rfl (zdk ttX11_keepsSo 31 rfl rfl) (Nat.le_refl _) (Nat.le_refl _) (by omega) ⟨1, rfl, rfl, by omega⟩
    · refine zj_iload (zdk ttX11_keepsSo 12 rfl rfl) rfl ?_
      refine zj_if_eq (t := 55) (zdk ttX11_keepsSo 13 rfl rfl) (by decide) (by omega) (fun c10 => ?_) (fun c10 => ?_)
      · refine zj_iconst (zdk ttX11_keepsSo 28 rfl rfl) ?_
        refine zj_goto (t := 60) (zdk ttX11_keepsSo 29 rfl rfl) (by decide) ?_
        exact zj_zret rfl (zdk ttX11_keepsSo 31 rfl rfl) (Nat.le_refl _) (Nat.le_refl _) (by omega) ⟨1, rfl, rfl, by omega⟩
      · refine zj_aload_n (zdk ttX11_keepsSo 14 rfl rfl) rfl (by decide) ?_
        refine zj_getr (r := 34) (zdk ttX11_keepsSo 15 rfl rfl) zf_RX11_114 rfl (k_M s0) (rfM_57 s0) ?_
        refine zj_iload (zdk ttX11_keepsSo 16 rfl rfl) rfl ?_
        have b11 : -2147483648 ≤ (h.2 34 ((p2 + p3) % p1)) ∧ (h.2 34 ((p2 + p3) % p1)) ≤ 2147483647 := abM_34 s0 ((p2 + p3) % p1)
        refine zj_iald (v := (h.2 34 ((p2 + p3) % p1))) (zdk ttX11_keepsSo 17 rfl rfl) (kaM_34 s0) (by decide) (by omega) rfl ?_
        refine zj_iconst (zdk ttX11_keepsSo 18 rfl rfl) ?_
        refine zj_icmp_ne (t := 59) (zdk ttX11_keepsSo 19 rfl rfl) (by decide) (by omega) (by decide) (fun c12 => ?_) (fun c12 => ?_)
        · refine zj_iconst (zdk ttX11_keepsSo 30 rfl rfl) ?_
          exact zj_zret rfl (zdk ttX11_keepsSo 31 rfl rfl) (Nat.le_refl _) (Nat.le_refl _) (by omega) ⟨0, rfl, rfl, by omega⟩
        · refine zj_goto (t := 55) (zdk ttX11_keepsSo 20 rfl rfl) (by decide) ?_
          refine zj_iconst (zdk ttX11_keepsSo 28 rfl rfl) ?_
          refine zj_goto (t := 60) (zdk ttX11_keepsSo 29 rfl rfl) (by decide) ?_
          exact zj_zret rfl (zdk ttX11_keepsSo 31 rfl rfl) (Nat.le_refl _) (Nat.le_refl _) (by omega) ⟨1, rfl, rfl, by omega⟩

