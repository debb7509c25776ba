abbrev tX11_look : List (Nat × Instr × Nat) := [(0, .aload_n 0, 1), (1, .iconst 0, 1), (2, .putfield 120, 3), (5, .iload_n 1, 1), (6, .ifCond .ne 8, 3), (9, .aload_n 0, 1), (10, .getfield 132, 3), (13, .ireturn, 1), (14, .iload_n 1, 1), (15, .iconst 1, 1), (16, .if_icmp .ne 8, 3), (19, .aload_n 0, 1), (20, .invokevirtual 313, 3), (23, .ireturn, 1), (24, .iload_n 1, 1), (25, .iconst 2, 1), (26, .if_icmp .ne 10, 3), (29, .aload_n 0, 1), (30, .getfield 7, 3), (33, .iconst 3, 1), (34, .iaload, 1), (35, .ireturn, 1), (36, .iload_n 1, 1), (37, .iconst 3, 1), (38, .if_icmp .ne 10, 3), (41, .aload_n 0, 1), (42, .getfield 7, 3), (45, .iconst 4, 1), (46, .iaload, 1), (47, .ireturn, 1), (48, .iload_n 1, 1), (49, .iconst 4, 1), (50, .if_icmp .ne 10, 3), (53, .aload_n 0, 1), (54, .getfield 7, 3), (57, .iconst 5, 1), (58, .iaload, 1), (59, .ireturn, 1), (60, .iload_n 1, 1), (61, .iconst 5, 1), (62, .if_icmp .ne 11, 3), (65, .aload_n 0, 1), (66, .getfield 7, 3), (69, .bipush 6, 2), (71, .iaload, 1), (72, .ireturn, 1), (73, .iload_n 1, 1), (74, .bipush 6, 2), (76, .if_icmp .ne 13, 3), (79, .iconst 1, 1), (80, .aload_n 0, 1), (81, .getfield 7, 3), (84, .bipush 7, 2), (86, .iaload, 1), (87, .isub, 1), (88, .ireturn, 1), (89, .iload_n 1, 1), (90, .bipush 7, 2), (92, .if_icmp .ne 11, 3), (95, .aload_n 0, 1), (96, .getfield 7, 3), (99, .bipush 8, 2), (101, .iaload, 1), (102, .ireturn, 1), (103, .iload_n 1, 1), (104, .bipush 8, 2), (106, .if_icmp .ne 10, 3), (109, .aload_n 0, 1), (110, .getfield 7, 3), (113, .iconst 0, 1), (114, .iaload, 1), (115, .ireturn, 1), (116, .iload_n 1, 1), (117, .bipush 9, 2), (119, .if_icmp .ne 10, 3), (122, .aload_n 0, 1), (123, .getfield 7, 3), (126, .iconst 2, 1), (127, .iaload, 1), (128, .ireturn, 1), (129, .iload_n 1, 1), (130, .bipush 10, 2), (132, .if_icmp .ne 10, 3), (135, .aload_n 0, 1), (136, .getfield 7, 3), (139, .iconst 1, 1), (140, .iaload, 1), (141, .ireturn, 1), (142, .iload_n 1, 1), (143, .bipush 11, 2), (145, .if_icmp .ne 10, 3), (148, .aload_n 0, 1), (149, .getfield 34, 3), (152, .iconst 0, 1), (153, .iaload, 1), (154, .ireturn, 1), (155, .iload_n 1, 1), (156, .bipush 12, 2), (158, .if_icmp .ne 8, 3), (161, .aload_n 0, 1), (162, .getfield 285, 3), (165, .ireturn, 1), (166, .iload_n 1, 1), (167, .bipush 13, 2), (169, .if_icmp .ne 8, 3), (172, .aload_n 0, 1), (173, .getfield 288, 3), (176, .ireturn, 1), (177, .iload_n 1, 1), (178, .bipush 14, 2), (180, .if_icmp .ne 8, 3), (183, .aload_n 0, 1), (184, .getfield 282, 3), (187, .ireturn, 1), (188, .iload_n 1, 1), (189, .bipush 15, 2), (191, .if_icmp .ne 10, 3), (194, .aload_n 0, 1), (195, .getfield 123, 3), (198, .goto 6, 3), (201, .ldc_w 479, 3), (204, .ireturn, 1)]
theorem ttX11_look : zdt cX11_look tX11_look = true := by decide +kernel
abbrev q_X11_look (h : zM) (p1 : Int) : Option zV → zM → Prop := zqi fun v h' => ((-2147483648) ≤ v ∧ v ≤ 2147483647) ∧ okM h' ∧ zfr [0] [] h h'
set_option maxRecDepth 100000 in
set_option maxHeartbeats 4000000 in
theorem s_X11_look (l : Launch) (h : zM) (p1 : Int) (s0 : okM h) (b_p1 : (-2147483648) ≤ p1 ∧ p1 ≤ 2147483647) : zT shM l yX11_look cX11_look 2 (some .int) (rmL 3) 0 0 [.inr 0, .inl p1] h (q_X11_look h p1) := by
  refine zT_of (by decide +kernel) (L0 := [some (.inr 0), some (.inl p1)]) rfl (Nat.le_of_ble_eq_true rfl) ?_
  refine zj_aload_n (zdk ttX11_look 0 rfl rfl) rfl (by decide) ?_
  refine zj_iconst (zdk ttX11_look 1 rfl rfl) ?_
  refine zj_puti (zdk ttX11_look 2 rfl rfl) zf_RX11_120 rfl (k_M s0) (Or.inl zw_RX11_120) (k2 := 0) rfl (fun h1 e2 => ?_)
  refine zj_iload_n (zdk ttX11_look 3 rfl rfl) rfl ?_
  refine zj_if_ne (t := 14) (zdk ttX11_look 4 rfl rfl) (by decide) (by omega) (fun c3 => ?_) (fun c3 => ?_)
  · refine zj_iload_n (zdk ttX11_look 8 rfl rfl) rfl ?_
    refine zj_iconst (zdk ttX11_look 9 rfl rfl) ?_
    refine zj_icmp_ne (t := 24) (zdk ttX11_look 10 rfl rfl) (by decide) (by omega) (by decide) (fun c4 => ?_) (fun c4 => ?_)
    · refine zj_iload_n (zdk ttX11_look 14 rfl rfl) rfl ?_
      refine zj_iconst (zdk ttX11_look 15 rfl rfl) ?_
      refine zj_icmp_ne (t := 36) (zdk ttX11_look 16 rfl rfl) (by decide) (by omega) (by decide) (fun c5 => ?_) (fun c5 => ?_)
      · refine zj_iload_n (zdk ttX11_look 22 rfl rfl) rfl ?_
        refine zj_iconst (zdk ttX11_look 23 rfl rfl) ?_
        refine zj_icmp_ne (t := 48) (zdk ttX11_look 24 rfl rfl) (by decide) (by omega) (by decide) (fun c6 => ?_) (fun c6 => ?_)
        · refine zj_iload_n (zdk ttX11_look 30 rfl rfl) rfl ?_
          refine zj_iconst (zdk ttX11_look 31 rfl rfl) ?_
          refine zj_icmp_ne (t := 60) (zdk ttX11_look 32 rfl rfl) (by decide) (by omega) (by decide) (fun c7 => ?_) (fun c7 => ?_)
          · refine zj_iload_n (zdk ttX11_look 38 rfl rfl) rfl ?_
            refine zj_iconst (zdk ttX11_look 39 rfl rfl) ?_
            refine zj_icmp_ne (t := 73) (zdk ttX11_look 40 rfl rfl) (by decide) (by omega) (by decide) (fun c8 => ?_) (fun c8 => ?_)
            · refine zj_iload_n (zdk ttX11_look 46 rfl rfl) rfl ?_
              refine zj_bipush (zdk ttX11_look 47 rfl rfl) (by decide) ?_
              refine zj_icmp_ne (t := 89) (zdk ttX11_look 48 rfl rfl) (by decide) (by omega) (by decide) (fun c9 => ?_) (fun c9 => ?_)
              · refine zj_iload_n (zdk ttX11_look 56 rfl rfl) rfl ?_
                refine zj_bipush (zdk ttX11_look 57 rfl rfl) (by decide) ?_
                refine zj_icmp_ne (t := 103) (zdk ttX11_look 58 rfl rfl) (by decide) (by omega) (by decide) (fun c10 => ?_) (fun c10 => ?_)
                · refine zj_iload_n (zdk ttX11_look 64 rfl rfl) rfl ?_
                  refine zj_bipush (zdk ttX11_look 65 rfl rfl) (by decide) ?_
                  refine zj_icmp_ne (t := 116) (zdk ttX11_look 66 rfl rfl) (by decide) (by omega) (by decide) (fun c11 => ?_) (fun c11 => ?_)
                  · refine zj_iload_n (zdk ttX11_look 72 rfl rfl) rfl ?_
                    refine zj_bipush (zdk ttX11_look 73 rfl rfl) (by decide) ?_
                    refine zj_icmp_ne (t := 129) (zdk ttX11_look 74 rfl rfl) (by decide) (by omega) (by decide) (fun c12 => ?_) (fun c12 => ?_)
                    · refine zj_iload_n (zdk ttX11_look 80 rfl rfl) rfl ?_
                      refine zj_bipush (zdk ttX11_look 81 rfl rfl) (by decide) ?_
                      refine zj_icmp_ne (t := 142) (zdk ttX11_look 82 rfl rfl) (by decide) (by omega) (by decide) (fun c13 => ?_) (fun c13 => ?_)
                      · refine zj_iload_n (zdk ttX11_look 88 rfl rfl) rfl ?_
                        refine zj_bipush (zdk ttX11_look 89 rfl rfl) (by decide) ?_
                        refine zj_icmp_ne (t := 155) (zdk ttX11_look 90 rfl rfl) (by decide) (by omega) (by decide) (fun c14 => ?_) (fun c14 => ?_)
                        · refine zj_iload_n (zdk ttX11_look 96 rfl rfl) rfl ?_
                          refine zj_bipush (zdk ttX11_look 97 rfl rfl) (by decide) ?_
                          refine zj_icmp_ne (t := 166) (zdk ttX11_look 98 rfl rfl) (by decide) (by omega) (by decide) (fun c15 => ?_) (fun c15 => ?_)
                          · refine zj_iload_n (zdk ttX11_look 102 rfl rfl) rfl ?_
                            refine zj_bipush (zdk ttX11_look 103 rfl rfl) (by decide) ?_
                            refine zj_icmp_ne (t := 177) (zdk ttX11_look 104 rfl rfl) (by decide) (by omega) (by decide) (fun c16 => ?_) (fun c16 => ?_)
                            · refine zj_iload_n (zdk ttX11_look 108 rfl rfl) rfl ?_
                              refine zj_bipush (zdk ttX11_look 109 rfl rfl) (by decide) ?_
                              refine zj_icmp_ne (t := 188) (zdk ttX11_look 110 rfl rfl) (by decide) (by omega) (by decide) (fun c17 => ?_) (fun c17 => ?_)
                              · refine zj_iload_n (zdk ttX11_look 114 rfl rfl) rfl ?_
                                refine zj_bipush (zdk ttX11_look 115 rfl rfl) (by decide) ?_
                                refine zj_icmp_ne (t := 201) (zdk ttX11_look 116 rfl rfl) (by decide) (by omega) (by decide) (fun c18 => ?_) (fun c18 => ?_)
                                · refine zj_ldc_w (z := (-100000)) (zdk ttX11_look 120 rfl rfl) wc_RX11_479 ?_
                                  have s19 : okM h1 := fwM_0 s0 e2 (by omega)
                                  have f20 : zfr [0] [] h h1 := zfr_wf (zfr_r _ _ _) e2 rfl
                                  exact zj_iret rfl (zdk ttX11_look 121 rfl rfl) (Nat.le_refl _) (Nat.le_refl _) ⟨(-100000), rfl, by omega, s19, f20⟩
                                · refine zj_aload_n (zdk ttX11_look 117 rfl rfl) rfl (by decide) ?_
                                  have b21 : 0 ≤ (h.2 0 3) ∧ (h.2 0 3) ≤ 6 := fM_3 s0
                                  have s22 : okM h1 := fwM_0 s0 e2 (by omega)
                                  refine zj_geti (v := (h.2 0 3)) (zdk ttX11_look 118 rfl rfl) zf_RX11_123 rfl (k_M s22) (zwr_r e2 (by first | decide | exact (absurd ·.1 (by decide)) | exact (absurd ·.2 (by decide)) | omega)) ?_
                                  refine zj_goto (t := 204) (zdk ttX11_look 119 rfl rfl) (by decide) ?_
                                  have f23 : zfr [0] [] h h1 := zfr_wf (zfr_r _ _ _) e2 rfl
                                  exact zj_iret rfl (zdk ttX11_look 121 rfl rfl) (Nat.le_refl _) (Nat.le_refl _) ⟨(h.2 0 3), rfl, by omega, s22, f23⟩
                              · refine zj_aload_n (zdk ttX11_look 111 rfl rfl) rfl (by decide) ?_
                                have b24 : -2147483648 ≤ (h.2 0 37) ∧ (h.2 0 37) ≤ 2147483647 := fM_37 s0
                                have s25 : okM h1 := fwM_0 s0 e2 (by omega)
                                refine zj_geti (v := (h.2 0 37)) (zdk ttX11_look 112 rfl rfl) zf_RX11_282 rfl (k_M s25) (zwr_r e2 (by first | decide | exact (absurd ·.1 (by decide)) | exact (absurd ·.2 (by decide)) | omega)) ?_
                                have f26 : zfr [0] [] h h1 := zfr_wf (zfr_r _ _ _) e2 rfl
                                exact zj_iret rfl (zdk ttX11_look 113 rfl rfl) (Nat.le_refl _) (Nat.le_refl _) ⟨(h.2 0 37), rfl, by omega, s25, f26⟩
                            · refine zj_aload_n (zdk ttX11_look 105 rfl rfl) rfl (by decide) ?_
                              have b27 : 0 ≤ (h.2 0 35) ∧ (h.2 0 35) ≤ 16 := fM_35 s0
                              have s28 : okM h1 := fwM_0 s0 e2 (by omega)
                              refine zj_geti (v := (h.2 0 35)) (zdk ttX11_look 106 rfl rfl) zf_RX11_288 rfl (k_M s28) (zwr_r e2 (by first | decide | exact (absurd ·.1 (by decide)) | exact (absurd ·.2 (by decide)) | omega)) ?_
                              have f29 : zfr [0] [] h h1 := zfr_wf (zfr_r _ _ _) e2 rfl
                              exact zj_iret rfl (zdk ttX11_look 107 rfl rfl) (Nat.le_refl _) (Nat.le_refl _) ⟨(h.2 0 35), rfl, by omega, s28, f29⟩
                          · refine zj_aload_n (zdk ttX11_look 99 rfl rfl) rfl (by decide) ?_
                            have b30 : 0 ≤ (h.2 0 33) ∧ (h.2 0 33) ≤ 16 := fM_33 s0
                            have s31 : okM h1 := fwM_0 s0 e2 (by omega)
                            refine zj_geti (v := (h.2 0 33)) (zdk ttX11_look 100 rfl rfl) zf_RX11_285 rfl (k_M s31) (zwr_r e2 (by first | decide | exact (absurd ·.1 (by decide)) | exact (absurd ·.2 (by decide)) | omega)) ?_
                            have f32 : zfr [0] [] h h1 := zfr_wf (zfr_r _ _ _) e2 rfl
                            exact zj_iret rfl (zdk ttX11_look 101 rfl rfl) (Nat.le_refl _) (Nat.le_refl _) ⟨(h.2 0 33), rfl, by omega, s31, f32⟩
                        · refine zj_aload_n (zdk ttX11_look 91 rfl rfl) rfl (by decide) ?_
                          have s33 : okM h1 := fwM_0 s0 e2 (by omega)
                          refine zj_getr (r := 9) (zdk ttX11_look 92 rfl rfl) zf_RX11_34 rfl (k_M s33) (rfM_17 s33) ?_
                          refine zj_iconst (zdk ttX11_look 93 rfl rfl) ?_
                          have b34 : 0 ≤ (h.2 9 0) ∧ (h.2 9 0) ≤ 16 := abM_9 s0 0
                          refine zj_iald (v := (h.2 9 0)) (zdk ttX11_look 94 rfl rfl) (kaM_9 s33) (by decide) (by omega) (zwr_r e2 (by first | decide | exact (absurd ·.1 (by decide)) | exact (absurd ·.2 (by decide)) | omega)) ?_
                          have f35 : zfr [0] [] h h1 := zfr_wf (zfr_r _ _ _) e2 rfl
                          exact zj_iret rfl (zdk ttX11_look 95 rfl rfl) (Nat.le_refl _) (Nat.le_refl _) ⟨(h.2 9 0), rfl, by omega, s33, f35⟩
                      · refine zj_aload_n (zdk ttX11_look 83 rfl rfl) rfl (by decide) ?_
                        have s36 : okM h1 := fwM_0 s0 e2 (by omega)
                        refine zj_getr (r := 1) (zdk ttX11_look 84 rfl rfl) zf_RX11_7 rfl (k_M s36) (rfM_1 s36) ?_
                        refine zj_iconst (zdk ttX11_look 85 rfl rfl) ?_
                        have b38 : -2147483648 ≤ (h.2 1 1) ∧ (h.2 1 1) ≤ 2147483647 := (rM_b s0 1 1 (by omega)).1
                        refine zj_iald (v := (h.2 1 1)) (zdk ttX11_look 86 rfl rfl) (kaM_1 s36) (by decide) (by omega) (zwr_r e2 (by first | decide | exact (absurd ·.1 (by decide)) | exact (absurd ·.2 (by decide)) | omega)) ?_
                        have f39 : zfr [0] [] h h1 := zfr_wf (zfr_r _ _ _) e2 rfl
                        exact zj_iret rfl (zdk ttX11_look 87 rfl rfl) (Nat.le_refl _) (Nat.le_refl _) ⟨(h.2 1 1), rfl, by omega, s36, f39⟩
                    · refine zj_aload_n (zdk ttX11_look 75 rfl rfl) rfl (by decide) ?_
                      have s40 : okM h1 := fwM_0 s0 e2 (by omega)
                      refine zj_getr (r := 1) (zdk ttX11_look 76 rfl rfl) zf_RX11_7 rfl (k_M s40) (rfM_1 s40) ?_
                      refine zj_iconst (zdk ttX11_look 77 rfl rfl) ?_
                      have b41 : 0 ≤ (h.2 1 2) ∧ (h.2 1 2) ≤ 150 := (rM_b s0 1 2 (by decide)).2 (by decide)
                      refine zj_iald (v := (h.2 1 2)) (zdk ttX11_look 78 rfl rfl) (kaM_1 s40) (by decide) (by omega) (zwr_r e2 (by first | decide | exact (absurd ·.1 (by decide)) | exact (absurd ·.2 (by decide)) | omega)) ?_
                      have f42 : zfr [0] [] h h1 := zfr_wf (zfr_r _ _ _) e2 rfl
                      exact zj_iret rfl (zdk ttX11_look 79 rfl rfl) (Nat.le_refl _) (Nat.le_refl _) ⟨(h.2 1 2), rfl, by omega, s40, f42⟩
                  · refine zj_aload_n (zdk ttX11_look 67 rfl rfl) rfl (by decide) ?_
                    have s43 : okM h1 := fwM_0 s0 e2 (by omega)
                    refine zj_getr (r := 1) (zdk ttX11_look 68 rfl rfl) zf_RX11_7 rfl (k_M s43) (rfM_1 s43) ?_
                    refine zj_iconst (zdk ttX11_look 69 rfl rfl) ?_
                    have b45 : -2147483648 ≤ (h.2 1 0) ∧ (h.2 1 0) ≤ 2147483647 := (rM_b s0 1 0 (by omega)).1
                    refine zj_iald (v := (h.2 1 0)) (zdk ttX11_look 70 rfl rfl) (kaM_1 s43) (by decide) (by omega) (zwr_r e2 (by first | decide | exact (absurd ·.1 (by decide)) | exact (absurd ·.2 (by decide)) | omega)) ?_
                    have f46 : zfr [0] [] h h1 := zfr_wf (zfr_r _ _ _) e2 rfl
                    exact zj_iret rfl (zdk ttX11_look 71 rfl rfl) (Nat.le_refl _) (Nat.le_refl _) ⟨(h.2 1 0), rfl, by omega, s43, f46⟩
                · refine zj_aload_n (zdk ttX11_look 59 rfl rfl) rfl (by decide) ?_
                  have s47 : okM h1 := fwM_0 s0 e2 (by omega)
                  refine zj_getr (r := 1) (zdk ttX11_look 60 rfl rfl) zf_RX11_7 rfl (k_M s47) (rfM_1 s47) ?_
                  refine zj_bipush (zdk ttX11_look 61 rfl rfl) (by decide) ?_
                  have b49 : -2147483648 ≤ (h.2 1 8) ∧ (h.2 1 8) ≤ 2147483647 := (rM_b s0 1 8 (by omega)).1
                  refine zj_iald (v := (h.2 1 8)) (zdk ttX11_look 62 rfl rfl) (kaM_1 s47) (by decide) (by omega) (zwr_r e2 (by first | decide | exact (absurd ·.1 (by decide)) | exact (absurd ·.2 (by decide)) | omega)) ?_
                  have f50 : zfr [0] [] h h1 := zfr_wf (zfr_r _ _ _) e2 rfl
                  exact zj_iret rfl (zdk ttX11_look 63 rfl rfl) (Nat.le_refl _) (Nat.le_refl _) ⟨(h.2 1 8), rfl, by omega, s47, f50⟩
              · refine zj_iconst (zdk ttX11_look 49 rfl rfl) ?_
                refine zj_aload_n (zdk ttX11_look 50 rfl rfl) rfl (by decide) ?_
                have s51 : okM h1 := fwM_0 s0 e2 (by omega)
                refine zj_getr (r := 1) (zdk ttX11_look 51 rfl rfl) zf_RX11_7 rfl (k_M s51) (rfM_1 s51) ?_
                refine zj_bipush (zdk ttX11_look 52 rfl rfl) (by decide) ?_
                have b53 : -2147483648 ≤ (h.2 1 7) ∧ (h.2 1 7) ≤ 2147483647 := (rM_b s0 1 7 (by omega)).1
                refine zj_iald (v := (h.2 1 7)) (zdk ttX11_look 53 rfl rfl) (kaM_1 s51) (by decide) (by omega) (zwr_r e2 (by first | decide | exact (absurd ·.1 (by decide)) | exact (absurd ·.2 (by decide)) | omega)) ?_
                refine zj_isub (zdk ttX11_look 54 rfl rfl) ?_
                refine zj_wrap ?_
                have b54 := zwp_in (1 - (h.2 1 7))
                have f55 : zfr [0] [] h h1 := zfr_wf (zfr_r _ _ _) e2 rfl
                exact zj_iret rfl (zdk ttX11_look 55 rfl rfl) (Nat.le_refl _) (Nat.le_refl _) ⟨(zwp (1 - (h.2 1 7))), rfl, by omega, s51, f55⟩
            · refine zj_aload_n (zdk ttX11_look 41 rfl rfl) rfl (by decide) ?_
              have s56 : okM h1 := fwM_0 s0 e2 (by omega)
              refine zj_getr (r := 1) (zdk ttX11_look 42 rfl rfl) zf_RX11_7 rfl (k_M s56) (rfM_1 s56) ?_
              refine zj_bipush (zdk ttX11_look 43 rfl rfl) (by decide) ?_
              have b58 : -2147483648 ≤ (h.2 1 6) ∧ (h.2 1 6) ≤ 2147483647 := (rM_b s0 1 6 (by omega)).1
              refine zj_iald (v := (h.2 1 6)) (zdk ttX11_look 44 rfl rfl) (kaM_1 s56) (by decide) (by omega) (zwr_r e2 (by first | decide | exact (absurd ·.1 (by decide)) | exact (absurd ·.2 (by decide)) | omega)) ?_
              have f59 : zfr [0] [] h h1 := zfr_wf (zfr_r _ _ _) e2 rfl
              exact zj_iret rfl (zdk ttX11_look 45 rfl rfl) (Nat.le_refl _) (Nat.le_refl _) ⟨(h.2 1 6), rfl, by omega, s56, f59⟩
          · refine zj_aload_n (zdk ttX11_look 33 rfl rfl) rfl (by decide) ?_
            have s60 : okM h1 := fwM_0 s0 e2 (by omega)
            refine zj_getr (r := 1) (zdk ttX11_look 34 rfl rfl) zf_RX11_7 rfl (k_M s60) (rfM_1 s60) ?_
            refine zj_iconst (zdk ttX11_look 35 rfl rfl) ?_
            have b62 : -2147483648 ≤ (h.2 1 5) ∧ (h.2 1 5) ≤ 2147483647 := (rM_b s0 1 5 (by omega)).1
            refine zj_iald (v := (h.2 1 5)) (zdk ttX11_look 36 rfl rfl) (kaM_1 s60) (by decide) (by omega) (zwr_r e2 (by first | decide | exact (absurd ·.1 (by decide)) | exact (absurd ·.2 (by decide)) | omega)) ?_
            have f63 : zfr [0] [] h h1 := zfr_wf (zfr_r _ _ _) e2 rfl
            exact zj_iret rfl (zdk ttX11_look 37 rfl rfl) (Nat.le_refl _) (Nat.le_refl _) ⟨(h.2 1 5), rfl, by omega, s60, f63⟩
        · refine zj_aload_n (zdk ttX11_look 25 rfl rfl) rfl (by decide) ?_
          have s64 : okM h1 := fwM_0 s0 e2 (by omega)
          refine zj_getr (r := 1) (zdk ttX11_look 26 rfl rfl) zf_RX11_7 rfl (k_M s64) (rfM_1 s64) ?_
          refine zj_iconst (zdk ttX11_look 27 rfl rfl) ?_
          have b66 : -2147483648 ≤ (h.2 1 4) ∧ (h.2 1 4) ≤ 2147483647 := (rM_b s0 1 4 (by omega)).1
          refine zj_iald (v := (h.2 1 4)) (zdk ttX11_look 28 rfl rfl) (kaM_1 s64) (by decide) (by omega) (zwr_r e2 (by first | decide | exact (absurd ·.1 (by decide)) | exact (absurd ·.2 (by decide)) | omega)) ?_
          have f67 : zfr [0] [] h h1 := zfr_wf (zfr_r _ _ _) e2 rfl
          exact zj_iret rfl (zdk ttX11_look 29 rfl rfl) (Nat.le_refl _) (Nat.le_refl _) ⟨(h.2 1 4), rfl, by omega, s64, f67⟩
      · refine zj_aload_n (zdk ttX11_look 17 rfl rfl) rfl (by decide) ?_
        have s68 : okM h1 := fwM_0 s0 e2 (by omega)
        refine zj_getr (r := 1) (zdk ttX11_look 18 rfl rfl) zf_RX11_7 rfl (k_M s68) (rfM_1 s68) ?_
        refine zj_iconst (zdk ttX11_look 19 rfl rfl) ?_
        have b70 : -2147483648 ≤ (h.2 1 3) ∧ (h.2 1 3) ≤ 2147483647 := (rM_b s0 1 3 (by omega)).1
        refine zj_iald (v := (h.2 1 3)) (zdk ttX11_look 20 rfl rfl) (kaM_1 s68) (by decide) (by omega) (zwr_r e2 (by first | decide | exact (absurd ·.1 (by decide)) | exact (absurd ·.2 (by decide)) | omega)) ?_
        have f71 : zfr [0] [] h h1 := zfr_wf (zfr_r _ _ _) e2 rfl
        exact zj_iret rfl (zdk ttX11_look 21 rfl rfl) (Nat.le_refl _) (Nat.le_refl _) ⟨(h.2 1 3), rfl, by omega, s68, f71⟩
    · refine zj_aload_n (zdk ttX11_look 11 rfl rfl) rfl (by decide) ?_
      have s72 : okM h1 := fwM_0 s0 e2 (by omega)
      refine zj_callV (av := []) (st := []) (zdk ttX11_look 12 rfl rfl) mb_X11_hereSet mv_RX11_313 (ci := 11) rfl rfl (k_M s72) rfl rfl (Nat.le_of_ble_eq_true rfl) (s_X11_hereSet l h1 s72) (rm_ok (by decide) (by decide)) (zq_i fun v74 h75 q73 => ?_)
      obtain ⟨rfl, b76⟩ := q73
      have f77 : zfr [0] [] h h1 := zfr_wf (zfr_r _ _ _) e2 rfl
      exact zj_iret rfl (zdk ttX11_look 13 rfl rfl) (Nat.le_refl _) (Nat.le_refl _) ⟨v74, rfl, by omega, s72, f77⟩
  · refine zj_aload_n (zdk ttX11_look 5 rfl rfl) rfl (by decide) ?_
    have b78 : 0 ≤ (h.2 0 6) ∧ (h.2 0 6) ≤ 18 := fM_6 s0
    have s79 : okM h1 := fwM_0 s0 e2 (by omega)
    refine zj_geti (v := (h.2 0 6)) (zdk ttX11_look 6 rfl rfl) zf_RX11_132 rfl (k_M s79) (zwr_r e2 (by first | decide | exact (absurd ·.1 (by decide)) | exact (absurd ·.2 (by decide)) | omega)) ?_
    have f80 : zfr [0] [] h h1 := zfr_wf (zfr_r _ _ _) e2 rfl
    exact zj_iret rfl (zdk ttX11_look 7 rfl rfl) (Nat.le_refl _) (Nat.le_refl _) ⟨(h.2 0 6), rfl, by omega, s79, f80⟩

abbrev tX11_book : List (Nat × Instr × Nat) := [(0, .aload_n 0, 1), (1, .iconst 0, 1), (2, .putfield 120, 3), (5, .aload_n 0, 1), (6, .iload_n 1, 1), (7, .iconst 0, 1), (8, .aload_n 0, 1), (9, .getfield 7, 3), (12, .iconst 2, 1), (13, .iaload, 1), (14, .iconst 1, 1), (15, .isub, 1), (16, .invokevirtual 139, 3), (19, .ifCond .eq 26, 3), (22, .aload_n 0, 1), (23, .iload_n 2, 1), (24, .iconst 0, 1), (25, .iconst 3, 1), (26, .invokevirtual 139, 3), (29, .ifCond .eq 16, 3), (32, .aload_n 0, 1), (33, .getfield 25, 3), (36, .iconst 4, 1), (37, .iload_n 1, 1), (38, .imul, 1), (39, .iload_n 2, 1), (40, .iadd, 1), (41, .iaload, 1), (42, .goto 5, 3), (45, .bipush (-2), 2), (47, .ireturn, 1)]
theorem ttX11_book : zdt cX11_book tX11_book = true := by decide +kernel
abbrev q_X11_book (h : zM) (p1 : Int) (p2 : Int) : Option zV → zM → Prop := zqi fun v h' => ((-2147483648) ≤ v ∧ v ≤ 2147483647) ∧ okM h' ∧ zfr [0] [] h h'
set_option maxRecDepth 100000 in
set_option maxHeartbeats 4000000 in
theorem s_X11_book (l : Launch) (h : zM) (p1 : Int) (p2 : Int) (s0 : okM h) (b_p1 : (-2147483648) ≤ p1 ∧ p1 ≤ 2147483647) (b_p2 : (-2147483648) ≤ p2 ∧ p2 ≤ 2147483647) : zT shM l yX11_book cX11_book 3 (some .int) (rmL 2) 0 0 [.inr 0, .inl p1, .inl p2] h (q_X11_book h p1 p2) := by
  refine zT_of (by decide +kernel) (L0 := [some (.inr 0), some (.inl p1), some (.inl p2)]) rfl (Nat.le_of_ble_eq_true rfl) ?_
  refine zj_aload_n (zdk ttX11_book 0 rfl rfl) rfl (by decide) ?_
  refine zj_iconst (zdk ttX11_book 1 rfl rfl) ?_
  refine zj_puti (zdk ttX11_book 2 rfl rfl) zf_RX11_120 rfl (k_M s0) (Or.inl zw_RX11_120) (k2 := 0) rfl (fun h1 e2 => ?_)
  refine zj_aload_n (zdk ttX11_book 3 rfl rfl) rfl (by decide) ?_
  refine zj_iload_n (zdk ttX11_book 4 rfl rfl) rfl ?_
  refine zj_iconst (zdk ttX11_book 5 rfl rfl) ?_
  refine zj_aload_n (zdk ttX11_book 6 rfl rfl) rfl (by decide) ?_
  have s3 : okM h1 := fwM_0 s0 e2 (by omega)
  refine zj_getr (r := 1) (zdk ttX11_book 7 rfl rfl) zf_RX11_7 rfl (k_M s3) (rfM_1 s3) ?_
  refine zj_iconst (zdk ttX11_book 8 rfl rfl) ?_
  have b4 : 0 ≤ (h.2 1 2) ∧ (h.2 1 2) ≤ 150 := (rM_b s0 1 2 (by decide)).2 (by decide)
  refine zj_iald (v := (h.2 1 2)) (zdk ttX11_book 9 rfl rfl) (kaM_1 s3) (by decide) (by omega) (zwr_r e2 (by first | decide | exact (absurd ·.1 (by decide)) | exact (absurd ·.2 (by decide)) | omega)) ?_
  refine zj_iconst (zdk ttX11_book 10 rfl rfl) ?_
  refine zj_isub (zdk ttX11_book 11 rfl rfl) ?_
  refine zj_callV (av := [.inl p1, .inl 0, .inl ((h.2 1 2) - 1)]) (st := []) (zdk ttX11_book 12 rfl rfl) mb_X11_isIn mv_RX11_139 (ci := 11) rfl rfl (k_M s3) rfl rfl (Nat.le_of_ble_eq_true rfl) (s_X11_isIn l h1 p1 0 ((h.2 1 2) - 1) s3 (by omega) (by omega) (by omega)) (rm_ok (by decide) (by decide)) (zq_i fun v6 h7 q5 => ?_)
  obtain ⟨rfl, ⟨rfl, b8⟩ | ⟨rfl, b8⟩⟩ := q5
  · refine zj_if_eq (t := 45) (zdk ttX11_book 13 rfl rfl) (by decide) (by decide) (fun c9 => ?_) (fun c9 => ?_)
    · refine zj_bipush (zdk ttX11_book 29 rfl rfl) (by decide) ?_
      have f10 : zfr [0] [] h h1 := zfr_wf (zfr_r _ _ _) e2 rfl
      exact zj_iret rfl (zdk ttX11_book 30 rfl rfl) (Nat.le_refl _) (Nat.le_refl _) ⟨(-2), rfl, by omega, s3, f10⟩
    · exact absurd c9 (by omega)
  · refine zj_if_eq (t := 45) (zdk ttX11_book 13 rfl rfl) (by decide) (by decide) (fun c11 => ?_) (fun c11 => ?_)
    · exact absurd c11 (by omega)
    · refine zj_aload_n (zdk ttX11_book 14 rfl rfl) rfl (by decide) ?_
      refine zj_iload_n (zdk ttX11_book 15 rfl rfl) rfl ?_
      refine zj_iconst (zdk ttX11_book 16 rfl rfl) ?_
      refine zj_iconst (zdk ttX11_book 17 rfl rfl) ?_
      refine zj_callV (av := [.inl p2, .inl 0, .inl 3]) (st := []) (zdk ttX11_book 18 rfl rfl) mb_X11_isIn mv_RX11_139 (ci := 11) rfl rfl (k_M s3) rfl rfl (Nat.le_of_ble_eq_true rfl) (s_X11_isIn l h1 p2 0 3 s3 (by omega) (by omega) (by omega)) (rm_ok (by decide) (by decide)) (zq_i fun v13 h14 q12 => ?_)
      obtain ⟨rfl, ⟨rfl, b15⟩ | ⟨rfl, b15⟩⟩ := q12
      · refine zj_if_eq (t := 45) (zdk ttX11_book 19 rfl rfl) (by decide) (by decide) (fun c16 => ?_) (fun c16 => ?_)
        · refine zj_bipush (zdk ttX11_book 29 rfl rfl) (by decide) ?_
          have f17 : zfr [0] [] h h1 := zfr_wf (zfr_r _ _ _) e2 rfl
          exact zj_iret rfl (zdk ttX11_book 30 rfl rfl) (Nat.le_refl _) (Nat.le_refl _) ⟨(-2), rfl, by omega, s3, f17⟩
        · exact absurd c16 (by omega)
      · refine zj_if_eq (t := 45) (zdk ttX11_book 19 rfl rfl) (by decide) (by decide) (fun c18 => ?_) (fun c18 => ?_)
        · exact absurd c18 (by omega)
        · refine zj_aload_n (zdk ttX11_book 20 rfl rfl) rfl (by decide) ?_
          refine zj_getr (r := 6) (zdk ttX11_book 21 rfl rfl) zf_RX11_25 rfl (k_M s3) (rfM_9 s3) ?_
          refine zj_iconst (zdk ttX11_book 22 rfl rfl) ?_
          refine zj_iload_n (zdk ttX11_book 23 rfl rfl) rfl ?_
          refine zj_imul (zdk ttX11_book 24 rfl rfl) ?_
          refine zj_iload_n (zdk ttX11_book 25 rfl rfl) rfl ?_
          refine zj_iadd (zdk ttX11_book 26 rfl rfl) ?_
          have b19 : -2147483648 ≤ (h.2 6 ((4 * p1) + p2)) ∧ (h.2 6 ((4 * p1) + p2)) ≤ 2147483647 := abM_6 s0 ((4 * p1) + p2)
          refine zj_iald (v := (h.2 6 ((4 * p1) + p2))) (zdk ttX11_book 27 rfl rfl) (kaM_6 s3) (by decide) (by omega) (zwr_r e2 (by first | decide | exact (absurd ·.1 (by decide)) | exact (absurd ·.2 (by decide)) | omega)) ?_
          refine zj_goto (t := 47) (zdk ttX11_book 28 rfl rfl) (by decide) ?_
          have f20 : zfr [0] [] h h1 := zfr_wf (zfr_r _ _ _) e2 rfl
          exact zj_iret rfl (zdk ttX11_book 30 rfl rfl) (Nat.le_refl _) (Nat.le_refl _) ⟨(h.2 6 ((4 * p1) + p2)), rfl, by omega, s3, f20⟩

abbrev tX11_clockRuns : List (Nat × Instr × Nat) := [(0, .aload_n 0, 1), (1, .sipush 1440, 3), (4, .aload_n 0, 1), (5, .aload_n 0, 1), (6, .getfield 7, 3), (9, .iconst 4, 1), (10, .iaload, 1), (11, .invokevirtual 368, 3), (14, .invokevirtual 371, 3), (17, .istore_n 1, 1), (18, .aload_n 0, 1), (19, .getfield 7, 3), (22, .iconst 4, 1), (23, .iaload, 1), (24, .ifCond .le 7, 3), (27, .iconst 1, 1), (28, .goto 4, 3), (31, .iconst 0, 1), (32, .istore_n 2, 1), (33, .iconst 0, 1), (34, .istore_n 3, 1), (35, .iconst 0, 1), (36, .istore 4, 2), (38, .iload 4, 2), (40, .iload_n 1, 1), (41, .if_icmp .ge 105, 3), (44, .aload_n 0, 1), (45, .getfield 7, 3), (48, .iconst 3, 1), (49, .iaload, 1), (50, .iload_n 2, 1), (51, .ifCond .eq 7, 3), (54, .iconst 1, 1), (55, .goto 4, 3), (58, .iconst (-1), 1), (59, .iadd, 1), (60, .istore 5, 2), (62, .iload 5, 2), (64, .sipush 720, 3), (67, .if_icmp .ne 19, 3), (70, .aload_n 0, 1), (71, .getfield 7, 3), (74, .bipush 6, 2), (76, .aload_n 0, 1), (77, .getfield 7, 3), (80, .bipush 6, 2), (82, .iaload, 1), (83, .iconst 1, 1), (84, .iadd, 1), (85, .iastore, 1), (86, .iload 5, 2), (88, .ifCond .ge 19, 3), (91, .aload_n 0, 1), (92, .getfield 7, 3), (95, .bipush 6, 2), (97, .aload_n 0, 1), (98, .getfield 7, 3), (101, .bipush 6, 2), (103, .iaload, 1), (104, .iconst 1, 1), (105, .isub, 1), (106, .iastore, 1), (107, .aload_n 0, 1), (108, .getfield 7, 3), (111, .iconst 3, 1), (112, .iload 5, 2), (114, .sipush 720, 3), (117, .iadd, 1), (118, .sipush 720, 3), (121, .irem, 1), (122, .iastore, 1), (123, .iload_n 2, 1), (124, .ifCond .eq 16, 3), (127, .iload_n 3, 1), (128, .aload_n 0, 1), (129, .aload_n 0, 1), (130, .getfield 7, 3), (133, .iconst 3, 1), (134, .iaload, 1), (135, .invokevirtual 374, 3), (138, .iadd, 1), (139, .istore_n 3, 1), (140, .iinc 4 1, 3), (143, .goto (-105), 3), (146, .aload_n 0, 1), (147, .getfield 7, 3), (150, .iconst 4, 1), (151, .aload_n 0, 1), (152, .getfield 7, 3), (155, .iconst 4, 1), (156, .iaload, 1), (157, .iload_n 2, 1), (158, .ifCond .eq 8, 3), (161, .iload_n 1, 1), (162, .ineg, 1), (163, .goto 4, 3), (166, .iload_n 1, 1), (167, .iadd, 1), (168, .iastore, 1), (169, .aload_n 0, 1), (170, .getfield 7, 3), (173, .iconst 5, 1), (174, .aload_n 0, 1), (175, .getfield 7, 3), (178, .iconst 5, 1), (179, .iaload, 1), (180, .iload_n 3, 1), (181, .iadd, 1), (182, .iastore, 1), (183, .iload_n 3, 1), (184, .ifCond .le 10, 3), (187, .aload_n 0, 1), (188, .iconst 2, 1), (189, .iconst (-1), 1), (190, .iload_n 3, 1), (191, .invokevirtual 337, 3), (194, .iload_n 1, 1), (195, .ifCond .ne 15, 3), (198, .aload_n 0, 1), (199, .iconst 3, 1), (200, .iconst (-1), 1), (201, .aload_n 0, 1), (202, .getfield 7, 3), (205, .iconst 3, 1), (206, .iaload, 1), (207, .invokevirtual 337, 3), (210, .iload_n 1, 1), (211, .ifCond .le 14, 3), (214, .iload_n 2, 1), (215, .ifCond .ne 10, 3), (218, .aload_n 0, 1), (219, .iconst 4, 1), (220, .iconst (-1), 1), (221, .iload_n 1, 1), (222, .invokevirtual 337, 3), (225, .iload_n 3, 1), (226, .ireturn, 1)]
theorem ttX11_clockRuns : zdt cX11_clockRuns tX11_clockRuns = true := by decide +kernel
abbrev q_X11_clockRuns (h : zM) : Option zV → zM → Prop := zqi fun v h' => ((-2147483648) ≤ v ∧ v ≤ 2147483647) ∧ okM h' ∧ zfr [] [1, 6] h h'
set_option maxRecDepth 100000 in
set_option maxHeartbeats 4000000 in
theorem s_X11_clockRuns (l : Launch) (h : zM) (s0 : okM h) : zT shM l yX11_clockRuns cX11_clockRuns 6 (some .int) (rmL 2) 0 0 [.inr 0] h (q_X11_clockRuns h) := by
  refine zT_of (by decide +kernel) (L0 := [some (.inr 0), none, none, none, none, none]) rfl (Nat.le_of_ble_eq_true rfl) ?_
  refine zj_aload_n (zdk ttX11_clockRuns 0 rfl rfl) rfl (by decide) ?_
  refine zj_sipush (zdk ttX11_clockRuns 1 rfl rfl) (by decide) ?_
  refine zj_aload_n (zdk ttX11_clockRuns 2 rfl rfl) rfl (by decide) ?_
  refine zj_aload_n (zdk ttX11_clockRuns 3 rfl rfl) rfl (by decide) ?_
  refine zj_getr (r := 1) (zdk ttX11_clockRuns 4 rfl rfl) zf_RX11_7 rfl (k_M s0) (rfM_1 s0) ?_
  refine zj_iconst (zdk ttX11_clockRuns 5 rfl rfl) ?_
  have b2 : -2147483648 ≤ (h.2 1 4) ∧ (h.2 1 4) ≤ 2147483647 := (rM_b s0 1 4 (by omega)).1
  refine zj_iald (v := (h.2 1 4)) (zdk ttX11_clockRuns 6 rfl rfl) (kaM_1 s0) (by decide) (by omega) rfl ?_
  refine zj_callV (av := [.inl (h.2 1 4)]) (st := [.inl 1440, .inr 0]) (zdk ttX11_clockRuns 7 rfl rfl) mb_X11_plain mv_RX11_368 (ci := 11) rfl rfl (k_M s0) rfl rfl (Nat.le_of_ble_eq_true rfl) (s_X11_plain l h (h.2 1 4) s0 (by omega)) (rm_ok (by decide) (by decide)) (zq_i fun v4 h5 q3 => ?_)
  obtain ⟨rfl, b6⟩ := q3
  have b7 : -2147483648 ≤ v4 ∧ v4 ≤ 2147483647 := by omega
  refine zj_callV (av := [.inl 1440, .inl v4]) (st := []) (zdk ttX11_clockRuns 8 rfl rfl) mb_X11_lesser mv_RX11_371 (ci := 11) rfl rfl (k_M s0) rfl rfl (Nat.le_of_ble_eq_true rfl) (s_X11_lesser l h 1440 v4 s0 (by omega) (by omega)) (rm_ok (by decide) (by decide)) (zq_i fun v9 h10 q8 => ?_)
  obtain ⟨rfl, b11⟩ := q8
  have b12 : -2147483648 ≤ v9 ∧ v9 ≤ 1440 := by omega
  refine zj_istore_n (L' := [some (.inr 0), some (.inl v9), none, none, none, none]) (zdk ttX11_clockRuns 9 rfl rfl) (by decide) rfl ?_
  refine zj_aload_n (zdk ttX11_clockRuns 10 rfl rfl) rfl (by decide) ?_
  refine zj_getr (r := 1) (zdk ttX11_clockRuns 11 rfl rfl) zf_RX11_7 rfl (k_M s0) (rfM_1 s0) ?_
  refine zj_iconst (zdk ttX11_clockRuns 12 rfl rfl) ?_
  refine zj_iald (v := (h.2 1 4)) (zdk ttX11_clockRuns 13 rfl rfl) (kaM_1 s0) (by decide) (by omega) rfl ?_
  have j15 : ∀ (y14 : Int), (0 ≤ y14 ∧ y14 ≤ 1) → zJ shM l yX11_clockRuns cX11_clockRuns 6 (some .int) (rmL 2) 0 0 (q_X11_clockRuns h) 0 0 32 [some (.inr 0), some (.inl v9), none, none, none, none] [.inl y14] h := by
    intro y14 b16
    refine zj_istore_n (L' := [some (.inr 0), some (.inl v9), some (.inl y14), none, none, none]) (zdk ttX11_clockRuns 18 rfl rfl) (by decide) rfl ?_
    refine zj_iconst (zdk ttX11_clockRuns 19 rfl rfl) ?_
    refine zj_istore_n (L' := [some (.inr 0), some (.inl v9), some (.inl y14), some (.inl 0), none, none]) (zdk ttX11_clockRuns 20 rfl rfl) (by decide) rfl ?_
    refine zj_iconst (zdk ttX11_clockRuns 21 rfl rfl) ?_
    refine zj_istore (L' := [some (.inr 0), some (.inl v9), some (.inl y14), some (.inl 0), some (.inl 0), none]) (zdk ttX11_clockRuns 22 rfl rfl) (by decide) rfl ?_
    have lp613 : ∀ (n38 : Nat) (x17 x18 : Int) (h19 : zM), (-2147483648 ≤ x17 ∧ x17 ≤ 2147483647) → (0 ≤ x18 ∧ x18 ≤ 1440) → okM h19 → zfr [] [1, 6] h h19 → (1441 - x18).toNat < n38 → zJ shM l yX11_clockRuns cX11_clockRuns 6 (some .int) (rmL 2) 0 0 (q_X11_clockRuns h) 0 0 38 [some (.inr 0), some (.inl v9), some (.inl y14), some (.inl x17), some (.inl x18), none] [] h19 := by
      intro n38
      induction n38 with
      | zero => intro x17 x18 h19 b614 b615 s20 f21 m616; exact absurd m616 (Nat.not_lt_zero _)
      | succ n38 ih617 =>
        intro x17 x18 h19 b614 b615 s20 f21 m616
        refine zj_iload (zdk ttX11_clockRuns 23 rfl rfl) rfl ?_
        refine zj_iload_n (zdk ttX11_clockRuns 24 rfl rfl) rfl ?_
        refine zj_icmp_ge (t := 146) (zdk ttX11_clockRuns 25 rfl rfl) (by decide) (by omega) (by omega) (fun c618 => ?_) (fun c618 => ?_)
        · refine zj_aload_n (zdk ttX11_clockRuns 84 rfl rfl) rfl (by decide) ?_
          refine zj_getr (r := 1) (zdk ttX11_clockRuns 85 rfl rfl) zf_RX11_7 rfl (k_M s20) (rfM_1 s20) ?_
          refine zj_iconst (zdk ttX11_clockRuns 86 rfl rfl) ?_
          refine zj_aload_n (zdk ttX11_clockRuns 87 rfl rfl) rfl (by decide) ?_
          refine zj_getr (r := 1) (zdk ttX11_clockRuns 88 rfl rfl) zf_RX11_7 rfl (k_M s20) (rfM_1 s20) ?_
          refine zj_iconst (zdk ttX11_clockRuns 89 rfl rfl) ?_
          have b673 : -2147483648 ≤ (h19.2 1 4) ∧ (h19.2 1 4) ≤ 2147483647 := (rM_b s20 1 4 (by omega)).1
          refine zj_iald (v := (h19.2 1 4)) (zdk ttX11_clockRuns 90 rfl rfl) (kaM_1 s20) (by decide) (by omega) rfl ?_
          refine zj_iload_n (zdk ttX11_clockRuns 91 rfl rfl) rfl ?_
          have j677 : ∀ (y676 : Int), (-2147483648 ≤ y676 ∧ y676 ≤ 2147483647) → zJ shM l yX11_clockRuns cX11_clockRuns 6 (some .int) (rmL 2) 0 0 (q_X11_clockRuns h) 0 0 167 [some (.inr 0), some (.inl v9), some (.inl y14), some (.inl x17), some (.inl x18), none] [.inl y676, .inl (h19.2 1 4), .inl 4, .inr 1] h19 := by
            intro y676 b678
            refine zj_iadd (zdk ttX11_clockRuns 97 rfl rfl) ?_
            refine zj_wrap ?_
            have b679 := zwp_in ((h19.2 1 4) + y676)
            refine zj_iast (zdk ttX11_clockRuns 98 rfl rfl) (kaM_1 s20) (by decide) (by omega) (fun h680 e681 => ?_)
            refine zj_aload_n (zdk ttX11_clockRuns 99 rfl rfl) rfl (by decide) ?_
            have s682 : okM h680 := okM_wr s20 e681 (by decide) (by omega) (by omega)
            refine zj_getr (r := 1) (zdk ttX11_clockRuns 100 rfl rfl) zf_RX11_7 rfl (k_M s682) (rfM_1 s682) ?_
            refine zj_iconst (zdk ttX11_clockRuns 101 rfl rfl) ?_
            refine zj_aload_n (zdk ttX11_clockRuns 102 rfl rfl) rfl (by decide) ?_
            refine zj_getr (r := 1) (zdk ttX11_clockRuns 103 rfl rfl) zf_RX11_7 rfl (k_M s682) (rfM_1 s682) ?_
            refine zj_iconst (zdk ttX11_clockRuns 104 rfl rfl) ?_
            have b684 : -2147483648 ≤ (h19.2 1 5) ∧ (h19.2 1 5) ≤ 2147483647 := (rM_b s20 1 5 (by omega)).1
            refine zj_iald (v := (h19.2 1 5)) (zdk ttX11_clockRuns 105 rfl rfl) (kaM_1 s682) (by decide) (by omega) (zwr_r e681 (by first | decide | exact (absurd ·.1 (by decide)) | exact (absurd ·.2 (by decide)) | omega)) ?_
            refine zj_iload_n (zdk ttX11_clockRuns 106 rfl rfl) rfl ?_
            refine zj_iadd (zdk ttX11_clockRuns 107 rfl rfl) ?_
            refine zj_wrap ?_
            have b685 := zwp_in ((h19.2 1 5) + x17)
            refine zj_iast (zdk ttX11_clockRuns 108 rfl rfl) (kaM_1 s682) (by decide) (by omega) (fun h686 e687 => ?_)
            refine zj_iload_n (zdk ttX11_clockRuns 109 rfl rfl) rfl ?_
            have j699 : ∀ (h696 : zM), okM h696 → zfr [] [1, 6] h h696 → zJ shM l yX11_clockRuns cX11_clockRuns 6 (some .int) (rmL 2) 0 0 (q_X11_clockRuns h) 0 0 194 [some (.inr 0), some (.inl v9), some (.inl y14), some (.inl x17), some (.inl x18), none] [] h696 := by
              intro h696 s697 f698
              refine zj_iload_n (zdk ttX11_clockRuns 116 rfl rfl) rfl ?_
              refine zj_if_ne (t := 210) (zdk ttX11_clockRuns 117 rfl rfl) (by decide) (by omega) (fun c700 => ?_) (fun c700 => ?_)
              · refine zj_iload_n (zdk ttX11_clockRuns 126 rfl rfl) rfl ?_
                refine zj_if_le (t := 225) (zdk ttX11_clockRuns 127 rfl rfl) (by decide) (by omega) (fun c701 => ?_) (fun c701 => ?_)
                · refine zj_iload_n (zdk ttX11_clockRuns 135 rfl rfl) rfl ?_
                  exact zj_iret rfl (zdk ttX11_clockRuns 136 rfl rfl) (Nat.le_refl _) (Nat.le_refl _) ⟨x17, rfl, by omega, s697, f698⟩
                · refine zj_iload_n (zdk ttX11_clockRuns 128 rfl rfl) rfl ?_
                  refine zj_if_ne (t := 225) (zdk ttX11_clockRuns 129 rfl rfl) (by decide) (by omega) (fun c702 => ?_) (fun c702 => ?_)
                  · refine zj_iload_n (zdk ttX11_clockRuns 135 rfl rfl) rfl ?_
                    exact zj_iret rfl (zdk ttX11_clockRuns 136 rfl rfl) (Nat.le_refl _) (Nat.le_refl _) ⟨x17, rfl, by omega, s697, f698⟩
                  · refine zj_aload_n (zdk ttX11_clockRuns 130 rfl rfl) rfl (by decide) ?_
                    refine zj_iconst (zdk ttX11_clockRuns 131 rfl rfl) ?_
                    refine zj_iconst (zdk ttX11_clockRuns 132 rfl rfl) ?_
                    refine zj_iload_n (zdk ttX11_clockRuns 133 rfl rfl) rfl ?_
                    refine zj_callV (av := [.inl 4, .inl (-1), .inl v9]) (st := []) (zdk ttX11_clockRuns 134 rfl rfl) mb_X11_notes mv_RX11_337 (ci := 11) rfl rfl (k_M s697) rfl rfl (Nat.le_of_ble_eq_true rfl) (s_X11_notes l h696 4 (-1) v9 s697 (by omega) (by omega) (by omega)) (rm_ok (by decide) (by decide)) (zq_v fun h705 q703 => ?_)
                    obtain ⟨s707, f708⟩ := q703
                    refine zj_iload_n (zdk ttX11_clockRuns 135 rfl rfl) rfl ?_
                    have f709 : zfr [] [1, 6] h h705 := zfr_t f698 f708 rfl rfl
                    exact zj_iret rfl (zdk ttX11_clockRuns 136 rfl rfl) (Nat.le_refl _) (Nat.le_refl _) ⟨x17, rfl, by omega, s707, f709⟩
              · refine zj_aload_n (zdk ttX11_clockRuns 118 rfl rfl) rfl (by decide) ?_
                refine zj_iconst (zdk ttX11_clockRuns 119 rfl rfl) ?_
                refine zj_iconst (zdk ttX11_clockRuns 120 rfl rfl) ?_
                refine zj_aload_n (zdk ttX11_clockRuns 121 rfl rfl) rfl (by decide) ?_
                refine zj_getr (r := 1) (zdk ttX11_clockRuns 122 rfl rfl) zf_RX11_7 rfl (k_M s697) (rfM_1 s697) ?_
                refine zj_iconst (zdk ttX11_clockRuns 123 rfl rfl) ?_
                have b711 : -2147483648 ≤ (h696.2 1 3) ∧ (h696.2 1 3) ≤ 2147483647 := (rM_b s697 1 3 (by omega)).1
                refine zj_iald (v := (h696.2 1 3)) (zdk ttX11_clockRuns 124 rfl rfl) (kaM_1 s697) (by decide) (by omega) rfl ?_
                refine zj_callV (av := [.inl 3, .inl (-1), .inl (h696.2 1 3)]) (st := []) (zdk ttX11_clockRuns 125 rfl rfl) mb_X11_notes mv_RX11_337 (ci := 11) rfl rfl (k_M s697) rfl rfl (Nat.le_of_ble_eq_true rfl) (s_X11_notes l h696 3 (-1) (h696.2 1 3) s697 (by omega) (by omega) (by omega)) (rm_ok (by decide) (by decide)) (zq_v fun h714 q712 => ?_)
                obtain ⟨s716, f717⟩ := q712
                refine zj_iload_n (zdk ttX11_clockRuns 126 rfl rfl) rfl ?_
                refine zj_if_le (t := 225) (zdk ttX11_clockRuns 127 rfl rfl) (by decide) (by omega) (fun c718 => ?_) (fun c718 => ?_)
                · refine zj_iload_n (zdk ttX11_clockRuns 135 rfl rfl) rfl ?_
                  have f719 : zfr [] [1, 6] h h714 := zfr_t f698 f717 rfl rfl
                  exact zj_iret rfl (zdk ttX11_clockRuns 136 rfl rfl) (Nat.le_refl _) (Nat.le_refl _) ⟨x17, rfl, by omega, s716, f719⟩
                · exact absurd c718 (by omega)
            refine zj_if_le (t := 194) (zdk ttX11_clockRuns 110 rfl rfl) (by decide) (by omega) (fun c688 => ?_) (fun c688 => ?_)
            · have s720 : okM h686 := okM_wr s682 e687 (by decide) (by omega) (by omega)
              have f722 : zfr [] [1, 6] h h680 := zfr_wa f21 e681 rfl
              have f721 : zfr [] [1, 6] h h686 := zfr_wa f722 e687 rfl
              exact j699 h686 s720 f721
            · refine zj_aload_n (zdk ttX11_clockRuns 111 rfl rfl) rfl (by decide) ?_
              refine zj_iconst (zdk ttX11_clockRuns 112 rfl rfl) ?_
              refine zj_iconst (zdk ttX11_clockRuns 113 rfl rfl) ?_
              refine zj_iload_n (zdk ttX11_clockRuns 114 rfl rfl) rfl ?_
              have s723 : okM h686 := okM_wr s682 e687 (by decide) (by omega) (by omega)
              refine zj_callV (av := [.inl 2, .inl (-1), .inl x17]) (st := []) (zdk ttX11_clockRuns 115 rfl rfl) mb_X11_notes mv_RX11_337 (ci := 11) rfl rfl (k_M s723) rfl rfl (Nat.le_of_ble_eq_true rfl) (s_X11_notes l h686 2 (-1) x17 s723 (by omega) (by omega) (by omega)) (rm_ok (by decide) (by decide)) (zq_v fun h726 q724 => ?_)
              obtain ⟨s728, f729⟩ := q724
              have f732 : zfr [] [1, 6] h h680 := zfr_wa f21 e681 rfl
              have f731 : zfr [] [1, 6] h h686 := zfr_wa f732 e687 rfl
              have f730 : zfr [] [1, 6] h h726 := zfr_t f731 f729 rfl rfl
              exact j699 h726 s728 f730
          refine zj_if_eq (t := 166) (zdk ttX11_clockRuns 92 rfl rfl) (by decide) (by omega) (fun c674 => ?_) (fun c674 => ?_)
          · refine zj_iload_n (zdk ttX11_clockRuns 96 rfl rfl) rfl ?_
            exact j677 v9 (by omega)
          · refine zj_iload_n (zdk ttX11_clockRuns 93 rfl rfl) rfl ?_
            refine zj_ineg (zdk ttX11_clockRuns 94 rfl rfl) ?_
            refine zj_wrap ?_
            have b733 := zwp_in (-v9)
            refine zj_goto (t := 167) (zdk ttX11_clockRuns 95 rfl rfl) (by decide) ?_
            exact j677 (zwp (-v9)) (by omega)
        · refine zj_aload_n (zdk ttX11_clockRuns 26 rfl rfl) rfl (by decide) ?_
          refine zj_getr (r := 1) (zdk ttX11_clockRuns 27 rfl rfl) zf_RX11_7 rfl (k_M s20) (rfM_1 s20) ?_
          refine zj_iconst (zdk ttX11_clockRuns 28 rfl rfl) ?_
          have b735 : -2147483648 ≤ (h19.2 1 3) ∧ (h19.2 1 3) ≤ 2147483647 := (rM_b s20 1 3 (by omega)).1
          refine zj_iald (v := (h19.2 1 3)) (zdk ttX11_clockRuns 29 rfl rfl) (kaM_1 s20) (by decide) (by omega) rfl ?_
          refine zj_iload_n (zdk ttX11_clockRuns 30 rfl rfl) rfl ?_
          have j738 : ∀ (y737 : Int), (-1 ≤ y737 ∧ y737 ≤ 1) → zJ shM l yX11_clockRuns cX11_clockRuns 6 (some .int) (rmL 2) 0 0 (q_X11_clockRuns h) 0 0 59 [some (.inr 0), some (.inl v9), some (.inl y14), some (.inl x17), some (.inl x18), none] [.inl y737, .inl (h19.2 1 3)] h19 := by
            intro y737 b739
            refine zj_iadd (zdk ttX11_clockRuns 35 rfl rfl) ?_
            refine zj_wrap ?_
            have b740 := zwp_in ((h19.2 1 3) + y737)
            refine zj_istore (L' := [some (.inr 0), some (.inl v9), some (.inl y14), some (.inl x17), some (.inl x18), some (.inl (zwp ((h19.2 1 3) + y737)))]) (zdk ttX11_clockRuns 36 rfl rfl) (by decide) rfl ?_
            refine zj_iload (zdk ttX11_clockRuns 37 rfl rfl) rfl ?_
            refine zj_sipush (zdk ttX11_clockRuns 38 rfl rfl) (by decide) ?_
            have j750 : ∀ (h747 : zM), okM h747 → zfr [] [1, 6] h h747 → zJ shM l yX11_clockRuns cX11_clockRuns 6 (some .int) (rmL 2) 0 0 (q_X11_clockRuns h) 0 0 86 [some (.inr 0), some (.inl v9), some (.inl y14), some (.inl x17), some (.inl x18), some (.inl (zwp ((h19.2 1 3) + y737)))] [] h747 := by
              intro h747 s748 f749
              refine zj_iload (zdk ttX11_clockRuns 50 rfl rfl) rfl ?_
              have j760 : ∀ (h757 : zM), okM h757 → zfr [] [1, 6] h h757 → zJ shM l yX11_clockRuns cX11_clockRuns 6 (some .int) (rmL 2) 0 0 (q_X11_clockRuns h) 0 0 107 [some (.inr 0), some (.inl v9), some (.inl y14), some (.inl x17), some (.inl x18), some (.inl (zwp ((h19.2 1 3) + y737)))] [] h757 := by
                intro h757 s758 f759
                refine zj_aload_n (zdk ttX11_clockRuns 62 rfl rfl) rfl (by decide) ?_
                refine zj_getr (r := 1) (zdk ttX11_clockRuns 63 rfl rfl) zf_RX11_7 rfl (k_M s758) (rfM_1 s758) ?_
                refine zj_iconst (zdk ttX11_clockRuns 64 rfl rfl) ?_
                refine zj_iload (zdk ttX11_clockRuns 65 rfl rfl) rfl ?_
                refine zj_sipush (zdk ttX11_clockRuns 66 rfl rfl) (by decide) ?_
                refine zj_iadd (zdk ttX11_clockRuns 67 rfl rfl) ?_
                refine zj_wrap ?_
                have b761 := zwp_in ((zwp ((h19.2 1 3) + y737)) + 720)
                refine zj_sipush (zdk ttX11_clockRuns 68 rfl rfl) (by decide) ?_
                refine zj_irem (zdk ttX11_clockRuns 69 rfl rfl) (by omega) (by decide) (by omega) ?_
                have b762 := ztm_c (zwp ((zwp ((h19.2 1 3) + y737)) + 720)) 720 (by decide)
                refine zj_iast (zdk ttX11_clockRuns 70 rfl rfl) (kaM_1 s758) (by decide) (by omega) (fun h763 e764 => ?_)
                refine zj_iload_n (zdk ttX11_clockRuns 71 rfl rfl) rfl ?_
                refine zj_if_eq (t := 140) (zdk ttX11_clockRuns 72 rfl rfl) (by decide) (by omega) (fun c765 => ?_) (fun c765 => ?_)
                · refine zj_iinc (L' := [some (.inr 0), some (.inl v9), some (.inl y14), some (.inl x17), some (.inl (x18 + 1)), some (.inl (zwp ((h19.2 1 3) + y737)))]) (zdk ttX11_clockRuns 82 rfl rfl) rfl (by decide) rfl ?_
                  refine zj_goto (t := 38) (zdk ttX11_clockRuns 83 rfl rfl) (by decide) ?_
                  refine zj_kill (k := 5) (L' := [some (.inr 0), some (.inl v9), some (.inl y14), some (.inl x17), some (.inl (x18 + 1)), none]) rfl ?_
                  have s766 : okM h763 := okM_wr s758 e764 (by decide) (by omega) (by omega)
                  have f767 : zfr [] [1, 6] h h763 := zfr_wa f759 e764 rfl
                  exact ih617  x17 (x18 + 1) h763 (by omega) (by omega) s766 f767 (by omega)
                · refine zj_iload_n (zdk ttX11_clockRuns 73 rfl rfl) rfl ?_
                  refine zj_aload_n (zdk ttX11_clockRuns 74 rfl rfl) rfl (by decide) ?_
                  refine zj_aload_n (zdk ttX11_clockRuns 75 rfl rfl) rfl (by decide) ?_
                  have s768 : okM h763 := okM_wr s758 e764 (by decide) (by omega) (by omega)
                  refine zj_getr (r := 1) (zdk ttX11_clockRuns 76 rfl rfl) zf_RX11_7 rfl (k_M s768) (rfM_1 s768) ?_
                  refine zj_iconst (zdk ttX11_clockRuns 77 rfl rfl) ?_
                  refine zj_iald (v := ((zwp ((zwp ((h19.2 1 3) + y737)) + 720)).tmod 720)) (zdk ttX11_clockRuns 78 rfl rfl) (kaM_1 s768) (by decide) (by omega) (zwr_v e764) ?_
                  refine zj_callV (av := [.inl ((zwp ((zwp ((h19.2 1 3) + y737)) + 720)).tmod 720)]) (st := [.inl x17]) (zdk ttX11_clockRuns 79 rfl rfl) mb_X11_strokesAt mv_RX11_374 (ci := 11) rfl rfl (k_M s768) rfl rfl (Nat.le_of_ble_eq_true rfl) (s_X11_strokesAt l h763 ((zwp ((zwp ((h19.2 1 3) + y737)) + 720)).tmod 720) s768 (by omega)) (rm_ok (by decide) (by decide)) (zq_i fun v770 h771 q769 => ?_)
                  obtain ⟨rfl, b772⟩ := q769
                  have b773 : -35791394 ≤ v770 ∧ v770 ≤ 35791394 := by omega
                  refine zj_iadd (zdk ttX11_clockRuns 80 rfl rfl) ?_
                  refine zj_wrap ?_
                  have b774 := zwp_in (x17 + v770)
                  refine zj_istore_n (L' := [some (.inr 0), some (.inl v9), some (.inl y14), some (.inl (zwp (x17 + v770))), some (.inl x18), some (.inl (zwp ((h19.2 1 3) + y737)))]) (zdk ttX11_clockRuns 81 rfl rfl) (by decide) rfl ?_
                  refine zj_iinc (L' := [some (.inr 0), some (.inl v9), some (.inl y14), some (.inl (zwp (x17 + v770))), some (.inl (x18 + 1)), some (.inl (zwp ((h19.2 1 3) + y737)))]) (zdk ttX11_clockRuns 82 rfl rfl) rfl (by decide) rfl ?_
                  refine zj_goto (t := 38) (zdk ttX11_clockRuns 83 rfl rfl) (by decide) ?_
                  refine zj_kill (k := 5) (L' := [some (.inr 0), some (.inl v9), some (.inl y14), some (.inl (zwp (x17 + v770))), some (.inl (x18 + 1)), none]) rfl ?_
                  have f775 : zfr [] [1, 6] h h763 := zfr_wa f759 e764 rfl
                  exact ih617  (zwp (x17 + v770)) (x18 + 1) h763 (by omega) (by omega) s768 f775 (by omega)
              refine zj_if_ge (t := 107) (zdk ttX11_clockRuns 51 rfl rfl) (by decide) (by omega) (fun c751 => ?_) (fun c751 => ?_)
              · exact j760 h747 s748 f749
              · refine zj_aload_n (zdk ttX11_clockRuns 52 rfl rfl) rfl (by decide) ?_
                refine zj_getr (r := 1) (zdk ttX11_clockRuns 53 rfl rfl) zf_RX11_7 rfl (k_M s748) (rfM_1 s748) ?_
                refine zj_bipush (zdk ttX11_clockRuns 54 rfl rfl) (by decide) ?_
                refine zj_aload_n (zdk ttX11_clockRuns 55 rfl rfl) rfl (by decide) ?_
                refine zj_getr (r := 1) (zdk ttX11_clockRuns 56 rfl rfl) zf_RX11_7 rfl (k_M s748) (rfM_1 s748) ?_
                refine zj_bipush (zdk ttX11_clockRuns 57 rfl rfl) (by decide) ?_
                have b777 : -2147483648 ≤ (h747.2 1 6) ∧ (h747.2 1 6) ≤ 2147483647 := (rM_b s748 1 6 (by omega)).1
                refine zj_iald (v := (h747.2 1 6)) (zdk ttX11_clockRuns 58 rfl rfl) (kaM_1 s748) (by decide) (by omega) rfl ?_
                refine zj_iconst (zdk ttX11_clockRuns 59 rfl rfl) ?_
                refine zj_isub (zdk ttX11_clockRuns 60 rfl rfl) ?_
                refine zj_wrap ?_
                have b778 := zwp_in ((h747.2 1 6) - 1)
                refine zj_iast (zdk ttX11_clockRuns 61 rfl rfl) (kaM_1 s748) (by decide) (by omega) (fun h779 e780 => ?_)
                have s781 : okM h779 := okM_wr s748 e780 (by decide) (by omega) (by omega)
                have f782 : zfr [] [1, 6] h h779 := zfr_wa f749 e780 rfl
                exact j760 h779 s781 f782
            refine zj_icmp_ne (t := 86) (zdk ttX11_clockRuns 39 rfl rfl) (by decide) (by omega) (by decide) (fun c741 => ?_) (fun c741 => ?_)
            · exact j750 h19 s20 f21
            · refine zj_aload_n (zdk ttX11_clockRuns 40 rfl rfl) rfl (by decide) ?_
              refine zj_getr (r := 1) (zdk ttX11_clockRuns 41 rfl rfl) zf_RX11_7 rfl (k_M s20) (rfM_1 s20) ?_
              refine zj_bipush (zdk ttX11_clockRuns 42 rfl rfl) (by decide) ?_
              refine zj_aload_n (zdk ttX11_clockRuns 43 rfl rfl) rfl (by decide) ?_
              refine zj_getr (r := 1) (zdk ttX11_clockRuns 44 rfl rfl) zf_RX11_7 rfl (k_M s20) (rfM_1 s20) ?_
              refine zj_bipush (zdk ttX11_clockRuns 45 rfl rfl) (by decide) ?_
              have b784 : -2147483648 ≤ (h19.2 1 6) ∧ (h19.2 1 6) ≤ 2147483647 := (rM_b s20 1 6 (by omega)).1
              refine zj_iald (v := (h19.2 1 6)) (zdk ttX11_clockRuns 46 rfl rfl) (kaM_1 s20) (by decide) (by omega) rfl ?_
              refine zj_iconst (zdk ttX11_clockRuns 47 rfl rfl) ?_
              refine zj_iadd (zdk ttX11_clockRuns 48 rfl rfl) ?_
              refine zj_wrap ?_
              have b785 := zwp_in ((h19.2 1 6) + 1)
              refine zj_iast (zdk ttX11_clockRuns 49 rfl rfl) (kaM_1 s20) (by decide) (by omega) (fun h786 e787 => ?_)
              have s788 : okM h786 := okM_wr s20 e787 (by decide) (by omega) (by omega)
              have f789 : zfr [] [1, 6] h h786 := zfr_wa f21 e787 rfl
              exact j750 h786 s788 f789
          refine zj_if_eq (t := 58) (zdk ttX11_clockRuns 31 rfl rfl) (by decide) (by omega) (fun c736 => ?_) (fun c736 => ?_)
          · refine zj_iconst (zdk ttX11_clockRuns 34 rfl rfl) ?_
            exact j738 (-1) (by omega)
          · refine zj_iconst (zdk ttX11_clockRuns 32 rfl rfl) ?_
            refine zj_goto (t := 59) (zdk ttX11_clockRuns 33 rfl rfl) (by decide) ?_
            exact j738 1 (by omega)
    exact lp613 _ 0 0 h (by omega) (by omega) s0 (zfr_r _ _ _) (Nat.lt_succ_self _)
  refine zj_if_le (t := 31) (zdk ttX11_clockRuns 14 rfl rfl) (by decide) (by omega) (fun c13 => ?_) (fun c13 => ?_)
  · refine zj_iconst (zdk ttX11_clockRuns 17 rfl rfl) ?_
    exact j15 0 (by omega)
  · refine zj_iconst (zdk ttX11_clockRuns 15 rfl rfl) ?_
    refine zj_goto (t := 32) (zdk ttX11_clockRuns 16 rfl rfl) (by decide) ?_
    exact j15 1 (by omega)

abbrev tX11_turns : List (Nat × Instr × Nat) := [(0, .aload_n 0, 1), (1, .getfield 93, 3), (4, .aload_n 0, 1), (5, .iload_n 1, 1), (6, .iload_n 2, 1), (7, .iload_n 3, 1), (8, .invokevirtual 415, 3), (11, .aload_n 0, 1), (12, .aload_n 0, 1), (13, .getfield 93, 3), (16, .aload_n 0, 1), (17, .iload_n 1, 1), (18, .iload_n 2, 1), (19, .iload_n 3, 1), (20, .invokevirtual 415, 3), (23, .iaload, 1), (24, .iload 4, 2), (26, .invokevirtual 371, 3), (29, .iastore, 1), (30, .return_, 1)]
theorem ttX11_turns : zdt cX11_turns tX11_turns = true := by decide +kernel
abbrev q_X11_turns (h : zM) (p1 : Int) (p2 : Int) (p3 : Int) (p4 : Int) : Option zV → zM → Prop := zqv fun h' => okM h' ∧ zfr [] [27] h h'
set_option maxRecDepth 100000 in
set_option maxHeartbeats 4000000 in
theorem s_X11_turns (l : Launch) (h : zM) (p1 : Int) (p2 : Int) (p3 : Int) (p4 : Int) (s0 : okM h) (b_p1 : 0 ≤ p1 ∧ p1 ≤ 120) (b_p2 : 0 ≤ p2 ∧ p2 ≤ 30) (b_p3 : 0 ≤ p3 ∧ p3 ≤ 30) (b_p4 : (-2147483648) ≤ p4 ∧ p4 ≤ 2147483647) : zT shM l yX11_turns cX11_turns 5 none (rmL 2) 0 0 [.inr 0, .inl p1, .inl p2, .inl p3, .inl p4] h (q_X11_turns h p1 p2 p3 p4) := by
  refine zT_of (by decide +kernel) (L0 := [some (.inr 0), some (.inl p1), some (.inl p2), some (.inl p3), some (.inl p4)]) rfl (Nat.le_of_ble_eq_true rfl) ?_
  refine zj_aload_n (zdk ttX11_turns 0 rfl rfl) rfl (by decide) ?_
  refine zj_getr (r := 27) (zdk ttX11_turns 1 rfl rfl) zf_RX11_93 rfl (k_M s0) (rfM_48 s0) ?_
  refine zj_aload_n (zdk ttX11_turns 2 rfl rfl) rfl (by decide) ?_
  refine zj_iload_n (zdk ttX11_turns 3 rfl rfl) rfl ?_
  refine zj_iload_n (zdk ttX11_turns 4 rfl rfl) rfl ?_
  refine zj_iload_n (zdk ttX11_turns 5 rfl rfl) rfl ?_
  refine zj_callV (av := [.inl p1, .inl p2, .inl p3]) (st := [.inr 27]) (zdk ttX11_turns 6 rfl rfl) mb_X11_glassAt mv_RX11_415 (ci := 11) rfl rfl (k_M s0) rfl rfl (Nat.le_of_ble_eq_true rfl) (s_X11_glassAt l h p1 p2 p3 s0 (by omega) (by omega) (by omega)) (rm_ok (by decide) (by decide)) (zq_i fun v2 h3 q1 => ?_)
  obtain ⟨rfl, rfl, b4⟩ := q1
  refine zj_aload_n (zdk ttX11_turns 7 rfl rfl) rfl (by decide) ?_
  refine zj_aload_n (zdk ttX11_turns 8 rfl rfl) rfl (by decide) ?_
  refine zj_getr (r := 27) (zdk ttX11_turns 9 rfl rfl) zf_RX11_93 rfl (k_M s0) (rfM_48 s0) ?_
  refine zj_aload_n (zdk ttX11_turns 10 rfl rfl) rfl (by decide) ?_
  refine zj_iload_n (zdk ttX11_turns 11 rfl rfl) rfl ?_
  refine zj_iload_n (zdk ttX11_turns 12 rfl rfl) rfl ?_
  refine zj_iload_n (zdk ttX11_turns 13 rfl rfl) rfl ?_
  refine zj_callV (av := [.inl p1, .inl p2, .inl p3]) (st := [.inr 27, .inr 0, .inl (((961 * p1) + (31 * p2)) + p3), .inr 27]) (zdk ttX11_turns 14 rfl rfl) mb_X11_glassAt mv_RX11_415 (ci := 11) rfl rfl (k_M s0) rfl rfl (Nat.le_of_ble_eq_true rfl) (s_X11_glassAt l h p1 p2 p3 s0 (by omega) (by omega) (by omega)) (rm_ok (by decide) (by decide)) (zq_i fun v6 h7 q5 => ?_)
  obtain ⟨rfl, rfl, b8⟩ := q5
  have b9 : -2147483648 ≤ (h.2 27 (((961 * p1) + (31 * p2)) + p3)) ∧ (h.2 27 (((961 * p1) + (31 * p2)) + p3)) ≤ 2147483647 := abM_27 s0 (((961 * p1) + (31 * p2)) + p3)
  refine zj_iald (v := (h.2 27 (((961 * p1) + (31 * p2)) + p3))) (zdk ttX11_turns 15 rfl rfl) (kaM_27 s0) (by decide) (by omega) rfl ?_
  refine zj_iload (zdk ttX11_turns 16 rfl rfl) rfl ?_
  refine zj_callV (av := [.inl (h.2 27 (((961 * p1) + (31 * p2)) + p3)), .inl p4]) (st := [.inl (((961 * p1) + (31 * p2)) + p3), .inr 27]) (zdk ttX11_turns 17 rfl rfl) mb_X11_lesser mv_RX11_371 (ci := 11) rfl rfl (k_M s0) rfl rfl (Nat.le_of_ble_eq_true rfl) (s_X11_lesser l h (h.2 27 (((961 * p1) + (31 * p2)) + p3)) p4 s0 (by omega) (by omega)) (rm_ok (by decide) (by decide)) (zq_i fun v11 h12 q10 => ?_)
  obtain ⟨rfl, b13⟩ := q10
  have b14 : -2147483648 ≤ v11 ∧ v11 ≤ 2147483647 := by omega
  refine zj_iast (zdk ttX11_turns 18 rfl rfl) (kaM_27 s0) (by decide) (by omega) (fun h15 e16 => ?_)
  have s17 : okM h15 := awM_27 s0 e16 (by omega) (by unfold nsp; omega)
  have f18 : zfr [] [27] h h15 := zfr_wa (zfr_r _ _ _) e16 rfl
  exact zj_vret rfl (zdk ttX11_turns 19 rfl rfl) (Nat.le_refl _) (Nat.le_refl _) ⟨rfl, s17, f18⟩
