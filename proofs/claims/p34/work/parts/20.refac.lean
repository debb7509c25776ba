abbrev tX11_notes : List (Nat × Instr × Nat) := [(0, .aload_n 0, 1), (1, .getfield 126, 3), (4, .ifCond .ne 15, 3), (7, .aload_n 0, 1), (8, .getfield 7, 3), (11, .iconst 2, 1), (12, .iaload, 1), (13, .sipush 150, 3), (16, .if_icmp .ne 4, 3), (19, .return_, 1), (20, .iconst 4, 1), (21, .aload_n 0, 1), (22, .getfield 7, 3), (25, .iconst 2, 1), (26, .iaload, 1), (27, .imul, 1), (28, .istore 4, 2), (30, .aload_n 0, 1), (31, .getfield 25, 3), (34, .iload 4, 2), (36, .aload_n 0, 1), (37, .getfield 7, 3), (40, .iconst 0, 1), (41, .iaload, 1), (42, .iastore, 1), (43, .aload_n 0, 1), (44, .getfield 25, 3), (47, .iload 4, 2), (49, .iconst 1, 1), (50, .iadd, 1), (51, .iload_n 1, 1), (52, .iastore, 1), (53, .aload_n 0, 1), (54, .getfield 25, 3), (57, .iload 4, 2), (59, .iconst 2, 1), (60, .iadd, 1), (61, .iload_n 2, 1), (62, .iastore, 1), (63, .aload_n 0, 1), (64, .getfield 25, 3), (67, .iload 4, 2), (69, .iconst 3, 1), (70, .iadd, 1), (71, .iload_n 3, 1), (72, .iastore, 1), (73, .aload_n 0, 1), (74, .getfield 7, 3), (77, .iconst 2, 1), (78, .aload_n 0, 1), (79, .getfield 7, 3), (82, .iconst 2, 1), (83, .iaload, 1), (84, .iconst 1, 1), (85, .iadd, 1), (86, .iastore, 1), (87, .return_, 1)]
theorem ttX11_notes : zdt cX11_notes tX11_notes = true := by decide +kernel
abbrev tX11_asks : List (Nat × Instr × Nat) := [(0, .aload_n 0, 1), (1, .getfield 71, 3), (4, .iconst 0, 1), (5, .aload_n 0, 1), (6, .getfield 19, 3), (9, .iload_n 1, 1), (10, .iaload, 1), (11, .iastore, 1), (12, .aload_n 0, 1), (13, .getfield 71, 3), (16, .iconst 1, 1), (17, .aload_n 0, 1), (18, .getfield 22, 3), (21, .iload_n 1, 1), (22, .iaload, 1), (23, .iastore, 1), (24, .aload_n 0, 1), (25, .getfield 71, 3), (28, .iconst 2, 1), (29, .aload_n 0, 1), (30, .getfield 7, 3), (33, .bipush 45, 2), (35, .iload_n 1, 1), (36, .iadd, 1), (37, .iaload, 1), (38, .iastore, 1), (39, .aload_n 0, 1), (40, .getfield 71, 3), (43, .iconst 3, 1), (44, .aload_n 0, 1), (45, .aload_n 0, 1), (46, .invokevirtual 313, 3), (49, .invokevirtual 316, 3), (52, .iastore, 1), (53, .aload_n 0, 1), (54, .getfield 71, 3), (57, .iconst 4, 1), (58, .aload_n 0, 1), (59, .getfield 132, 3), (62, .iastore, 1), (63, .aload_n 0, 1), (64, .getfield 71, 3), (67, .iconst 5, 1), (68, .aload_n 0, 1), (69, .aload_n 0, 1), (70, .getfield 7, 3), (73, .iconst 4, 1), (74, .iaload, 1), (75, .sipush (-9999), 3), (78, .sipush 9999, 3), (81, .invokevirtual 319, 3), (84, .iastore, 1), (85, .aload_n 0, 1), (86, .getfield 71, 3), (89, .bipush 6, 2), (91, .aload_n 0, 1), (92, .getfield 7, 3), (95, .iconst 3, 1), (96, .iaload, 1), (97, .iastore, 1), (98, .aload_n 0, 1), (99, .getfield 71, 3), (102, .bipush 7, 2), (104, .iconst 1, 1), (105, .aload_n 0, 1), (106, .getfield 7, 3), (109, .bipush 7, 2), (111, .iaload, 1), (112, .isub, 1), (113, .iastore, 1), (114, .aload_n 0, 1), (115, .getfield 71, 3), (118, .bipush 8, 2), (120, .aload_n 0, 1), (121, .iload_n 1, 1), (122, .invokevirtual 322, 3), (125, .iastore, 1), (126, .aload_n 0, 1), (127, .getfield 71, 3), (130, .bipush 9, 2), (132, .aload_n 0, 1), (133, .getfield 7, 3), (136, .iconst 0, 1), (137, .iaload, 1), (138, .iastore, 1), (139, .return_, 1)]
theorem ttX11_asks : zdt cX11_asks tX11_asks = true := by decide +kernel
abbrev q_X11_asks (h : zM) (p1 : Int) : Option zV → zM → Prop := zqv fun h' => okM h' ∧ zfr [] [20] h h'
set_option maxRecDepth 100000 in
set_option maxHeartbeats 4000000 in
theorem s_X11_asks (l : Launch) (h : zM) (p1 : Int) (s0 : okM h) (b_p1 : 0 ≤ p1 ∧ p1 ≤ 17) : zT shM l yX11_asks cX11_asks 2 none (rmL 3) 0 0 [.inr 0, .inl p1] h (q_X11_asks h p1) := by
  refine zT_of (by decide +kernel) (L0 := [some (.inr 0), some (.inl p1)]) rfl (Nat.le_of_ble_eq_true rfl) ?_
  refine zj_aload_n (zdk ttX11_asks 0 rfl rfl) rfl (by decide) ?_
  refine zj_getr (r := 20) (zdk ttX11_asks 1 rfl rfl) zf_RX11_71 rfl (k_M s0) (rfM_39 s0) ?_
  refine zj_iconst (zdk ttX11_asks 2 rfl rfl) ?_
  refine zj_aload_n (zdk ttX11_asks 3 rfl rfl) rfl (by decide) ?_
  refine zj_getr (r := 4) (zdk ttX11_asks 4 rfl rfl) zf_RX11_19 rfl (k_M s0) (rfM_7 s0) ?_
  refine zj_iload_n (zdk ttX11_asks 5 rfl rfl) rfl ?_
  have b1 : -2147483648 ≤ (h.2 4 p1) ∧ (h.2 4 p1) ≤ 2147483647 := abM_4 s0 p1
  refine zj_iald (v := (h.2 4 p1)) (zdk ttX11_asks 6 rfl rfl) (kaM_4 s0) (by decide) (by omega) rfl ?_
  refine zj_iast (zdk ttX11_asks 7 rfl rfl) (kaM_20 s0) (by decide) (by omega) (fun h2 e3 => ?_)
  refine zj_aload_n (zdk ttX11_asks 8 rfl rfl) rfl (by decide) ?_
  have s4 : okM h2 := awM_20 s0 e3 (by omega) (by unfold nsp; omega)
  refine zj_getr (r := 20) (zdk ttX11_asks 9 rfl rfl) zf_RX11_71 rfl (k_M s4) (rfM_39 s4) ?_
  refine zj_iconst (zdk ttX11_asks 10 rfl rfl) ?_
  refine zj_aload_n (zdk ttX11_asks 11 rfl rfl) rfl (by decide) ?_
  refine zj_getr (r := 5) (zdk ttX11_asks 12 rfl rfl) zf_RX11_22 rfl (k_M s4) (rfM_8 s4) ?_
  refine zj_iload_n (zdk ttX11_asks 13 rfl rfl) rfl ?_
  have b5 : -2147483648 ≤ (h.2 5 p1) ∧ (h.2 5 p1) ≤ 2147483647 := abM_5 s0 p1
  refine zj_iald (v := (h.2 5 p1)) (zdk ttX11_asks 14 rfl rfl) (kaM_5 s4) (by decide) (by omega) (zwr_r e3 (by first | decide | exact (absurd ·.1 (by decide)) | exact (absurd ·.2 (by decide)) | omega)) ?_
  refine zj_iast (zdk ttX11_asks 15 rfl rfl) (kaM_20 s4) (by decide) (by omega) (fun h6 e7 => ?_)
  refine zj_aload_n (zdk ttX11_asks 16 rfl rfl) rfl (by decide) ?_
  have s8 : okM h6 := awM_20 s4 e7 (by omega) (by unfold nsp; omega)
  refine zj_getr (r := 20) (zdk ttX11_asks 17 rfl rfl) zf_RX11_71 rfl (k_M s8) (rfM_39 s8) ?_
  refine zj_iconst (zdk ttX11_asks 18 rfl rfl) ?_
  refine zj_aload_n (zdk ttX11_asks 19 rfl rfl) rfl (by decide) ?_
  refine zj_getr (r := 1) (zdk ttX11_asks 20 rfl rfl) zf_RX11_7 rfl (k_M s8) (rfM_1 s8) ?_
  refine zj_bipush (zdk ttX11_asks 21 rfl rfl) (by decide) ?_
  refine zj_iload_n (zdk ttX11_asks 22 rfl rfl) rfl ?_
  refine zj_iadd (zdk ttX11_asks 23 rfl rfl) ?_
  have b9 := (rM_b s0 1 (45 + p1) (by omega)).2
  have b10 : -2147483648 ≤ (h.2 1 (45 + p1)) ∧ (h.2 1 (45 + p1)) ≤ 2147483647 := (rM_b s0 1 (45 + p1) (by omega)).1
  refine zj_iald (v := (h.2 1 (45 + p1))) (zdk ttX11_asks 24 rfl rfl) (kaM_1 s8) (by decide) (by omega) ((zwr_r e7 (by first | decide | exact (absurd ·.1 (by decide)) | exact (absurd ·.2 (by decide)) | omega)).trans (zwr_r e3 (by first | decide | exact (absurd ·.1 (by decide)) | exact (absurd ·.2 (by decide)) | omega))) ?_
  refine zj_iast (zdk ttX11_asks 25 rfl rfl) (kaM_20 s8) (by decide) (by omega) (fun h11 e12 => ?_)
  refine zj_aload_n (zdk ttX11_asks 26 rfl rfl) rfl (by decide) ?_
  have s13 : okM h11 := awM_20 s8 e12 (by omega) (by unfold nsp; omega)
  refine zj_getr (r := 20) (zdk ttX11_asks 27 rfl rfl) zf_RX11_71 rfl (k_M s13) (rfM_39 s13) ?_
  refine zj_iconst (zdk ttX11_asks 28 rfl rfl) ?_
  refine zj_aload_n (zdk ttX11_asks 29 rfl rfl) rfl (by decide) ?_
  refine zj_aload_n (zdk ttX11_asks 30 rfl rfl) rfl (by decide) ?_
  refine zj_callV (av := []) (st := [.inr 0, .inl 3, .inr 20]) (zdk ttX11_asks 31 rfl rfl) mb_X11_hereSet mv_RX11_313 (ci := 11) rfl rfl (k_M s13) rfl rfl (Nat.le_of_ble_eq_true rfl) (s_X11_hereSet l h11 s13) (rm_ok (by decide) (by decide)) (zq_i fun v15 h16 q14 => ?_)
  obtain ⟨rfl, b17⟩ := q14
  refine zj_callV (av := [.inl v15]) (st := [.inl 3, .inr 20]) (zdk ttX11_asks 32 rfl rfl) mb_X11_onesOf mv_RX11_316 (ci := 11) rfl rfl (k_M s13) rfl rfl (Nat.le_of_ble_eq_true rfl) (s_X11_onesOf l h11 v15 s13 (by omega)) (rm_ok (by decide) (by decide)) (zq_i fun v19 h20 q18 => ?_)
  obtain ⟨rfl, b21⟩ := q18
  refine zj_iast (zdk ttX11_asks 33 rfl rfl) (kaM_20 s13) (by decide) (by omega) (fun h22 e23 => ?_)
  refine zj_aload_n (zdk ttX11_asks 34 rfl rfl) rfl (by decide) ?_
  have s24 : okM h22 := awM_20 s13 e23 (by omega) (by unfold nsp; omega)
  refine zj_getr (r := 20) (zdk ttX11_asks 35 rfl rfl) zf_RX11_71 rfl (k_M s24) (rfM_39 s24) ?_
  refine zj_iconst (zdk ttX11_asks 36 rfl rfl) ?_
  refine zj_aload_n (zdk ttX11_asks 37 rfl rfl) rfl (by decide) ?_
  have b25 : 0 ≤ (h.2 0 6) ∧ (h.2 0 6) ≤ 18 := fM_6 s0
  refine zj_geti (v := (h.2 0 6)) (zdk ttX11_asks 38 rfl rfl) zf_RX11_132 rfl (k_M s24) ((((zwr_r e23 (by first | decide | exact (absurd ·.1 (by decide)) | exact (absurd ·.2 (by decide)) | omega)).trans (zwr_r e12 (by first | decide | exact (absurd ·.1 (by decide)) | exact (absurd ·.2 (by decide)) | omega))).trans (zwr_r e7 (by first | decide | exact (absurd ·.1 (by decide)) | exact (absurd ·.2 (by decide)) | omega))).trans (zwr_r e3 (by first | decide | exact (absurd ·.1 (by decide)) | exact (absurd ·.2 (by decide)) | omega))) ?_
  refine zj_iast (zdk ttX11_asks 39 rfl rfl) (kaM_20 s24) (by decide) (by omega) (fun h26 e27 => ?_)
  refine zj_aload_n (zdk ttX11_asks 40 rfl rfl) rfl (by decide) ?_
  have s28 : okM h26 := awM_20 s24 e27 (by omega) (by unfold nsp; omega)
  refine zj_getr (r := 20) (zdk ttX11_asks 41 rfl rfl) zf_RX11_71 rfl (k_M s28) (rfM_39 s28) ?_
  refine zj_iconst (zdk ttX11_asks 42 rfl rfl) ?_
  refine zj_aload_n (zdk ttX11_asks 43 rfl rfl) rfl (by decide) ?_
  refine zj_aload_n (zdk ttX11_asks 44 rfl rfl) rfl (by decide) ?_
  refine zj_getr (r := 1) (zdk ttX11_asks 45 rfl rfl) zf_RX11_7 rfl (k_M s28) (rfM_1 s28) ?_
  refine zj_iconst (zdk ttX11_asks 46 rfl rfl) ?_
  have b30 : -2147483648 ≤ (h.2 1 4) ∧ (h.2 1 4) ≤ 2147483647 := (rM_b s0 1 4 (by omega)).1
  refine zj_iald (v := (h.2 1 4)) (zdk ttX11_asks 47 rfl rfl) (kaM_1 s28) (by decide) (by omega) (((((zwr_r e27 (by first | decide | exact (absurd ·.1 (by decide)) | exact (absurd ·.2 (by decide)) | omega)).trans (zwr_r e23 (by first | decide | exact (absurd ·.1 (by decide)) | exact (absurd ·.2 (by decide)) | omega))).trans (zwr_r e12 (by first | decide | exact (absurd ·.1 (by decide)) | exact (absurd ·.2 (by decide)) | omega))).trans (zwr_r e7 (by first | decide | exact (absurd ·.1 (by decide)) | exact (absurd ·.2 (by decide)) | omega))).trans (zwr_r e3 (by first | decide | exact (absurd ·.1 (by decide)) | exact (absurd ·.2 (by decide)) | omega))) ?_
  refine zj_sipush (zdk ttX11_asks 48 rfl rfl) (by decide) ?_
  refine zj_sipush (zdk ttX11_asks 49 rfl rfl) (by decide) ?_
  refine zj_callV (av := [.inl (h.2 1 4), .inl (-9999), .inl 9999]) (st := [.inl 5, .inr 20]) (zdk ttX11_asks 50 rfl rfl) mb_X11_held mv_RX11_319 (ci := 11) rfl rfl (k_M s28) rfl rfl (Nat.le_of_ble_eq_true rfl) (s_X11_held l h26 (h.2 1 4) (-9999) 9999 s28 (by omega) (by omega) (by omega)) (rm_ok (by decide) (by decide)) (zq_i fun v32 h33 q31 => ?_)
  obtain ⟨rfl, b34⟩ := q31
  have b35 : -9999 ≤ v32 ∧ v32 ≤ 9999 := by omega
  refine zj_iast (zdk ttX11_asks 51 rfl rfl) (kaM_20 s28) (by decide) (by omega) (fun h36 e37 => ?_)
  refine zj_aload_n (zdk ttX11_asks 52 rfl rfl) rfl (by decide) ?_
  have s38 : okM h36 := awM_20 s28 e37 (by omega) (by unfold nsp; omega)
  refine zj_getr (r := 20) (zdk ttX11_asks 53 rfl rfl) zf_RX11_71 rfl (k_M s38) (rfM_39 s38) ?_
  refine zj_bipush (zdk ttX11_asks 54 rfl rfl) (by decide) ?_
  refine zj_aload_n (zdk ttX11_asks 55 rfl rfl) rfl (by decide) ?_
  refine zj_getr (r := 1) (zdk ttX11_asks 56 rfl rfl) zf_RX11_7 rfl (k_M s38) (rfM_1 s38) ?_
  refine zj_iconst (zdk ttX11_asks 57 rfl rfl) ?_
  have b40 : -2147483648 ≤ (h.2 1 3) ∧ (h.2 1 3) ≤ 2147483647 := (rM_b s0 1 3 (by omega)).1
  refine zj_iald (v := (h.2 1 3)) (zdk ttX11_asks 58 rfl rfl) (kaM_1 s38) (by decide) (by omega) ((((((zwr_r e37 (by first | decide | exact (absurd ·.1 (by decide)) | exact (absurd ·.2 (by decide)) | omega)).trans (zwr_r e27 (by first | decide | exact (absurd ·.1 (by decide)) | exact (absurd ·.2 (by decide)) | omega))).trans (zwr_r e23 (by first | decide | exact (absurd ·.1 (by decide)) | exact (absurd ·.2 (by decide)) | omega))).trans (zwr_r e12 (by first | decide | exact (absurd ·.1 (by decide)) | exact (absurd ·.2 (by decide)) | omega))).trans (zwr_r e7 (by first | decide | exact (absurd ·.1 (by decide)) | exact (absurd ·.2 (by decide)) | omega))).trans (zwr_r e3 (by first | decide | exact (absurd ·.1 (by decide)) | exact (absurd ·.2 (by decide)) | omega))) ?_
  refine zj_iast (zdk ttX11_asks 59 rfl rfl) (kaM_20 s38) (by decide) (by omega) (fun h41 e42 => ?_)
  refine zj_aload_n (zdk ttX11_asks 60 rfl rfl) rfl (by decide) ?_
  have s43 : okM h41 := awM_20 s38 e42 (by omega) (by unfold nsp; omega)
  refine zj_getr (r := 20) (zdk ttX11_asks 61 rfl rfl) zf_RX11_71 rfl (k_M s43) (rfM_39 s43) ?_
  refine zj_bipush (zdk ttX11_asks 62 rfl rfl) (by decide) ?_
  refine zj_iconst (zdk ttX11_asks 63 rfl rfl) ?_
  refine zj_aload_n (zdk ttX11_asks 64 rfl rfl) rfl (by decide) ?_
  refine zj_getr (r := 1) (zdk ttX11_asks 65 rfl rfl) zf_RX11_7 rfl (k_M s43) (rfM_1 s43) ?_
  refine zj_bipush (zdk ttX11_asks 66 rfl rfl) (by decide) ?_
  have b45 : -2147483648 ≤ (h.2 1 7) ∧ (h.2 1 7) ≤ 2147483647 := (rM_b s0 1 7 (by omega)).1
  refine zj_iald (v := (h.2 1 7)) (zdk ttX11_asks 67 rfl rfl) (kaM_1 s43) (by decide) (by omega) (((((((zwr_r e42 (by first | decide | exact (absurd ·.1 (by decide)) | exact (absurd ·.2 (by decide)) | omega)).trans (zwr_r e37 (by first | decide | exact (absurd ·.1 (by decide)) | exact (absurd ·.2 (by decide)) | omega))).trans (zwr_r e27 (by first | decide | exact (absurd ·.1 (by decide)) | exact (absurd ·.2 (by decide)) | omega))).trans (zwr_r e23 (by first | decide | exact (absurd ·.1 (by decide)) | exact (absurd ·.2 (by decide)) | omega))).trans (zwr_r e12 (by first | decide | exact (absurd ·.1 (by decide)) | exact (absurd ·.2 (by decide)) | omega))).trans (zwr_r e7 (by first | decide | exact (absurd ·.1 (by decide)) | exact (absurd ·.2 (by decide)) | omega))).trans (zwr_r e3 (by first | decide | exact (absurd ·.1 (by decide)) | exact (absurd ·.2 (by decide)) | omega))) ?_
  refine zj_isub (zdk ttX11_asks 68 rfl rfl) ?_
  refine zj_wrap ?_
  have b46 := zwp_in (1 - (h.2 1 7))
  refine zj_iast (zdk ttX11_asks 69 rfl rfl) (kaM_20 s43) (by decide) (by omega) (fun h47 e48 => ?_)
  refine zj_aload_n (zdk ttX11_asks 70 rfl rfl) rfl (by decide) ?_
  have s49 : okM h47 := awM_20 s43 e48 (by omega) (by unfold nsp; omega)
  refine zj_getr (r := 20) (zdk ttX11_asks 71 rfl rfl) zf_RX11_71 rfl (k_M s49) (rfM_39 s49) ?_
  refine zj_bipush (zdk ttX11_asks 72 rfl rfl) (by decide) ?_
  refine zj_aload_n (zdk ttX11_asks 73 rfl rfl) rfl (by decide) ?_
  refine zj_iload_n (zdk ttX11_asks 74 rfl rfl) rfl ?_
  refine zj_callV (av := [.inl p1]) (st := [.inl 8, .inr 20]) (zdk ttX11_asks 75 rfl rfl) mb_X11_kinApart mv_RX11_322 (ci := 11) rfl rfl (k_M s49) rfl rfl (Nat.le_of_ble_eq_true rfl) (s_X11_kinApart l h47 p1 s49 (by omega)) (rm_ok (by decide) (by decide)) (zq_i fun v51 h52 q50 => ?_)
  obtain ⟨rfl, b53⟩ := q50
  refine zj_iast (zdk ttX11_asks 76 rfl rfl) (kaM_20 s49) (by decide) (by omega) (fun h54 e55 => ?_)
  refine zj_aload_n (zdk ttX11_asks 77 rfl rfl) rfl (by decide) ?_
  have s56 : okM h54 := awM_20 s49 e55 (by omega) (by unfold nsp; omega)
  refine zj_getr (r := 20) (zdk ttX11_asks 78 rfl rfl) zf_RX11_71 rfl (k_M s56) (rfM_39 s56) ?_
  refine zj_bipush (zdk ttX11_asks 79 rfl rfl) (by decide) ?_
  refine zj_aload_n (zdk ttX11_asks 80 rfl rfl) rfl (by decide) ?_
  refine zj_getr (r := 1) (zdk ttX11_asks 81 rfl rfl) zf_RX11_7 rfl (k_M s56) (rfM_1 s56) ?_
  refine zj_iconst (zdk ttX11_asks 82 rfl rfl) ?_
  have b58 : -2147483648 ≤ (h.2 1 0) ∧ (h.2 1 0) ≤ 2147483647 := (rM_b s0 1 0 (by omega)).1
  refine zj_iald (v := (h.2 1 0)) (zdk ttX11_asks 83 rfl rfl) (kaM_1 s56) (by decide) (by omega) (((((((((zwr_r e55 (by first | decide | exact (absurd ·.1 (by decide)) | exact (absurd ·.2 (by decide)) | omega)).trans (zwr_r e48 (by first | decide | exact (absurd ·.1 (by decide)) | exact (absurd ·.2 (by decide)) | omega))).trans (zwr_r e42 (by first | decide | exact (absurd ·.1 (by decide)) | exact (absurd ·.2 (by decide)) | omega))).trans (zwr_r e37 (by first | decide | exact (absurd ·.1 (by decide)) | exact (absurd ·.2 (by decide)) | omega))).trans (zwr_r e27 (by first | decide | exact (absurd ·.1 (by decide)) | exact (absurd ·.2 (by decide)) | omega))).trans (zwr_r e23 (by first | decide | exact (absurd ·.1 (by decide)) | exact (absurd ·.2 (by decide)) | omega))).trans (zwr_r e12 (by first | decide | exact (absurd ·.1 (by decide)) | exact (absurd ·.2 (by decide)) | omega))).trans (zwr_r e7 (by first | decide | exact (absurd ·.1 (by decide)) | exact (absurd ·.2 (by decide)) | omega))).trans (zwr_r e3 (by first | decide | exact (absurd ·.1 (by decide)) | exact (absurd ·.2 (by decide)) | omega))) ?_
  refine zj_iast (zdk ttX11_asks 84 rfl rfl) (kaM_20 s56) (by decide) (by omega) (fun h59 e60 => ?_)
  have s61 : okM h59 := awM_20 s56 e60 (by omega) (by unfold nsp; omega)
  have f71 : zfr [] [20] h h2 := zfr_wa (zfr_r _ _ _) e3 rfl
  have f70 : zfr [] [20] h h6 := zfr_wa f71 e7 rfl
  have f69 : zfr [] [20] h h11 := zfr_wa f70 e12 rfl
  have f68 : zfr [] [20] h h22 := zfr_wa f69 e23 rfl
  have f67 : zfr [] [20] h h26 := zfr_wa f68 e27 rfl
  have f66 : zfr [] [20] h h36 := zfr_wa f67 e37 rfl
  have f65 : zfr [] [20] h h41 := zfr_wa f66 e42 rfl
  have f64 : zfr [] [20] h h47 := zfr_wa f65 e48 rfl
  have f63 : zfr [] [20] h h54 := zfr_wa f64 e55 rfl
  have f62 : zfr [] [20] h h59 := zfr_wa f63 e60 rfl
  exact zj_vret rfl (zdk ttX11_asks 85 rfl rfl) (Nat.le_refl _) (Nat.le_refl _) ⟨rfl, s61, f62⟩

abbrev tX11_isPushed : List (Nat × Instr × Nat) := [(0, .aload_n 0, 1), (1, .getfield 7, 3), (4, .iconst 3, 1), (5, .iaload, 1), (6, .iload_n 1, 1), (7, .iadd, 1), (8, .sipush 720, 3), (11, .if_icmp .lt 19, 3), (14, .aload_n 0, 1), (15, .getfield 7, 3), (18, .bipush 6, 2), (20, .aload_n 0, 1), (21, .getfield 7, 3), (24, .bipush 6, 2), (26, .iaload, 1), (27, .iconst 1, 1), (28, .iadd, 1), (29, .iastore, 1), (30, .aload_n 0, 1), (31, .getfield 7, 3), (34, .iconst 3, 1), (35, .aload_n 0, 1), (36, .getfield 7, 3), (39, .iconst 3, 1), (40, .iaload, 1), (41, .iload_n 1, 1), (42, .iadd, 1), (43, .sipush 720, 3), (46, .irem, 1), (47, .iastore, 1), (48, .return_, 1)]
theorem ttX11_isPushed : zdt cX11_isPushed tX11_isPushed = true := by decide +kernel
abbrev tX11_happens : List (Nat × Instr × Nat) := [(0, .aload_n 0, 1), (1, .getfield 126, 3), (4, .ifCond .eq 20, 3), (7, .iconst 2, 1), (8, .iload_n 1, 1), (9, .imul, 1), (10, .sipush 1000, 3), (13, .if_icmp .lt 7, 3), (16, .iconst 1, 1), (17, .goto 27, 3), (20, .iconst 0, 1), (21, .goto 23, 3), (24, .iload_n 1, 1), (25, .ifCond .le 18, 3), (28, .aload_n 0, 1), (29, .sipush 1000, 3), (32, .invokevirtual 353, 3), (35, .iload_n 1, 1), (36, .if_icmp .ge 7, 3), (39, .iconst 1, 1), (40, .goto 4, 3), (43, .iconst 0, 1), (44, .ireturn, 1)]
theorem ttX11_happens : zdt cX11_happens tX11_happens = true := by decide +kernel
abbrev tX11_strokes : List (Nat × Instr × Nat) := [(0, .aload_n 0, 1), (1, .iconst 0, 1), (2, .putfield 120, 3), (5, .aload_n 0, 1), (6, .iload_n 1, 1), (7, .iconst 0, 1), (8, .sipush 719, 3), (11, .invokevirtual 139, 3), (14, .ifCond .eq 15, 3), (17, .aload_n 0, 1), (18, .iload_n 2, 1), (19, .iconst 0, 1), (20, .sipush 719, 3), (23, .invokevirtual 139, 3), (26, .ifCond .ne 5, 3), (29, .iconst (-1), 1), (30, .ireturn, 1), (31, .iconst 0, 1), (32, .istore_n 3, 1), (33, .iload_n 1, 1), (34, .istore 4, 2), (36, .iload 4, 2), (38, .iload_n 2, 1), (39, .if_icmp .eq 31, 3), (42, .iload_n 3, 1), (43, .aload_n 0, 1), (44, .iload 4, 2), (46, .iconst 1, 1), (47, .iadd, 1), (48, .sipush 720, 3), (51, .irem, 1), (52, .invokevirtual 374, 3), (55, .iadd, 1), (56, .istore_n 3, 1), (57, .iload 4, 2), (59, .iconst 1, 1), (60, .iadd, 1), (61, .sipush 720, 3), (64, .irem, 1), (65, .istore 4, 2), (67, .goto (-31), 3), (70, .iload_n 3, 1), (71, .ireturn, 1)]
theorem ttX11_strokes : zdt cX11_strokes tX11_strokes = true := by decide +kernel
abbrev q_X11_strokes (h : zM) (p1 : Int) (p2 : Int) : Option zV → zM → Prop := zqi fun v h' => ((-2147483648) ≤ v ∧ v ≤ 2147483647) ∧ okM h' ∧ zfr [0] [] h h'
set_option maxRecDepth 100000 in
set_option maxHeartbeats 4000000 in
theorem s_X11_strokes (l : Launch) (h : zM) (p1 : Int) (p2 : Int) (s0 : okM h) (b_p1 : (-2147483648) ≤ p1 ∧ p1 ≤ 2147483647) (b_p2 : (-2147483648) ≤ p2 ∧ p2 ≤ 2147483647) : zT shM l yX11_strokes cX11_strokes 5 (some .int) (rmL 2) 0 0 [.inr 0, .inl p1, .inl p2] h (q_X11_strokes h p1 p2) := by
  refine zT_of (by decide +kernel) (L0 := [some (.inr 0), some (.inl p1), some (.inl p2), none, none]) rfl (Nat.le_of_ble_eq_true rfl) ?_
  refine zj_aload_n (zdk ttX11_strokes 0 rfl rfl) rfl (by decide) ?_
  refine zj_iconst (zdk ttX11_strokes 1 rfl rfl) ?_
  refine zj_puti (zdk ttX11_strokes 2 rfl rfl) zf_RX11_120 rfl (k_M s0) (Or.inl zw_RX11_120) (k2 := 0) rfl (fun h1 e2 => ?_)
  refine zj_aload_n (zdk ttX11_strokes 3 rfl rfl) rfl (by decide) ?_
  refine zj_iload_n (zdk ttX11_strokes 4 rfl rfl) rfl ?_
  refine zj_iconst (zdk ttX11_strokes 5 rfl rfl) ?_
  refine zj_sipush (zdk ttX11_strokes 6 rfl rfl) (by decide) ?_
  have s3 : okM h1 := fwM_0 s0 e2 (by omega)
  refine zj_callV (av := [.inl p1, .inl 0, .inl 719]) (st := []) (zdk ttX11_strokes 7 rfl rfl) mb_X11_isIn mv_RX11_139 (ci := 11) rfl rfl (k_M s3) rfl rfl (Nat.le_of_ble_eq_true rfl) (s_X11_isIn l h1 p1 0 719 s3 (by omega) (by omega) (by omega)) (rm_ok (by decide) (by decide)) (zq_i fun v5 h6 q4 => ?_)
  obtain ⟨rfl, ⟨rfl, b7⟩ | ⟨rfl, b7⟩⟩ := q4
  · refine zj_if_eq (t := 29) (zdk ttX11_strokes 8 rfl rfl) (by decide) (by decide) (fun c8 => ?_) (fun c8 => ?_)
    · refine zj_iconst (zdk ttX11_strokes 15 rfl rfl) ?_
      have f9 : zfr [0] [] h h1 := zfr_wf (zfr_r _ _ _) e2 rfl
      exact zj_iret rfl (zdk ttX11_strokes 16 rfl rfl) (Nat.le_refl _) (Nat.le_refl _) ⟨(-1), rfl, by omega, s3, f9⟩
    · exact absurd c8 (by omega)
  · refine zj_if_eq (t := 29) (zdk ttX11_strokes 8 rfl rfl) (by decide) (by decide) (fun c10 => ?_) (fun c10 => ?_)
    · exact absurd c10 (by omega)
    · refine zj_aload_n (zdk ttX11_strokes 9 rfl rfl) rfl (by decide) ?_
      refine zj_iload_n (zdk ttX11_strokes 10 rfl rfl) rfl ?_
      refine zj_iconst (zdk ttX11_strokes 11 rfl rfl) ?_
      refine zj_sipush (zdk ttX11_strokes 12 rfl rfl) (by decide) ?_
      refine zj_callV (av := [.inl p2, .inl 0, .inl 719]) (st := []) (zdk ttX11_strokes 13 rfl rfl) mb_X11_isIn mv_RX11_139 (ci := 11) rfl rfl (k_M s3) rfl rfl (Nat.le_of_ble_eq_true rfl) (s_X11_isIn l h1 p2 0 719 s3 (by omega) (by omega) (by omega)) (rm_ok (by decide) (by decide)) (zq_i fun v12 h13 q11 => ?_)
      obtain ⟨rfl, ⟨rfl, b14⟩ | ⟨rfl, b14⟩⟩ := q11
      · refine zj_if_ne (t := 31) (zdk ttX11_strokes 14 rfl rfl) (by decide) (by decide) (fun c15 => ?_) (fun c15 => ?_)
        · exact absurd c15 (by omega)
        · refine zj_iconst (zdk ttX11_strokes 15 rfl rfl) ?_
          have f16 : zfr [0] [] h h1 := zfr_wf (zfr_r _ _ _) e2 rfl
          exact zj_iret rfl (zdk ttX11_strokes 16 rfl rfl) (Nat.le_refl _) (Nat.le_refl _) ⟨(-1), rfl, by omega, s3, f16⟩
      · refine zj_if_ne (t := 31) (zdk ttX11_strokes 14 rfl rfl) (by decide) (by decide) (fun c17 => ?_) (fun c17 => ?_)
        · refine zj_iconst (zdk ttX11_strokes 17 rfl rfl) ?_
          refine zj_istore_n (L' := [some (.inr 0), some (.inl p1), some (.inl p2), some (.inl 0), none]) (zdk ttX11_strokes 18 rfl rfl) (by decide) rfl ?_
          refine zj_iload_n (zdk ttX11_strokes 19 rfl rfl) rfl ?_
          refine zj_istore (L' := [some (.inr 0), some (.inl p1), some (.inl p2), some (.inl 0), some (.inl p1)]) (zdk ttX11_strokes 20 rfl rfl) (by decide) rfl ?_
          have lp45 : ∀ (n36 : Nat) (x18 x19 : Int), (-2147483648 ≤ x18 ∧ x18 ≤ 2147483647) → (0 ≤ x19 ∧ x19 ≤ 719) → ((p2 - x19) % 720).toNat < n36 → zJ shM l yX11_strokes cX11_strokes 5 (some .int) (rmL 2) 0 0 (q_X11_strokes h p1 p2) 0 0 36 [some (.inr 0), some (.inl p1), some (.inl p2), some (.inl x18), some (.inl x19)] [] h1 := by
            intro n36
            induction n36 with
            | zero => intro x18 x19 b46 b47 m48; exact absurd m48 (Nat.not_lt_zero _)
            | succ n36 ih49 =>
              intro x18 x19 b46 b47 m48
              refine zj_iload (zdk ttX11_strokes 21 rfl rfl) rfl ?_
              refine zj_iload_n (zdk ttX11_strokes 22 rfl rfl) rfl ?_
              refine zj_icmp_eq (t := 70) (zdk ttX11_strokes 23 rfl rfl) (by decide) (by omega) (by omega) (fun c50 => ?_) (fun c50 => ?_)
              · refine zj_iload_n (zdk ttX11_strokes 41 rfl rfl) rfl ?_
                have f51 : zfr [0] [] h h1 := zfr_wf (zfr_r _ _ _) e2 rfl
                exact zj_iret rfl (zdk ttX11_strokes 42 rfl rfl) (Nat.le_refl _) (Nat.le_refl _) ⟨x18, rfl, by omega, s3, f51⟩
              · refine zj_iload_n (zdk ttX11_strokes 24 rfl rfl) rfl ?_
                refine zj_aload_n (zdk ttX11_strokes 25 rfl rfl) rfl (by decide) ?_
                refine zj_iload (zdk ttX11_strokes 26 rfl rfl) rfl ?_
                refine zj_iconst (zdk ttX11_strokes 27 rfl rfl) ?_
                refine zj_iadd (zdk ttX11_strokes 28 rfl rfl) ?_
                refine zj_sipush (zdk ttX11_strokes 29 rfl rfl) (by decide) ?_
                refine zj_iremP (zdk ttX11_strokes 30 rfl rfl) (by omega) (by omega) ?_
                refine zj_callV (av := [.inl ((x19 + 1) % 720)]) (st := [.inl x18]) (zdk ttX11_strokes 31 rfl rfl) mb_X11_strokesAt mv_RX11_374 (ci := 11) rfl rfl (k_M s3) rfl rfl (Nat.le_of_ble_eq_true rfl) (s_X11_strokesAt l h1 ((x19 + 1) % 720) s3 (by omega)) (rm_ok (by decide) (by decide)) (zq_i fun v53 h54 q52 => ?_)
                obtain ⟨rfl, b55⟩ := q52
                have b56 : -35791394 ≤ v53 ∧ v53 ≤ 35791394 := by omega
                refine zj_iadd (zdk ttX11_strokes 32 rfl rfl) ?_
                refine zj_wrap ?_
                have b57 := zwp_in (x18 + v53)
                refine zj_istore_n (L' := [some (.inr 0), some (.inl p1), some (.inl p2), some (.inl (zwp (x18 + v53))), some (.inl x19)]) (zdk ttX11_strokes 33 rfl rfl) (by decide) rfl ?_
                refine zj_iload (zdk ttX11_strokes 34 rfl rfl) rfl ?_
                refine zj_iconst (zdk ttX11_strokes 35 rfl rfl) ?_
                refine zj_iadd (zdk ttX11_strokes 36 rfl rfl) ?_
                refine zj_sipush (zdk ttX11_strokes 37 rfl rfl) (by decide) ?_
                refine zj_iremP (zdk ttX11_strokes 38 rfl rfl) (by omega) (by omega) ?_
                refine zj_istore (L' := [some (.inr 0), some (.inl p1), some (.inl p2), some (.inl (zwp (x18 + v53))), some (.inl ((x19 + 1) % 720))]) (zdk ttX11_strokes 39 rfl rfl) (by decide) rfl ?_
                refine zj_goto (t := 36) (zdk ttX11_strokes 40 rfl rfl) (by decide) ?_
                exact ih49  (zwp (x18 + v53)) ((x19 + 1) % 720) (by omega) (by omega) (by omega)
          exact lp45 _ 0 p1 (by omega) (by omega) (Nat.lt_succ_self _)
        · exact absurd c17 (by omega)

abbrev tX11_hands : List (Nat × Instr × Nat) := [(0, .aload_n 0, 1), (1, .iconst 0, 1), (2, .putfield 120, 3), (5, .iload_n 2, 1), (6, .ifCond .ne 25, 3), (9, .aload_n 0, 1), (10, .iload_n 1, 1), (11, .iconst 0, 1), (12, .sipush 719, 3), (15, .invokevirtual 139, 3), (18, .ifCond .eq 11, 3), (21, .aload_n 0, 1), (22, .iload_n 1, 1), (23, .invokevirtual 398, 3), (26, .goto 4, 3), (29, .iconst (-1), 1), (30, .ireturn, 1), (31, .iload_n 2, 1), (32, .iconst 1, 1), (33, .if_icmp .ne 15, 3), (36, .aload_n 0, 1), (37, .iload_n 1, 1), (38, .iconst 0, 1), (39, .sipush 360, 3), (42, .invokevirtual 139, 3), (45, .ifCond .ne 5, 3), (48, .iconst (-1), 1), (49, .ireturn, 1), (50, .iconst 0, 1), (51, .istore_n 3, 1), (52, .iconst 0, 1), (53, .istore 4, 2), (55, .iload 4, 2), (57, .sipush 720, 3), (60, .if_icmp .ge 23, 3), (63, .aload_n 0, 1), (64, .iload 4, 2), (66, .invokevirtual 398, 3), (69, .iload_n 1, 1), (70, .if_icmp .ne 7, 3), (73, .iload_n 3, 1), (74, .iconst 1, 1), (75, .iadd, 1), (76, .istore_n 3, 1), (77, .iinc 4 1, 3), (80, .goto (-25), 3), (83, .iload_n 3, 1), (84, .ireturn, 1)]
theorem ttX11_hands : zdt cX11_hands tX11_hands = true := by decide +kernel
abbrev q_X11_hands (h : zM) (p1 : Int) (p2 : Int) : Option zV → zM → Prop := zqi fun v h' => ((-2147483648) ≤ v ∧ v ≤ 2147483647) ∧ okM h' ∧ zfr [0] [] h h'
set_option maxRecDepth 100000 in
set_option maxHeartbeats 4000000 in
theorem s_X11_hands (l : Launch) (h : zM) (p1 : Int) (p2 : Int) (s0 : okM h) (b_p1 : (-2147483648) ≤ p1 ∧ p1 ≤ 2147483647) (b_p2 : (-2147483648) ≤ p2 ∧ p2 ≤ 2147483647) : zT shM l yX11_hands cX11_hands 5 (some .int) (rmL 3) 0 0 [.inr 0, .inl p1, .inl p2] h (q_X11_hands h p1 p2) := by
  refine zT_of (by decide +kernel) (L0 := [some (.inr 0), some (.inl p1), some (.inl p2), none, none]) rfl (Nat.le_of_ble_eq_true rfl) ?_
  refine zj_aload_n (zdk ttX11_hands 0 rfl rfl) rfl (by decide) ?_
  refine zj_iconst (zdk ttX11_hands 1 rfl rfl) ?_
  refine zj_puti (zdk ttX11_hands 2 rfl rfl) zf_RX11_120 rfl (k_M s0) (Or.inl zw_RX11_120) (k2 := 0) rfl (fun h1 e2 => ?_)
  refine zj_iload_n (zdk ttX11_hands 3 rfl rfl) rfl ?_
  refine zj_if_ne (t := 31) (zdk ttX11_hands 4 rfl rfl) (by decide) (by omega) (fun c3 => ?_) (fun c3 => ?_)
  · refine zj_iload_n (zdk ttX11_hands 17 rfl rfl) rfl ?_
    refine zj_iconst (zdk ttX11_hands 18 rfl rfl) ?_
    refine zj_icmp_ne (t := 48) (zdk ttX11_hands 19 rfl rfl) (by decide) (by omega) (by decide) (fun c4 => ?_) (fun c4 => ?_)
    · refine zj_iconst (zdk ttX11_hands 26 rfl rfl) ?_
      have s5 : okM h1 := fwM_0 s0 e2 (by omega)
      have f6 : zfr [0] [] h h1 := zfr_wf (zfr_r _ _ _) e2 rfl
      exact zj_iret rfl (zdk ttX11_hands 27 rfl rfl) (Nat.le_refl _) (Nat.le_refl _) ⟨(-1), rfl, by omega, s5, f6⟩
    · refine zj_aload_n (zdk ttX11_hands 20 rfl rfl) rfl (by decide) ?_
      refine zj_iload_n (zdk ttX11_hands 21 rfl rfl) rfl ?_
      refine zj_iconst (zdk ttX11_hands 22 rfl rfl) ?_
      refine zj_sipush (zdk ttX11_hands 23 rfl rfl) (by decide) ?_
      have s7 : okM h1 := fwM_0 s0 e2 (by omega)
      refine zj_callV (av := [.inl p1, .inl 0, .inl 360]) (st := []) (zdk ttX11_hands 24 rfl rfl) mb_X11_isIn mv_RX11_139 (ci := 11) rfl rfl (k_M s7) rfl rfl (Nat.le_of_ble_eq_true rfl) (s_X11_isIn l h1 p1 0 360 s7 (by omega) (by omega) (by omega)) (rm_ok (by decide) (by decide)) (zq_i fun v9 h10 q8 => ?_)
      obtain ⟨rfl, ⟨rfl, b11⟩ | ⟨rfl, b11⟩⟩ := q8
      · refine zj_if_ne (t := 50) (zdk ttX11_hands 25 rfl rfl) (by decide) (by decide) (fun c12 => ?_) (fun c12 => ?_)
        · exact absurd c12 (by omega)
        · refine zj_iconst (zdk ttX11_hands 26 rfl rfl) ?_
          have f13 : zfr [0] [] h h1 := zfr_wf (zfr_r _ _ _) e2 rfl
          exact zj_iret rfl (zdk ttX11_hands 27 rfl rfl) (Nat.le_refl _) (Nat.le_refl _) ⟨(-1), rfl, by omega, s7, f13⟩
      · refine zj_if_ne (t := 50) (zdk ttX11_hands 25 rfl rfl) (by decide) (by decide) (fun c14 => ?_) (fun c14 => ?_)
        · refine zj_iconst (zdk ttX11_hands 28 rfl rfl) ?_
          refine zj_istore_n (L' := [some (.inr 0), some (.inl p1), some (.inl p2), some (.inl 0), none]) (zdk ttX11_hands 29 rfl rfl) (by decide) rfl ?_
          refine zj_iconst (zdk ttX11_hands 30 rfl rfl) ?_
          refine zj_istore (L' := [some (.inr 0), some (.inl p1), some (.inl p2), some (.inl 0), some (.inl 0)]) (zdk ttX11_hands 31 rfl rfl) (by decide) rfl ?_
          have lp85 : ∀ (n55 : Nat) (x15 x16 : Int), (-2147483648 ≤ x15 ∧ x15 ≤ 2147483647) → (0 ≤ x16 ∧ x16 ≤ 720) → (721 - x16).toNat < n55 → zJ shM l yX11_hands cX11_hands 5 (some .int) (rmL 3) 0 0 (q_X11_hands h p1 p2) 0 0 55 [some (.inr 0), some (.inl p1), some (.inl p2), some (.inl x15), some (.inl x16)] [] h1 := by
            intro n55
            induction n55 with
            | zero => intro x15 x16 b86 b87 m88; exact absurd m88 (Nat.not_lt_zero _)
            | succ n55 ih89 =>
              intro x15 x16 b86 b87 m88
              refine zj_iload (zdk ttX11_hands 32 rfl rfl) rfl ?_
              refine zj_sipush (zdk ttX11_hands 33 rfl rfl) (by decide) ?_
              refine zj_icmp_ge (t := 83) (zdk ttX11_hands 34 rfl rfl) (by decide) (by omega) (by decide) (fun c90 => ?_) (fun c90 => ?_)
              · refine zj_iload_n (zdk ttX11_hands 46 rfl rfl) rfl ?_
                have f91 : zfr [0] [] h h1 := zfr_wf (zfr_r _ _ _) e2 rfl
                exact zj_iret rfl (zdk ttX11_hands 47 rfl rfl) (Nat.le_refl _) (Nat.le_refl _) ⟨x15, rfl, by omega, s7, f91⟩
              · refine zj_aload_n (zdk ttX11_hands 35 rfl rfl) rfl (by decide) ?_
                refine zj_iload (zdk ttX11_hands 36 rfl rfl) rfl ?_
                refine zj_callV (av := [.inl x16]) (st := []) (zdk ttX11_hands 37 rfl rfl) mb_X11_handsAt mv_RX11_398 (ci := 11) rfl rfl (k_M s7) rfl rfl (Nat.le_of_ble_eq_true rfl) (s_X11_handsAt l h1 x16 s7 (by omega)) (rm_ok (by decide) (by decide)) (zq_i fun v93 h94 q92 => ?_)
                obtain ⟨rfl, b95⟩ := q92
                refine zj_iload_n (zdk ttX11_hands 38 rfl rfl) rfl ?_
                refine zj_icmp_ne (t := 77) (zdk ttX11_hands 39 rfl rfl) (by decide) (by omega) (by omega) (fun c96 => ?_) (fun c96 => ?_)
                · refine zj_iinc (L' := [some (.inr 0), some (.inl p1), some (.inl p2), some (.inl x15), some (.inl (x16 + 1))]) (zdk ttX11_hands 44 rfl rfl) rfl (by decide) rfl ?_
                  refine zj_goto (t := 55) (zdk ttX11_hands 45 rfl rfl) (by decide) ?_
                  exact ih89  x15 (x16 + 1) (by omega) (by omega) (by omega)
                · refine zj_iload_n (zdk ttX11_hands 40 rfl rfl) rfl ?_
                  refine zj_iconst (zdk ttX11_hands 41 rfl rfl) ?_
                  refine zj_iadd (zdk ttX11_hands 42 rfl rfl) ?_
                  refine zj_wrap ?_
                  have b97 := zwp_in (x15 + 1)
                  refine zj_istore_n (L' := [some (.inr 0), some (.inl p1), some (.inl p2), some (.inl (zwp (x15 + 1))), some (.inl x16)]) (zdk ttX11_hands 43 rfl rfl) (by decide) rfl ?_
                  refine zj_iinc (L' := [some (.inr 0), some (.inl p1), some (.inl p2), some (.inl (zwp (x15 + 1))), some (.inl (x16 + 1))]) (zdk ttX11_hands 44 rfl rfl) rfl (by decide) rfl ?_
                  refine zj_goto (t := 55) (zdk ttX11_hands 45 rfl rfl) (by decide) ?_
                  exact ih89  (zwp (x15 + 1)) (x16 + 1) (by omega) (by omega) (by omega)
          exact lp85 _ 0 0 (by omega) (by omega) (Nat.lt_succ_self _)
        · exact absurd c14 (by omega)
  · refine zj_aload_n (zdk ttX11_hands 5 rfl rfl) rfl (by decide) ?_
    refine zj_iload_n (zdk ttX11_hands 6 rfl rfl) rfl ?_
    refine zj_iconst (zdk ttX11_hands 7 rfl rfl) ?_
    refine zj_sipush (zdk ttX11_hands 8 rfl rfl) (by decide) ?_
    have s98 : okM h1 := fwM_0 s0 e2 (by omega)
    refine zj_callV (av := [.inl p1, .inl 0, .inl 719]) (st := []) (zdk ttX11_hands 9 rfl rfl) mb_X11_isIn mv_RX11_139 (ci := 11) rfl rfl (k_M s98) rfl rfl (Nat.le_of_ble_eq_true rfl) (s_X11_isIn l h1 p1 0 719 s98 (by omega) (by omega) (by omega)) (rm_ok (by decide) (by decide)) (zq_i fun v100 h101 q99 => ?_)
    obtain ⟨rfl, ⟨rfl, b102⟩ | ⟨rfl, b102⟩⟩ := q99
    · refine zj_if_eq (t := 29) (zdk ttX11_hands 10 rfl rfl) (by decide) (by decide) (fun c103 => ?_) (fun c103 => ?_)
      · refine zj_iconst (zdk ttX11_hands 15 rfl rfl) ?_
        have f104 : zfr [0] [] h h1 := zfr_wf (zfr_r _ _ _) e2 rfl
        exact zj_iret rfl (zdk ttX11_hands 16 rfl rfl) (Nat.le_refl _) (Nat.le_refl _) ⟨(-1), rfl, by omega, s98, f104⟩
      · exact absurd c103 (by omega)
    · refine zj_if_eq (t := 29) (zdk ttX11_hands 10 rfl rfl) (by decide) (by decide) (fun c105 => ?_) (fun c105 => ?_)
      · exact absurd c105 (by omega)
      · refine zj_aload_n (zdk ttX11_hands 11 rfl rfl) rfl (by decide) ?_
        refine zj_iload_n (zdk ttX11_hands 12 rfl rfl) rfl ?_
        refine zj_callV (av := [.inl p1]) (st := []) (zdk ttX11_hands 13 rfl rfl) mb_X11_handsAt mv_RX11_398 (ci := 11) rfl rfl (k_M s98) rfl rfl (Nat.le_of_ble_eq_true rfl) (s_X11_handsAt l h1 p1 s98 (by omega)) (rm_ok (by decide) (by decide)) (zq_i fun v107 h108 q106 => ?_)
        obtain ⟨rfl, b109⟩ := q106
        refine zj_goto (t := 30) (zdk ttX11_hands 14 rfl rfl) (by decide) ?_
        have f110 : zfr [0] [] h h1 := zfr_wf (zfr_r _ _ _) e2 rfl
        exact zj_iret rfl (zdk ttX11_hands 16 rfl rfl) (Nat.le_refl _) (Nat.le_refl _) ⟨v107, rfl, by omega, s98, f110⟩

abbrev tX11_couple : List (Nat × Instr × Nat) := [(0, .aload_n 0, 1), (1, .iconst 0, 1), (2, .putfield 120, 3), (5, .iload_n 1, 1), (6, .iconst (-1), 1), (7, .if_icmp .ne 31, 3), (10, .aload_n 0, 1), (11, .iconst 0, 1), (12, .putfield 408, 3), (15, .iconst 0, 1), (16, .istore_n 3, 1), (17, .iload_n 3, 1), (18, .bipush 6, 2), (20, .if_icmp .ge 16, 3), (23, .aload_n 0, 1), (24, .getfield 86, 3), (27, .iload_n 3, 1), (28, .iconst 0, 1), (29, .iastore, 1), (30, .iinc 3 1, 3), (33, .goto (-16), 3), (36, .iconst 0, 1), (37, .ireturn, 1), (38, .aload_n 0, 1), (39, .iload_n 1, 1), (40, .iconst 0, 1), (41, .iconst 5, 1), (42, .invokevirtual 139, 3), (45, .ifCond .eq 27, 3), (48, .aload_n 0, 1), (49, .iload_n 2, 1), (50, .iconst 0, 1), (51, .iconst 5, 1), (52, .invokevirtual 139, 3), (55, .ifCond .eq 17, 3), (58, .iload_n 1, 1), (59, .iload_n 2, 1), (60, .if_icmp .eq 12, 3), (63, .aload_n 0, 1), (64, .getfield 408, 3), (67, .bipush 8, 2), (69, .if_icmp .ne 5, 3), (72, .iconst (-1), 1), (73, .ireturn, 1), (74, .aload_n 0, 1), (75, .getfield 86, 3), (78, .iload_n 1, 1), (79, .aload_n 0, 1), (80, .getfield 86, 3), (83, .iload_n 1, 1), (84, .iaload, 1), (85, .iconst 1, 1), (86, .iload_n 2, 1), (87, .ishl, 1), (88, .ior, 1), (89, .iastore, 1), (90, .aload_n 0, 1), (91, .getfield 86, 3), (94, .iload_n 2, 1), (95, .aload_n 0, 1), (96, .getfield 86, 3), (99, .iload_n 2, 1), (100, .iaload, 1), (101, .iconst 1, 1), (102, .iload_n 1, 1), (103, .ishl, 1), (104, .ior, 1), (105, .iastore, 1), (106, .aload_n 0, 1), (107, .aload_n 0, 1), (108, .getfield 408, 3), (111, .iconst 1, 1), (112, .iadd, 1), (113, .putfield 408, 3), (116, .aload_n 0, 1), (117, .getfield 408, 3), (120, .ireturn, 1)]
theorem ttX11_couple : zdt cX11_couple tX11_couple = true := by decide +kernel
abbrev q_X11_couple (h : zM) (p1 : Int) (p2 : Int) : Option zV → zM → Prop := zqi fun v h' => ((-2147483648) ≤ v ∧ v ≤ 2147483647) ∧ okM h' ∧ zfr [0, 45] [25] h h'
set_option maxRecDepth 100000 in
set_option maxHeartbeats 4000000 in
theorem s_X11_couple (l : Launch) (h : zM) (p1 : Int) (p2 : Int) (s0 : okM h) (b_p1 : (-2147483648) ≤ p1 ∧ p1 ≤ 2147483647) (b_p2 : (-2147483648) ≤ p2 ∧ p2 ≤ 2147483647) : zT shM l yX11_couple cX11_couple 4 (some .int) (rmL 2) 0 0 [.inr 0, .inl p1, .inl p2] h (q_X11_couple h p1 p2) := by
  refine zT_of (by decide +kernel) (L0 := [some (.inr 0), some (.inl p1), some (.inl p2), none]) rfl (Nat.le_of_ble_eq_true rfl) ?_
  refine zj_aload_n (zdk ttX11_couple 0 rfl rfl) rfl (by decide) ?_
  refine zj_iconst (zdk ttX11_couple 1 rfl rfl) ?_
  refine zj_puti (zdk ttX11_couple 2 rfl rfl) zf_RX11_120 rfl (k_M s0) (Or.inl zw_RX11_120) (k2 := 0) rfl (fun h1 e2 => ?_)
  refine zj_iload_n (zdk ttX11_couple 3 rfl rfl) rfl ?_
  refine zj_iconst (zdk ttX11_couple 4 rfl rfl) ?_
  refine zj_icmp_ne (t := 38) (zdk ttX11_couple 5 rfl rfl) (by decide) (by omega) (by decide) (fun c3 => ?_) (fun c3 => ?_)
  · refine zj_aload_n (zdk ttX11_couple 23 rfl rfl) rfl (by decide) ?_
    refine zj_iload_n (zdk ttX11_couple 24 rfl rfl) rfl ?_
    refine zj_iconst (zdk ttX11_couple 25 rfl rfl) ?_
    refine zj_iconst (zdk ttX11_couple 26 rfl rfl) ?_
    have s4 : okM h1 := fwM_0 s0 e2 (by omega)
    refine zj_callV (av := [.inl p1, .inl 0, .inl 5]) (st := []) (zdk ttX11_couple 27 rfl rfl) mb_X11_isIn mv_RX11_139 (ci := 11) rfl rfl (k_M s4) rfl rfl (Nat.le_of_ble_eq_true rfl) (s_X11_isIn l h1 p1 0 5 s4 (by omega) (by omega) (by omega)) (rm_ok (by decide) (by decide)) (zq_i fun v6 h7 q5 => ?_)
    obtain ⟨rfl, ⟨rfl, b8⟩ | ⟨rfl, b8⟩⟩ := q5
    · refine zj_if_eq (t := 72) (zdk ttX11_couple 28 rfl rfl) (by decide) (by decide) (fun c9 => ?_) (fun c9 => ?_)
      · refine zj_iconst (zdk ttX11_couple 42 rfl rfl) ?_
        have f10 : zfr [0, 45] [25] h h1 := zfr_wf (zfr_r _ _ _) e2 rfl
        exact zj_iret rfl (zdk ttX11_couple 43 rfl rfl) (Nat.le_refl _) (Nat.le_refl _) ⟨(-1), rfl, by omega, s4, f10⟩
      · exact absurd c9 (by omega)
    · refine zj_if_eq (t := 72) (zdk ttX11_couple 28 rfl rfl) (by decide) (by decide) (fun c11 => ?_) (fun c11 => ?_)
      · exact absurd c11 (by omega)
      · refine zj_aload_n (zdk ttX11_couple 29 rfl rfl) rfl (by decide) ?_
        refine zj_iload_n (zdk ttX11_couple 30 rfl rfl) rfl ?_
        refine zj_iconst (zdk ttX11_couple 31 rfl rfl) ?_
        refine zj_iconst (zdk ttX11_couple 32 rfl rfl) ?_
        refine zj_callV (av := [.inl p2, .inl 0, .inl 5]) (st := []) (zdk ttX11_couple 33 rfl rfl) mb_X11_isIn mv_RX11_139 (ci := 11) rfl rfl (k_M s4) rfl rfl (Nat.le_of_ble_eq_true rfl) (s_X11_isIn l h1 p2 0 5 s4 (by omega) (by omega) (by omega)) (rm_ok (by decide) (by decide)) (zq_i fun v13 h14 q12 => ?_)
        obtain ⟨rfl, ⟨rfl, b15⟩ | ⟨rfl, b15⟩⟩ := q12
        · refine zj_if_eq (t := 72) (zdk ttX11_couple 34 rfl rfl) (by decide) (by decide) (fun c16 => ?_) (fun c16 => ?_)
          · refine zj_iconst (zdk ttX11_couple 42 rfl rfl) ?_
            have f17 : zfr [0, 45] [25] h h1 := zfr_wf (zfr_r _ _ _) e2 rfl
            exact zj_iret rfl (zdk ttX11_couple 43 rfl rfl) (Nat.le_refl _) (Nat.le_refl _) ⟨(-1), rfl, by omega, s4, f17⟩
          · exact absurd c16 (by omega)
        · refine zj_if_eq (t := 72) (zdk ttX11_couple 34 rfl rfl) (by decide) (by decide) (fun c18 => ?_) (fun c18 => ?_)
          · exact absurd c18 (by omega)
          · refine zj_iload_n (zdk ttX11_couple 35 rfl rfl) rfl ?_
            refine zj_iload_n (zdk ttX11_couple 36 rfl rfl) rfl ?_
            refine zj_icmp_eq (t := 72) (zdk ttX11_couple 37 rfl rfl) (by decide) (by omega) (by omega) (fun c19 => ?_) (fun c19 => ?_)
            · refine zj_iconst (zdk ttX11_couple 42 rfl rfl) ?_
              have f20 : zfr [0, 45] [25] h h1 := zfr_wf (zfr_r _ _ _) e2 rfl
              exact zj_iret rfl (zdk ttX11_couple 43 rfl rfl) (Nat.le_refl _) (Nat.le_refl _) ⟨(-1), rfl, by omega, s4, f20⟩
            · refine zj_aload_n (zdk ttX11_couple 38 rfl rfl) rfl (by decide) ?_
              have b21 : -2147483648 ≤ (h.2 0 45) ∧ (h.2 0 45) ≤ 2147483647 := fM_45 s0
              refine zj_geti (v := (h.2 0 45)) (zdk ttX11_couple 39 rfl rfl) zf_RX11_408 rfl (k_M s4) (zwr_r e2 (by first | decide | exact (absurd ·.1 (by decide)) | exact (absurd ·.2 (by decide)) | omega)) ?_
              refine zj_bipush (zdk ttX11_couple 40 rfl rfl) (by decide) ?_
              refine zj_icmp_ne (t := 74) (zdk ttX11_couple 41 rfl rfl) (by decide) (by omega) (by decide) (fun c22 => ?_) (fun c22 => ?_)
              · refine zj_aload_n (zdk ttX11_couple 44 rfl rfl) rfl (by decide) ?_
                refine zj_getr (r := 25) (zdk ttX11_couple 45 rfl rfl) zf_RX11_86 rfl (k_M s4) (rfM_46 s4) ?_
                refine zj_iload_n (zdk ttX11_couple 46 rfl rfl) rfl ?_
                refine zj_aload_n (zdk ttX11_couple 47 rfl rfl) rfl (by decide) ?_
                refine zj_getr (r := 25) (zdk ttX11_couple 48 rfl rfl) zf_RX11_86 rfl (k_M s4) (rfM_46 s4) ?_
                refine zj_iload_n (zdk ttX11_couple 49 rfl rfl) rfl ?_
                have b23 : -2147483648 ≤ (h.2 25 p1) ∧ (h.2 25 p1) ≤ 2147483647 := abM_25 s0 p1
                refine zj_iald (v := (h.2 25 p1)) (zdk ttX11_couple 50 rfl rfl) (kaM_25 s4) (by decide) (by omega) (zwr_r e2 (by first | decide | exact (absurd ·.1 (by decide)) | exact (absurd ·.2 (by decide)) | omega)) ?_
                refine zj_iconst (zdk ttX11_couple 51 rfl rfl) ?_
                refine zj_iload_n (zdk ttX11_couple 52 rfl rfl) rfl ?_
                refine zj_ishl (zdk ttX11_couple 53 rfl rfl) ?_
                have b24 := zshl_1 (n := p2) (a := 0) (b := 5) (lo := 1) (hi := 32) (by omega) (by decide) (by decide) (by decide)
                refine zj_ior (zdk ttX11_couple 54 rfl rfl) ?_
                have b25 := zor_in (h.2 25 p1) (zshl 1 p2)
                refine zj_iast (zdk ttX11_couple 55 rfl rfl) (kaM_25 s4) (by decide) (by omega) (fun h26 e27 => ?_)
                refine zj_aload_n (zdk ttX11_couple 56 rfl rfl) rfl (by decide) ?_
                have s28 : okM h26 := awM_25 s4 e27 (by omega) (by unfold nsp; omega)
                refine zj_getr (r := 25) (zdk ttX11_couple 57 rfl rfl) zf_RX11_86 rfl (k_M s28) (rfM_46 s28) ?_
                refine zj_iload_n (zdk ttX11_couple 58 rfl rfl) rfl ?_
                refine zj_aload_n (zdk ttX11_couple 59 rfl rfl) rfl (by decide) ?_
                refine zj_getr (r := 25) (zdk ttX11_couple 60 rfl rfl) zf_RX11_86 rfl (k_M s28) (rfM_46 s28) ?_
                refine zj_iload_n (zdk ttX11_couple 61 rfl rfl) rfl ?_
                have b29 : -2147483648 ≤ (h26.2 25 p2) ∧ (h26.2 25 p2) ≤ 2147483647 := abM_25 s28 p2
                refine zj_iald (v := (h26.2 25 p2)) (zdk ttX11_couple 62 rfl rfl) (kaM_25 s28) (by decide) (by omega) rfl ?_
                refine zj_iconst (zdk ttX11_couple 63 rfl rfl) ?_
                refine zj_iload_n (zdk ttX11_couple 64 rfl rfl) rfl ?_
                refine zj_ishl (zdk ttX11_couple 65 rfl rfl) ?_
                have b30 := zshl_1 (n := p1) (a := 0) (b := 5) (lo := 1) (hi := 32) (by omega) (by decide) (by decide) (by decide)
                refine zj_ior (zdk ttX11_couple 66 rfl rfl) ?_
                have b31 := zor_in (h26.2 25 p2) (zshl 1 p1)
                refine zj_iast (zdk ttX11_couple 67 rfl rfl) (kaM_25 s28) (by decide) (by omega) (fun h32 e33 => ?_)
                refine zj_aload_n (zdk ttX11_couple 68 rfl rfl) rfl (by decide) ?_
                refine zj_aload_n (zdk ttX11_couple 69 rfl rfl) rfl (by decide) ?_
                have s34 : okM h32 := awM_25 s28 e33 (by omega) (by unfold nsp; omega)
                refine zj_geti (v := (h.2 0 45)) (zdk ttX11_couple 70 rfl rfl) zf_RX11_408 rfl (k_M s34) (((zwr_r e33 (by first | decide | exact (absurd ·.1 (by decide)) | exact (absurd ·.2 (by decide)) | omega)).trans (zwr_r e27 (by first | decide | exact (absurd ·.1 (by decide)) | exact (absurd ·.2 (by decide)) | omega))).trans (zwr_r e2 (by first | decide | exact (absurd ·.1 (by decide)) | exact (absurd ·.2 (by decide)) | omega))) ?_
                refine zj_iconst (zdk ttX11_couple 71 rfl rfl) ?_
                refine zj_iadd (zdk ttX11_couple 72 rfl rfl) ?_
                refine zj_wrap ?_
                have b35 := zwp_in ((h.2 0 45) + 1)
                refine zj_puti (zdk ttX11_couple 73 rfl rfl) zf_RX11_408 rfl (k_M s34) (Or.inl zw_RX11_408) (k2 := 45) rfl (fun h36 e37 => ?_)
                refine zj_aload_n (zdk ttX11_couple 74 rfl rfl) rfl (by decide) ?_
                have s38 : okM h36 := fwM_45 s34 e37 (by omega)
                refine zj_geti (v := (zwp ((h.2 0 45) + 1))) (zdk ttX11_couple 75 rfl rfl) zf_RX11_408 rfl (k_M s38) (zwr_v e37) ?_
                have f42 : zfr [0, 45] [25] h h1 := zfr_wf (zfr_r _ _ _) e2 rfl
                have f41 : zfr [0, 45] [25] h h26 := zfr_wa f42 e27 rfl
                have f40 : zfr [0, 45] [25] h h32 := zfr_wa f41 e33 rfl
                have f39 : zfr [0, 45] [25] h h36 := zfr_wf f40 e37 rfl
                exact zj_iret rfl (zdk ttX11_couple 76 rfl rfl) (Nat.le_refl _) (Nat.le_refl _) ⟨(zwp ((h.2 0 45) + 1)), rfl, by omega, s38, f39⟩
              · refine zj_iconst (zdk ttX11_couple 42 rfl rfl) ?_
                have f43 : zfr [0, 45] [25] h h1 := zfr_wf (zfr_r _ _ _) e2 rfl
                exact zj_iret rfl (zdk ttX11_couple 43 rfl rfl) (Nat.le_refl _) (Nat.le_refl _) ⟨(-1), rfl, by omega, s4, f43⟩
  · refine zj_aload_n (zdk ttX11_couple 6 rfl rfl) rfl (by decide) ?_
    refine zj_iconst (zdk ttX11_couple 7 rfl rfl) ?_
    have s44 : okM h1 := fwM_0 s0 e2 (by omega)
    refine zj_puti (zdk ttX11_couple 8 rfl rfl) zf_RX11_408 rfl (k_M s44) (Or.inl zw_RX11_408) (k2 := 45) rfl (fun h45 e46 => ?_)
    refine zj_iconst (zdk ttX11_couple 9 rfl rfl) ?_
    refine zj_istore_n (L' := [some (.inr 0), some (.inl p1), some (.inl p2), some (.inl 0)]) (zdk ttX11_couple 10 rfl rfl) (by decide) rfl ?_
    have lp69 : ∀ (n17 : Nat) (x47 : Int) (h48 : zM), (0 ≤ x47 ∧ x47 ≤ 6) → okM h48 → zfr [0, 45] [25] h h48 → (7 - x47).toNat < n17 → zJ shM l yX11_couple cX11_couple 4 (some .int) (rmL 2) 0 0 (q_X11_couple h p1 p2) 0 0 17 [some (.inr 0), some (.inl p1), some (.inl p2), some (.inl x47)] [] h48 := by
      intro n17
      induction n17 with
      | zero => intro x47 h48 b70 s49 f50 m71; exact absurd m71 (Nat.not_lt_zero _)
      | succ n17 ih72 =>
        intro x47 h48 b70 s49 f50 m71
        refine zj_iload_n (zdk ttX11_couple 11 rfl rfl) rfl ?_
        refine zj_bipush (zdk ttX11_couple 12 rfl rfl) (by decide) ?_
        refine zj_icmp_ge (t := 36) (zdk ttX11_couple 13 rfl rfl) (by decide) (by omega) (by decide) (fun c73 => ?_) (fun c73 => ?_)
        · refine zj_iconst (zdk ttX11_couple 21 rfl rfl) ?_
          exact zj_iret rfl (zdk ttX11_couple 22 rfl rfl) (Nat.le_refl _) (Nat.le_refl _) ⟨0, rfl, by omega, s49, f50⟩
        · refine zj_aload_n (zdk ttX11_couple 14 rfl rfl) rfl (by decide) ?_
          refine zj_getr (r := 25) (zdk ttX11_couple 15 rfl rfl) zf_RX11_86 rfl (k_M s49) (rfM_46 s49) ?_
          refine zj_iload_n (zdk ttX11_couple 16 rfl rfl) rfl ?_
          refine zj_iconst (zdk ttX11_couple 17 rfl rfl) ?_
          refine zj_iast (zdk ttX11_couple 18 rfl rfl) (kaM_25 s49) (by decide) (by omega) (fun h74 e75 => ?_)
          refine zj_iinc (L' := [some (.inr 0), some (.inl p1), some (.inl p2), some (.inl (x47 + 1))]) (zdk ttX11_couple 19 rfl rfl) rfl (by decide) rfl ?_
          refine zj_goto (t := 17) (zdk ttX11_couple 20 rfl rfl) (by decide) ?_
          have s76 : okM h74 := awM_25 s49 e75 (by omega) (by unfold nsp; omega)
          have f77 : zfr [0, 45] [25] h h74 := zfr_wa f50 e75 rfl
          exact ih72  (x47 + 1) h74 (by omega) s76 f77 (by omega)
    have s78 : okM h45 := fwM_45 s44 e46 (by omega)
    have f80 : zfr [0, 45] [25] h h1 := zfr_wf (zfr_r _ _ _) e2 rfl
    have f79 : zfr [0, 45] [25] h h45 := zfr_wf f80 e46 rfl
    exact lp69 _ 0 h45 (by omega) s78 f79 (Nat.lt_succ_self _)

abbrev tX11_isPeace : List (Nat × Instr × Nat) := [(0, .iconst 0, 1), (1, .istore_n 2, 1), (2, .iload_n 2, 1), (3, .bipush 6, 2), (5, .if_icmp .ge 31, 3), (8, .aload_n 0, 1), (9, .iload_n 1, 1), (10, .iload_n 2, 1), (11, .invokevirtual 309, 3), (14, .ifCond .eq 16, 3), (17, .aload_n 0, 1), (18, .getfield 86, 3), (21, .iload_n 2, 1), (22, .iaload, 1), (23, .iload_n 1, 1), (24, .iand, 1), (25, .ifCond .eq 5, 3), (28, .iconst 0, 1), (29, .ireturn, 1), (30, .iinc 2 1, 3), (33, .goto (-31), 3), (36, .iconst 1, 1), (37, .ireturn, 1)]
theorem ttX11_isPeace : zdt cX11_isPeace tX11_isPeace = true := by decide +kernel
abbrev q_X11_isPeace (h : zM) (p1 : Int) : Option zV → zM → Prop := zqi fun v h' => h = h' ∧ (0 ≤ v ∧ v ≤ 1)
set_option maxRecDepth 100000 in
set_option maxHeartbeats 4000000 in
theorem s_X11_isPeace (l : Launch) (h : zM) (p1 : Int) (s0 : okM h) (b_p1 : (-2147483648) ≤ p1 ∧ p1 ≤ 2147483647) : zT shM l yX11_isPeace cX11_isPeace 3 (some .boolean) (rmL 2) 0 0 [.inr 0, .inl p1] h (q_X11_isPeace h p1) := by
  refine zT_of (by decide +kernel) (L0 := [some (.inr 0), some (.inl p1), none]) rfl (Nat.le_of_ble_eq_true rfl) ?_
  refine zj_iconst (zdk ttX11_isPeace 0 rfl rfl) ?_
  refine zj_istore_n (L' := [some (.inr 0), some (.inl p1), some (.inl 0)]) (zdk ttX11_isPeace 1 rfl rfl) (by decide) rfl ?_
  have lp52 : ∀ (n2 : Nat) (x1 : Int), (0 ≤ x1 ∧ x1 ≤ 6) → (7 - x1).toNat < n2 → zJ shM l yX11_isPeace cX11_isPeace 3 (some .boolean) (rmL 2) 0 0 (q_X11_isPeace h p1) 0 0 2 [some (.inr 0), some (.inl p1), some (.inl x1)] [] h := by
    intro n2
    induction n2 with
    | zero => intro x1 b53 m54; exact absurd m54 (Nat.not_lt_zero _)
    | succ n2 ih55 =>
      intro x1 b53 m54
      refine zj_iload_n (zdk ttX11_isPeace 2 rfl rfl) rfl ?_
      refine zj_bipush (zdk ttX11_isPeace 3 rfl rfl) (by decide) ?_
      refine zj_icmp_ge (t := 36) (zdk ttX11_isPeace 4 rfl rfl) (by decide) (by omega) (by decide) (fun c56 => ?_) (fun c56 => ?_)
      · refine zj_iconst (zdk ttX11_isPeace 21 rfl rfl) ?_
        exact zj_zret rfl (zdk ttX11_isPeace 22 rfl rfl) (Nat.le_refl _) (Nat.le_refl _) (by omega) ⟨1, rfl, rfl, by omega⟩
      · refine zj_aload_n (zdk ttX11_isPeace 5 rfl rfl) rfl (by decide) ?_
        refine zj_iload_n (zdk ttX11_isPeace 6 rfl rfl) rfl ?_
        refine zj_iload_n (zdk ttX11_isPeace 7 rfl rfl) rfl ?_
        refine zj_callV (av := [.inl p1, .inl x1]) (st := []) (zdk ttX11_isPeace 8 rfl rfl) mb_X11_has mv_RX11_309 (ci := 11) rfl rfl (k_M s0) rfl rfl (Nat.le_of_ble_eq_true rfl) (s_X11_has l h p1 x1 s0 (by omega) (by omega)) (rm_ok (by decide) (by decide)) (zq_i fun v58 h59 q57 => ?_)
        obtain ⟨rfl, ⟨rfl, b60⟩ | ⟨rfl, b60⟩⟩ := q57
        · refine zj_if_eq (t := 30) (zdk ttX11_isPeace 9 rfl rfl) (by decide) (by decide) (fun c61 => ?_) (fun c61 => ?_)
          · refine zj_iinc (L' := [some (.inr 0), some (.inl p1), some (.inl (x1 + 1))]) (zdk ttX11_isPeace 19 rfl rfl) rfl (by decide) rfl ?_
            refine zj_goto (t := 2) (zdk ttX11_isPeace 20 rfl rfl) (by decide) ?_
            exact ih55  (x1 + 1) (by omega) (by omega)
          · exact absurd c61 (by omega)
        · refine zj_if_eq (t := 30) (zdk ttX11_isPeace 9 rfl rfl) (by decide) (by decide) (fun c62 => ?_) (fun c62 => ?_)
          · exact absurd c62 (by omega)
          · refine zj_aload_n (zdk ttX11_isPeace 10 rfl rfl) rfl (by decide) ?_
            refine zj_getr (r := 25) (zdk ttX11_isPeace 11 rfl rfl) zf_RX11_86 rfl (k_M s0) (rfM_46 s0) ?_
            refine zj_iload_n (zdk ttX11_isPeace 12 rfl rfl) rfl ?_
            have b63 : -2147483648 ≤ (h.2 25 x1) ∧ (h.2 25 x1) ≤ 2147483647 := abM_25 s0 x1
            refine zj_iald (v := (h.2 25 x1)) (zdk ttX11_isPeace 13 rfl rfl) (kaM_25 s0) (by decide) (by omega) rfl ?_
            refine zj_iload_n (zdk ttX11_isPeace 14 rfl rfl) rfl ?_
            refine zj_iand (zdk ttX11_isPeace 15 rfl rfl) ?_
            have b64 := zand_in (h.2 25 x1) p1
            refine zj_if_eq (t := 30) (zdk ttX11_isPeace 16 rfl rfl) (by decide) (by omega) (fun c65 => ?_) (fun c65 => ?_)
            · refine zj_iinc (L' := [some (.inr 0), some (.inl p1), some (.inl (x1 + 1))]) (zdk ttX11_isPeace 19 rfl rfl) rfl (by decide) rfl ?_
              refine zj_goto (t := 2) (zdk ttX11_isPeace 20 rfl rfl) (by decide) ?_
              exact ih55  (x1 + 1) (by omega) (by omega)
            · refine zj_iconst (zdk ttX11_isPeace 17 rfl rfl) ?_
              exact zj_zret rfl (zdk ttX11_isPeace 18 rfl rfl) (Nat.le_refl _) (Nat.le_refl _) (by omega) ⟨0, rfl, rfl, by omega⟩
  exact lp52 _ 0 (by omega) (Nat.lt_succ_self _)

abbrev tX11_seat : List (Nat × Instr × Nat) := [(0, .aload_n 0, 1), (1, .iconst 0, 1), (2, .putfield 120, 3), (5, .iload_n 1, 1), (6, .iconst (-1), 1), (7, .if_icmp .ne 10, 3), (10, .aload_n 0, 1), (11, .iconst 0, 1), (12, .putfield 425, 3), (15, .iconst 0, 1), (16, .ireturn, 1), (17, .aload_n 0, 1), (18, .iload_n 1, 1), (19, .iconst 1, 1), (20, .bipush 99, 2), (22, .invokevirtual 139, 3), (25, .ifCond .eq 12, 3), (28, .aload_n 0, 1), (29, .getfield 425, 3), (32, .bipush 7, 2), (34, .if_icmp .ne 5, 3), (37, .iconst (-1), 1), (38, .ireturn, 1), (39, .aload_n 0, 1), (40, .getfield 96, 3), (43, .aload_n 0, 1), (44, .getfield 425, 3), (47, .iload_n 1, 1), (48, .iastore, 1), (49, .aload_n 0, 1), (50, .aload_n 0, 1), (51, .getfield 425, 3), (54, .iconst 1, 1), (55, .iadd, 1), (56, .putfield 425, 3), (59, .aload_n 0, 1), (60, .getfield 425, 3), (63, .ireturn, 1)]
theorem ttX11_seat : zdt cX11_seat tX11_seat = true := by decide +kernel
abbrev q_X11_seat (h : zM) (p1 : Int) : Option zV → zM → Prop := zqi fun v h' => ((-2147483648) ≤ v ∧ v ≤ 2147483647) ∧ okM h' ∧ zfr [0, 49] [28] h h'
set_option maxRecDepth 100000 in
set_option maxHeartbeats 4000000 in
theorem s_X11_seat (l : Launch) (h : zM) (p1 : Int) (s0 : okM h) (b_p1 : (-2147483648) ≤ p1 ∧ p1 ≤ 2147483647) : zT shM l yX11_seat cX11_seat 2 (some .int) (rmL 2) 0 0 [.inr 0, .inl p1] h (q_X11_seat h p1) := by
  refine zT_of (by decide +kernel) (L0 := [some (.inr 0), some (.inl p1)]) rfl (Nat.le_of_ble_eq_true rfl) ?_
  refine zj_aload_n (zdk ttX11_seat 0 rfl rfl) rfl (by decide) ?_
  refine zj_iconst (zdk ttX11_seat 1 rfl rfl) ?_
  refine zj_puti (zdk ttX11_seat 2 rfl rfl) zf_RX11_120 rfl (k_M s0) (Or.inl zw_RX11_120) (k2 := 0) rfl (fun h1 e2 => ?_)
  refine zj_iload_n (zdk ttX11_seat 3 rfl rfl) rfl ?_
  refine zj_iconst (zdk ttX11_seat 4 rfl rfl) ?_
  refine zj_icmp_ne (t := 17) (zdk ttX11_seat 5 rfl rfl) (by decide) (by omega) (by decide) (fun c3 => ?_) (fun c3 => ?_)
  · refine zj_aload_n (zdk ttX11_seat 11 rfl rfl) rfl (by decide) ?_
    refine zj_iload_n (zdk ttX11_seat 12 rfl rfl) rfl ?_
    refine zj_iconst (zdk ttX11_seat 13 rfl rfl) ?_
    refine zj_bipush (zdk ttX11_seat 14 rfl rfl) (by decide) ?_
    have s4 : okM h1 := fwM_0 s0 e2 (by omega)
    refine zj_callV (av := [.inl p1, .inl 1, .inl 99]) (st := []) (zdk ttX11_seat 15 rfl rfl) mb_X11_isIn mv_RX11_139 (ci := 11) rfl rfl (k_M s4) rfl rfl (Nat.le_of_ble_eq_true rfl) (s_X11_isIn l h1 p1 1 99 s4 (by omega) (by omega) (by omega)) (rm_ok (by decide) (by decide)) (zq_i fun v6 h7 q5 => ?_)
    obtain ⟨rfl, ⟨rfl, b8⟩ | ⟨rfl, b8⟩⟩ := q5
    · refine zj_if_eq (t := 37) (zdk ttX11_seat 16 rfl rfl) (by decide) (by decide) (fun c9 => ?_) (fun c9 => ?_)
      · refine zj_iconst (zdk ttX11_seat 21 rfl rfl) ?_
        have f10 : zfr [0, 49] [28] h h1 := zfr_wf (zfr_r _ _ _) e2 rfl
        exact zj_iret rfl (zdk ttX11_seat 22 rfl rfl) (Nat.le_refl _) (Nat.le_refl _) ⟨(-1), rfl, by omega, s4, f10⟩
      · exact absurd c9 (by omega)
    · refine zj_if_eq (t := 37) (zdk ttX11_seat 16 rfl rfl) (by decide) (by decide) (fun c11 => ?_) (fun c11 => ?_)
      · exact absurd c11 (by omega)
      · refine zj_aload_n (zdk ttX11_seat 17 rfl rfl) rfl (by decide) ?_
        have b12 : 0 ≤ (h.2 0 49) ∧ (h.2 0 49) ≤ 7 := fM_49 s0
        refine zj_geti (v := (h.2 0 49)) (zdk ttX11_seat 18 rfl rfl) zf_RX11_425 rfl (k_M s4) (zwr_r e2 (by first | decide | exact (absurd ·.1 (by decide)) | exact (absurd ·.2 (by decide)) | omega)) ?_
        refine zj_bipush (zdk ttX11_seat 19 rfl rfl) (by decide) ?_
        refine zj_icmp_ne (t := 39) (zdk ttX11_seat 20 rfl rfl) (by decide) (by omega) (by decide) (fun c13 => ?_) (fun c13 => ?_)
        · refine zj_aload_n (zdk ttX11_seat 23 rfl rfl) rfl (by decide) ?_
          refine zj_getr (r := 28) (zdk ttX11_seat 24 rfl rfl) zf_RX11_96 rfl (k_M s4) (rfM_50 s4) ?_
          refine zj_aload_n (zdk ttX11_seat 25 rfl rfl) rfl (by decide) ?_
          refine zj_geti (v := (h.2 0 49)) (zdk ttX11_seat 26 rfl rfl) zf_RX11_425 rfl (k_M s4) (zwr_r e2 (by first | decide | exact (absurd ·.1 (by decide)) | exact (absurd ·.2 (by decide)) | omega)) ?_
          refine zj_iload_n (zdk ttX11_seat 27 rfl rfl) rfl ?_
          refine zj_iast (zdk ttX11_seat 28 rfl rfl) (kaM_28 s4) (by decide) (by omega) (fun h14 e15 => ?_)
          refine zj_aload_n (zdk ttX11_seat 29 rfl rfl) rfl (by decide) ?_
          refine zj_aload_n (zdk ttX11_seat 30 rfl rfl) rfl (by decide) ?_
          have s16 : okM h14 := awM_28 s4 e15 (by omega) (by unfold nsp; omega)
          refine zj_geti (v := (h.2 0 49)) (zdk ttX11_seat 31 rfl rfl) zf_RX11_425 rfl (k_M s16) ((zwr_r e15 (by first | decide | exact (absurd ·.1 (by decide)) | exact (absurd ·.2 (by decide)) | omega)).trans (zwr_r e2 (by first | decide | exact (absurd ·.1 (by decide)) | exact (absurd ·.2 (by decide)) | omega))) ?_
          refine zj_iconst (zdk ttX11_seat 32 rfl rfl) ?_
          refine zj_iadd (zdk ttX11_seat 33 rfl rfl) ?_
          refine zj_puti (zdk ttX11_seat 34 rfl rfl) zf_RX11_425 rfl (k_M s16) (Or.inl zw_RX11_425) (k2 := 49) rfl (fun h17 e18 => ?_)
          refine zj_aload_n (zdk ttX11_seat 35 rfl rfl) rfl (by decide) ?_
          have s19 : okM h17 := fwM_49 s16 e18 (by omega)
          refine zj_geti (v := ((h.2 0 49) + 1)) (zdk ttX11_seat 36 rfl rfl) zf_RX11_425 rfl (k_M s19) (zwr_v e18) ?_
          have f22 : zfr [0, 49] [28] h h1 := zfr_wf (zfr_r _ _ _) e2 rfl
          have f21 : zfr [0, 49] [28] h h14 := zfr_wa f22 e15 rfl
          have f20 : zfr [0, 49] [28] h h17 := zfr_wf f21 e18 rfl
          exact zj_iret rfl (zdk ttX11_seat 37 rfl rfl) (Nat.le_refl _) (Nat.le_refl _) ⟨((h.2 0 49) + 1), rfl, by omega, s19, f20⟩
        · refine zj_iconst (zdk ttX11_seat 21 rfl rfl) ?_
          have f23 : zfr [0, 49] [28] h h1 := zfr_wf (zfr_r _ _ _) e2 rfl
          exact zj_iret rfl (zdk ttX11_seat 22 rfl rfl) (Nat.le_refl _) (Nat.le_refl _) ⟨(-1), rfl, by omega, s4, f23⟩
  · refine zj_aload_n (zdk ttX11_seat 6 rfl rfl) rfl (by decide) ?_
    refine zj_iconst (zdk ttX11_seat 7 rfl rfl) ?_
    have s24 : okM h1 := fwM_0 s0 e2 (by omega)
    refine zj_puti (zdk ttX11_seat 8 rfl rfl) zf_RX11_425 rfl (k_M s24) (Or.inl zw_RX11_425) (k2 := 49) rfl (fun h25 e26 => ?_)
    refine zj_iconst (zdk ttX11_seat 9 rfl rfl) ?_
    have s27 : okM h25 := fwM_49 s24 e26 (by omega)
    have f29 : zfr [0, 49] [28] h h1 := zfr_wf (zfr_r _ _ _) e2 rfl
    have f28 : zfr [0, 49] [28] h h25 := zfr_wf f29 e26 rfl
    exact zj_iret rfl (zdk ttX11_seat 10 rfl rfl) (Nat.le_refl _) (Nat.le_refl _) ⟨0, rfl, by omega, s27, f28⟩

