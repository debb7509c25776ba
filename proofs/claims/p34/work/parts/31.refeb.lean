abbrev tX11_keepsLaw : List (Nat × Instr × Nat) := [(0, .aload_n 0, 1), (1, .getfield 34, 3), (4, .iconst 0, 1), (5, .aload_n 0, 1), (6, .aload_n 0, 1), (7, .getfield 34, 3), (10, .iconst 0, 1), (11, .iaload, 1), (12, .invokevirtual 467, 3), (15, .iastore, 1), (16, .iconst 0, 1), (17, .istore_n 1, 1), (18, .iload_n 1, 1), (19, .bipush 16, 2), (21, .if_icmp .ge 73, 3), (24, .aload_n 0, 1), (25, .getfield 37, 3), (28, .iload_n 1, 1), (29, .aload_n 0, 1), (30, .aload_n 0, 1), (31, .getfield 37, 3), (34, .iload_n 1, 1), (35, .iaload, 1), (36, .invokevirtual 467, 3), (39, .iastore, 1), (40, .aload_n 0, 1), (41, .getfield 40, 3), (44, .iload_n 1, 1), (45, .aload_n 0, 1), (46, .aload_n 0, 1), (47, .getfield 40, 3), (50, .iload_n 1, 1), (51, .iaload, 1), (52, .invokevirtual 467, 3), (55, .iastore, 1), (56, .aload_n 0, 1), (57, .getfield 43, 3), (60, .iload_n 1, 1), (61, .aload_n 0, 1), (62, .aload_n 0, 1), (63, .getfield 43, 3), (66, .iload_n 1, 1), (67, .iaload, 1), (68, .invokevirtual 467, 3), (71, .iastore, 1), (72, .aload_n 0, 1), (73, .getfield 46, 3), (76, .iload_n 1, 1), (77, .aload_n 0, 1), (78, .aload_n 0, 1), (79, .getfield 46, 3), (82, .iload_n 1, 1), (83, .iaload, 1), (84, .invokevirtual 467, 3), (87, .iastore, 1), (88, .iinc 1 1, 3), (91, .goto (-73), 3), (94, .iconst 0, 1), (95, .istore_n 1, 1), (96, .iload_n 1, 1), (97, .sipush 400, 3), (100, .if_icmp .ge 41, 3), (103, .aload_n 0, 1), (104, .getfield 49, 3), (107, .iload_n 1, 1), (108, .aload_n 0, 1), (109, .aload_n 0, 1), (110, .getfield 49, 3), (113, .iload_n 1, 1), (114, .iaload, 1), (115, .invokevirtual 467, 3), (118, .iastore, 1), (119, .aload_n 0, 1), (120, .getfield 52, 3), (123, .iload_n 1, 1), (124, .aload_n 0, 1), (125, .aload_n 0, 1), (126, .getfield 52, 3), (129, .iload_n 1, 1), (130, .iaload, 1), (131, .invokevirtual 467, 3), (134, .iastore, 1), (135, .iinc 1 1, 3), (138, .goto (-42), 3), (141, .return_, 1)]
theorem ttX11_keepsLaw : zdt cX11_keepsLaw tX11_keepsLaw = true := by decide +kernel
abbrev q_X11_keepsLaw (h : zM) (h0 : zM) : Option zV → zM → Prop := zqv fun h' => okB h' ∧ zfr [60] [9, 10, 11, 12, 13, 14, 15, 35] h h' ∧ (zSt h0 h' 1727)
set_option maxRecDepth 100000 in
set_option maxHeartbeats 4000000 in
theorem s_X11_keepsLaw (l : Launch) (h : zM) (h0 : zM) (s0 : okB h) (u_0 : zSt h0 h 862) (u_1 : zPI h0) : zT shM l yX11_keepsLaw cX11_keepsLaw 2 none (rmL 2) 0 0 [.inr 0] h (q_X11_keepsLaw h h0) := by
  refine zT_of (by decide +kernel) (L0 := [some (.inr 0), none]) rfl (Nat.le_of_ble_eq_true rfl) ?_
  refine zj_aload_n (zdk ttX11_keepsLaw 0 rfl rfl) rfl (by decide) ?_
  refine zj_getr (r := 9) (zdk ttX11_keepsLaw 1 rfl rfl) zf_RX11_34 rfl (k_B s0) (rfB_17 s0) ?_
  refine zj_iconst (zdk ttX11_keepsLaw 2 rfl rfl) ?_
  refine zj_aload_n (zdk ttX11_keepsLaw 3 rfl rfl) rfl (by decide) ?_
  refine zj_aload_n (zdk ttX11_keepsLaw 4 rfl rfl) rfl (by decide) ?_
  refine zj_getr (r := 9) (zdk ttX11_keepsLaw 5 rfl rfl) zf_RX11_34 rfl (k_B s0) (rfB_17 s0) ?_
  refine zj_iconst (zdk ttX11_keepsLaw 6 rfl rfl) ?_
  have b1 : 0 ≤ (h.2 9 0) ∧ (h.2 9 0) ≤ 16 := abB_9 s0 0
  refine zj_iald (v := (h.2 9 0)) (zdk ttX11_keepsLaw 7 rfl rfl) (kaB_9 s0) (by decide) (by omega) rfl ?_
  refine zj_callV (av := [.inl (h.2 9 0)]) (st := [.inl 0, .inr 9]) (zdk ttX11_keepsLaw 8 rfl rfl) mb_X11_keeps mv_RX11_467 (ci := 11) rfl rfl (k_B s0) rfl rfl (Nat.le_of_ble_eq_true rfl) (s_X11_keeps l h (h.2 9 0) s0 (by omega) (by have := u_0.1; omega)) (rm_ok (by decide) (by decide)) (zq_i fun v3 h4 q2 => ?_)
  obtain ⟨b5, s6, f10, u7, u8, u9⟩ := q2
  refine zj_iast (zdk ttX11_keepsLaw 9 rfl rfl) (kaB_9 s6) (by decide) (by omega) (fun h11 e12 => ?_)
  refine zj_iconst (zdk ttX11_keepsLaw 10 rfl rfl) ?_
  refine zj_istore_n (L' := [some (.inr 0), some (.inl 0)]) (zdk ttX11_keepsLaw 11 rfl rfl) (by decide) rfl ?_
  have lp292 : ∀ (n18 : Nat) (x13 : Int) (h14 : zM), (0 ≤ x13 ∧ x13 ≤ 16) → okB h14 → zfr [60] [9, 10, 11, 12, 13, 14, 15, 35] h h14 → (zSt h0 h14 (863 + 4 * x13)) → (17 - x13).toNat < n18 → zJ shM l yX11_keepsLaw cX11_keepsLaw 2 none (rmL 2) 0 0 (q_X11_keepsLaw h h0) 0 0 18 [some (.inr 0), some (.inl x13)] [] h14 := by
    intro n18
    induction n18 with
    | zero => intro x13 h14 b293 s15 f16 u294 m295; exact absurd m295 (Nat.not_lt_zero _)
    | succ n18 ih296 =>
      intro x13 h14 b293 s15 f16 u294 m295
      refine zj_iload_n (zdk ttX11_keepsLaw 12 rfl rfl) rfl ?_
      refine zj_bipush (zdk ttX11_keepsLaw 13 rfl rfl) (by decide) ?_
      refine zj_icmp_ge (t := 94) (zdk ttX11_keepsLaw 14 rfl rfl) (by decide) (by omega) (by decide) (fun c297 => ?_) (fun c297 => ?_)
      · refine zj_iconst (zdk ttX11_keepsLaw 57 rfl rfl) ?_
        refine zj_istore_n (L' := [some (.inr 0), some (.inl 0)]) (zdk ttX11_keepsLaw 58 rfl rfl) (by decide) rfl ?_
        have lp518 : ∀ (n96 : Nat) (x298 : Int) (h299 : zM), (0 ≤ x298 ∧ x298 ≤ 400) → okB h299 → zfr [60] [9, 10, 11, 12, 13, 14, 15, 35] h h299 → (zSt h0 h299 (927 + 2 * x298)) → (401 - x298).toNat < n96 → zJ shM l yX11_keepsLaw cX11_keepsLaw 2 none (rmL 2) 0 0 (q_X11_keepsLaw h h0) 0 0 96 [some (.inr 0), some (.inl x298)] [] h299 := by
          intro n96
          induction n96 with
          | zero => intro x298 h299 b519 s300 f301 u520 m521; exact absurd m521 (Nat.not_lt_zero _)
          | succ n96 ih522 =>
            intro x298 h299 b519 s300 f301 u520 m521
            refine zj_iload_n (zdk ttX11_keepsLaw 59 rfl rfl) rfl ?_
            refine zj_sipush (zdk ttX11_keepsLaw 60 rfl rfl) (by decide) ?_
            refine zj_icmp_ge (t := 141) (zdk ttX11_keepsLaw 61 rfl rfl) (by decide) (by omega) (by decide) (fun c523 => ?_) (fun c523 => ?_)
            · exact zj_vret rfl (zdk ttX11_keepsLaw 84 rfl rfl) (Nat.le_refl _) (Nat.le_refl _) ⟨rfl, s300, f301, (zSt_j u520 (by omega))⟩
            · refine zj_aload_n (zdk ttX11_keepsLaw 62 rfl rfl) rfl (by decide) ?_
              refine zj_getr (r := 14) (zdk ttX11_keepsLaw 63 rfl rfl) zf_RX11_49 rfl (k_B s300) (rfB_22 s300) ?_
              refine zj_iload_n (zdk ttX11_keepsLaw 64 rfl rfl) rfl ?_
              refine zj_aload_n (zdk ttX11_keepsLaw 65 rfl rfl) rfl (by decide) ?_
              refine zj_aload_n (zdk ttX11_keepsLaw 66 rfl rfl) rfl (by decide) ?_
              refine zj_getr (r := 14) (zdk ttX11_keepsLaw 67 rfl rfl) zf_RX11_49 rfl (k_B s300) (rfB_22 s300) ?_
              refine zj_iload_n (zdk ttX11_keepsLaw 68 rfl rfl) rfl ?_
              have b524 : -2147483648 ≤ (h299.2 14 x298) ∧ (h299.2 14 x298) ≤ 2147483647 := abB_14 s300 x298
              refine zj_iald (v := (h299.2 14 x298)) (zdk ttX11_keepsLaw 69 rfl rfl) (kaB_14 s300) (by decide) (by omega) rfl ?_
              refine zj_callV (av := [.inl (h299.2 14 x298)]) (st := [.inl x298, .inr 14]) (zdk ttX11_keepsLaw 70 rfl rfl) mb_X11_keeps mv_RX11_467 (ci := 11) rfl rfl (k_B s300) rfl rfl (Nat.le_of_ble_eq_true rfl) (s_X11_keeps l h299 (h299.2 14 x298) s300 (by omega) (by have := u520.1; omega)) (rm_ok (by decide) (by decide)) (zq_i fun v526 h527 q525 => ?_)
              obtain ⟨b528, s529, f533, u530, u531, u532⟩ := q525
              refine zj_iast (zdk ttX11_keepsLaw 71 rfl rfl) (kaB_14 s529) (by decide) (by omega) (fun h534 e535 => ?_)
              refine zj_aload_n (zdk ttX11_keepsLaw 72 rfl rfl) rfl (by decide) ?_
              have z537r : h299.2 14 x298 = (h299.2 14 x298) := rfl
              have z537l : zloc (927 + 2 * x298) = (14, x298) := (zl_14 (by omega) (by omega))
              have z537 : zSt h0 h534 (927 + 2 * x298 + 1) := zSt_step u520 (by omega) z537l f533 u530 u531 z537r u532 e535
              have s536 : okB h534 := okB_w s529 e535 (zSt_pm u520 (by omega) z537l s300 u_1 u531 z537r u532)
              refine zj_getr (r := 15) (zdk ttX11_keepsLaw 73 rfl rfl) zf_RX11_52 rfl (k_B s536) (rfB_23 s536) ?_
              refine zj_iload_n (zdk ttX11_keepsLaw 74 rfl rfl) rfl ?_
              refine zj_aload_n (zdk ttX11_keepsLaw 75 rfl rfl) rfl (by decide) ?_
              refine zj_aload_n (zdk ttX11_keepsLaw 76 rfl rfl) rfl (by decide) ?_
              refine zj_getr (r := 15) (zdk ttX11_keepsLaw 77 rfl rfl) zf_RX11_52 rfl (k_B s536) (rfB_23 s536) ?_
              refine zj_iload_n (zdk ttX11_keepsLaw 78 rfl rfl) rfl ?_
              have b538 : -2147483648 ≤ (h299.2 15 x298) ∧ (h299.2 15 x298) ≤ 2147483647 := abB_15 s300 x298
              refine zj_iald (v := (h299.2 15 x298)) (zdk ttX11_keepsLaw 79 rfl rfl) (kaB_15 s536) (by decide) (by omega) ((zwr_r e535 (by first | decide | exact (absurd ·.1 (by decide)) | exact (absurd ·.2 (by decide)) | omega)).trans (zfr_a f533 rfl (by decide))) ?_
              refine zj_callV (av := [.inl (h299.2 15 x298)]) (st := [.inl x298, .inr 15]) (zdk ttX11_keepsLaw 80 rfl rfl) mb_X11_keeps mv_RX11_467 (ci := 11) rfl rfl (k_B s536) rfl rfl (Nat.le_of_ble_eq_true rfl) (s_X11_keeps l h534 (h299.2 15 x298) s536 (by omega) (by have := z537.1; omega)) (rm_ok (by decide) (by decide)) (zq_i fun v540 h541 q539 => ?_)
              obtain ⟨b542, s543, f547, u544, u545, u546⟩ := q539
              refine zj_iast (zdk ttX11_keepsLaw 81 rfl rfl) (kaB_15 s543) (by decide) (by omega) (fun h548 e549 => ?_)
              refine zj_iinc (L' := [some (.inr 0), some (.inl (x298 + 1))]) (zdk ttX11_keepsLaw 82 rfl rfl) rfl (by decide) rfl ?_
              refine zj_goto (t := 96) (zdk ttX11_keepsLaw 83 rfl rfl) (by decide) ?_
              have z551r : h534.2 15 x298 = (h299.2 15 x298) := ((zwr_r e535 (by first | decide | exact (absurd ·.1 (by decide)) | exact (absurd ·.2 (by decide)) | omega)).trans (zfr_a f533 rfl (by decide)))
              have z551l : zloc (927 + 2 * x298 + 1) = (15, x298) := (zl_15 (by omega) (by omega))
              have z551 : zSt h0 h548 (927 + 2 * x298 + 1 + 1) := zSt_step z537 (by omega) z551l f547 u544 u545 z551r u546 e549
              have s550 : okB h548 := okB_w s543 e549 (zSt_pm z537 (by omega) z551l s536 u_1 u545 z551r u546)
              have f555 : zfr [60] [9, 10, 11, 12, 13, 14, 15, 35] h h527 := zfr_t f301 f533 rfl rfl
              have f554 : zfr [60] [9, 10, 11, 12, 13, 14, 15, 35] h h534 := zfr_wa f555 e535 rfl
              have f553 : zfr [60] [9, 10, 11, 12, 13, 14, 15, 35] h h541 := zfr_t f554 f547 rfl rfl
              have f552 : zfr [60] [9, 10, 11, 12, 13, 14, 15, 35] h h548 := zfr_wa f553 e549 rfl
              exact ih522  (x298 + 1) h548 (by omega) s550 f552 (zSt_j z551 (by omega)) (by omega)
        exact lp518 _ 0 h14 (by omega) s15 f16 (zSt_j u294 (by omega)) (Nat.lt_succ_self _)
      · refine zj_aload_n (zdk ttX11_keepsLaw 15 rfl rfl) rfl (by decide) ?_
        refine zj_getr (r := 10) (zdk ttX11_keepsLaw 16 rfl rfl) zf_RX11_37 rfl (k_B s15) (rfB_18 s15) ?_
        refine zj_iload_n (zdk ttX11_keepsLaw 17 rfl rfl) rfl ?_
        refine zj_aload_n (zdk ttX11_keepsLaw 18 rfl rfl) rfl (by decide) ?_
        refine zj_aload_n (zdk ttX11_keepsLaw 19 rfl rfl) rfl (by decide) ?_
        refine zj_getr (r := 10) (zdk ttX11_keepsLaw 20 rfl rfl) zf_RX11_37 rfl (k_B s15) (rfB_18 s15) ?_
        refine zj_iload_n (zdk ttX11_keepsLaw 21 rfl rfl) rfl ?_
        have b556 : -2147483648 ≤ (h14.2 10 x13) ∧ (h14.2 10 x13) ≤ 2147483647 := abB_10 s15 x13
        refine zj_iald (v := (h14.2 10 x13)) (zdk ttX11_keepsLaw 22 rfl rfl) (kaB_10 s15) (by decide) (by omega) rfl ?_
        refine zj_callV (av := [.inl (h14.2 10 x13)]) (st := [.inl x13, .inr 10]) (zdk ttX11_keepsLaw 23 rfl rfl) mb_X11_keeps mv_RX11_467 (ci := 11) rfl rfl (k_B s15) rfl rfl (Nat.le_of_ble_eq_true rfl) (s_X11_keeps l h14 (h14.2 10 x13) s15 (by omega) (by have := u294.1; omega)) (rm_ok (by decide) (by decide)) (zq_i fun v558 h559 q557 => ?_)
        obtain ⟨b560, s561, f565, u562, u563, u564⟩ := q557
        refine zj_iast (zdk ttX11_keepsLaw 24 rfl rfl) (kaB_10 s561) (by decide) (by omega) (fun h566 e567 => ?_)
        refine zj_aload_n (zdk ttX11_keepsLaw 25 rfl rfl) rfl (by decide) ?_
        have z569r : h14.2 10 x13 = (h14.2 10 x13) := rfl
        have z569l : zloc (863 + 4 * x13) = (10, x13) := (zl_10 (by omega) (by omega))
        have z569 : zSt h0 h566 (863 + 4 * x13 + 1) := zSt_step u294 (by omega) z569l f565 u562 u563 z569r u564 e567
        have s568 : okB h566 := okB_w s561 e567 (zSt_pm u294 (by omega) z569l s15 u_1 u563 z569r u564)
        refine zj_getr (r := 11) (zdk ttX11_keepsLaw 26 rfl rfl) zf_RX11_40 rfl (k_B s568) (rfB_19 s568) ?_
        refine zj_iload_n (zdk ttX11_keepsLaw 27 rfl rfl) rfl ?_
        refine zj_aload_n (zdk ttX11_keepsLaw 28 rfl rfl) rfl (by decide) ?_
        refine zj_aload_n (zdk ttX11_keepsLaw 29 rfl rfl) rfl (by decide) ?_
        refine zj_getr (r := 11) (zdk ttX11_keepsLaw 30 rfl rfl) zf_RX11_40 rfl (k_B s568) (rfB_19 s568) ?_
        refine zj_iload_n (zdk ttX11_keepsLaw 31 rfl rfl) rfl ?_
        have b570 : 0 ≤ (h14.2 11 x13) ∧ (h14.2 11 x13) ≤ 400 := abB_11 s15 x13
        refine zj_iald (v := (h14.2 11 x13)) (zdk ttX11_keepsLaw 32 rfl rfl) (kaB_11 s568) (by decide) (by omega) ((zwr_r e567 (by first | decide | exact (absurd ·.1 (by decide)) | exact (absurd ·.2 (by decide)) | omega)).trans (zfr_a f565 rfl (by decide))) ?_
        refine zj_callV (av := [.inl (h14.2 11 x13)]) (st := [.inl x13, .inr 11]) (zdk ttX11_keepsLaw 33 rfl rfl) mb_X11_keeps mv_RX11_467 (ci := 11) rfl rfl (k_B s568) rfl rfl (Nat.le_of_ble_eq_true rfl) (s_X11_keeps l h566 (h14.2 11 x13) s568 (by omega) (by have := z569.1; omega)) (rm_ok (by decide) (by decide)) (zq_i fun v572 h573 q571 => ?_)
        obtain ⟨b574, s575, f579, u576, u577, u578⟩ := q571
        refine zj_iast (zdk ttX11_keepsLaw 34 rfl rfl) (kaB_11 s575) (by decide) (by omega) (fun h580 e581 => ?_)
        refine zj_aload_n (zdk ttX11_keepsLaw 35 rfl rfl) rfl (by decide) ?_
        have z583r : h566.2 11 x13 = (h14.2 11 x13) := ((zwr_r e567 (by first | decide | exact (absurd ·.1 (by decide)) | exact (absurd ·.2 (by decide)) | omega)).trans (zfr_a f565 rfl (by decide)))
        have z583l : zloc (863 + 4 * x13 + 1) = (11, x13) := (zl_11 (by omega) (by omega))
        have z583 : zSt h0 h580 (863 + 4 * x13 + 1 + 1) := zSt_step z569 (by omega) z583l f579 u576 u577 z583r u578 e581
        have s582 : okB h580 := okB_w s575 e581 (zSt_pm z569 (by omega) z583l s568 u_1 u577 z583r u578)
        refine zj_getr (r := 12) (zdk ttX11_keepsLaw 36 rfl rfl) zf_RX11_43 rfl (k_B s582) (rfB_20 s582) ?_
        refine zj_iload_n (zdk ttX11_keepsLaw 37 rfl rfl) rfl ?_
        refine zj_aload_n (zdk ttX11_keepsLaw 38 rfl rfl) rfl (by decide) ?_
        refine zj_aload_n (zdk ttX11_keepsLaw 39 rfl rfl) rfl (by decide) ?_
        refine zj_getr (r := 12) (zdk ttX11_keepsLaw 40 rfl rfl) zf_RX11_43 rfl (k_B s582) (rfB_20 s582) ?_
        refine zj_iload_n (zdk ttX11_keepsLaw 41 rfl rfl) rfl ?_
        have b584 : 0 ≤ (h14.2 12 x13) ∧ (h14.2 12 x13) ≤ 400 := abB_12 s15 x13
        refine zj_iald (v := (h14.2 12 x13)) (zdk ttX11_keepsLaw 42 rfl rfl) (kaB_12 s582) (by decide) (by omega) ((((zwr_r e581 (by first | decide | exact (absurd ·.1 (by decide)) | exact (absurd ·.2 (by decide)) | omega)).trans (zfr_a f579 rfl (by decide))).trans (zwr_r e567 (by first | decide | exact (absurd ·.1 (by decide)) | exact (absurd ·.2 (by decide)) | omega))).trans (zfr_a f565 rfl (by decide))) ?_
        refine zj_callV (av := [.inl (h14.2 12 x13)]) (st := [.inl x13, .inr 12]) (zdk ttX11_keepsLaw 43 rfl rfl) mb_X11_keeps mv_RX11_467 (ci := 11) rfl rfl (k_B s582) rfl rfl (Nat.le_of_ble_eq_true rfl) (s_X11_keeps l h580 (h14.2 12 x13) s582 (by omega) (by have := z583.1; omega)) (rm_ok (by decide) (by decide)) (zq_i fun v586 h587 q585 => ?_)
        obtain ⟨b588, s589, f593, u590, u591, u592⟩ := q585
        refine zj_iast (zdk ttX11_keepsLaw 44 rfl rfl) (kaB_12 s589) (by decide) (by omega) (fun h594 e595 => ?_)
        refine zj_aload_n (zdk ttX11_keepsLaw 45 rfl rfl) rfl (by decide) ?_
        have z597r : h580.2 12 x13 = (h14.2 12 x13) := ((((zwr_r e581 (by first | decide | exact (absurd ·.1 (by decide)) | exact (absurd ·.2 (by decide)) | omega)).trans (zfr_a f579 rfl (by decide))).trans (zwr_r e567 (by first | decide | exact (absurd ·.1 (by decide)) | exact (absurd ·.2 (by decide)) | omega))).trans (zfr_a f565 rfl (by decide)))
        have z597l : zloc (863 + 4 * x13 + 1 + 1) = (12, x13) := (zl_12 (by omega) (by omega))
        have z597 : zSt h0 h594 (863 + 4 * x13 + 1 + 1 + 1) := zSt_step z583 (by omega) z597l f593 u590 u591 z597r u592 e595
        have s596 : okB h594 := okB_w s589 e595 (zSt_pm z583 (by omega) z597l s582 u_1 u591 z597r u592)
        refine zj_getr (r := 13) (zdk ttX11_keepsLaw 46 rfl rfl) zf_RX11_46 rfl (k_B s596) (rfB_21 s596) ?_
        refine zj_iload_n (zdk ttX11_keepsLaw 47 rfl rfl) rfl ?_
        refine zj_aload_n (zdk ttX11_keepsLaw 48 rfl rfl) rfl (by decide) ?_
        refine zj_aload_n (zdk ttX11_keepsLaw 49 rfl rfl) rfl (by decide) ?_
        refine zj_getr (r := 13) (zdk ttX11_keepsLaw 50 rfl rfl) zf_RX11_46 rfl (k_B s596) (rfB_21 s596) ?_
        refine zj_iload_n (zdk ttX11_keepsLaw 51 rfl rfl) rfl ?_
        have b598 : 0 ≤ (h14.2 13 x13) ∧ (h14.2 13 x13) ≤ 400 := abB_13 s15 x13
        refine zj_iald (v := (h14.2 13 x13)) (zdk ttX11_keepsLaw 52 rfl rfl) (kaB_13 s596) (by decide) (by omega) ((((((zwr_r e595 (by first | decide | exact (absurd ·.1 (by decide)) | exact (absurd ·.2 (by decide)) | omega)).trans (zfr_a f593 rfl (by decide))).trans (zwr_r e581 (by first | decide | exact (absurd ·.1 (by decide)) | exact (absurd ·.2 (by decide)) | omega))).trans (zfr_a f579 rfl (by decide))).trans (zwr_r e567 (by first | decide | exact (absurd ·.1 (by decide)) | exact (absurd ·.2 (by decide)) | omega))).trans (zfr_a f565 rfl (by decide))) ?_
        refine zj_callV (av := [.inl (h14.2 13 x13)]) (st := [.inl x13, .inr 13]) (zdk ttX11_keepsLaw 53 rfl rfl) mb_X11_keeps mv_RX11_467 (ci := 11) rfl rfl (k_B s596) rfl rfl (Nat.le_of_ble_eq_true rfl) (s_X11_keeps l h594 (h14.2 13 x13) s596 (by omega) (by have := z597.1; omega)) (rm_ok (by decide) (by decide)) (zq_i fun v600 h601 q599 => ?_)
        obtain ⟨b602, s603, f607, u604, u605, u606⟩ := q599
        refine zj_iast (zdk ttX11_keepsLaw 54 rfl rfl) (kaB_13 s603) (by decide) (by omega) (fun h608 e609 => ?_)
        refine zj_iinc (L' := [some (.inr 0), some (.inl (x13 + 1))]) (zdk ttX11_keepsLaw 55 rfl rfl) rfl (by decide) rfl ?_
        refine zj_goto (t := 18) (zdk ttX11_keepsLaw 56 rfl rfl) (by decide) ?_
        have z611r : h594.2 13 x13 = (h14.2 13 x13) := ((((((zwr_r e595 (by first | decide | exact (absurd ·.1 (by decide)) | exact (absurd ·.2 (by decide)) | omega)).trans (zfr_a f593 rfl (by decide))).trans (zwr_r e581 (by first | decide | exact (absurd ·.1 (by decide)) | exact (absurd ·.2 (by decide)) | omega))).trans (zfr_a f579 rfl (by decide))).trans (zwr_r e567 (by first | decide | exact (absurd ·.1 (by decide)) | exact (absurd ·.2 (by decide)) | omega))).trans (zfr_a f565 rfl (by decide)))
        have z611l : zloc (863 + 4 * x13 + 1 + 1 + 1) = (13, x13) := (zl_13 (by omega) (by omega))
        have z611 : zSt h0 h608 (863 + 4 * x13 + 1 + 1 + 1 + 1) := zSt_step z597 (by omega) z611l f607 u604 u605 z611r u606 e609
        have s610 : okB h608 := okB_w s603 e609 (zSt_pm z597 (by omega) z611l s596 u_1 u605 z611r u606)
        have f619 : zfr [60] [9, 10, 11, 12, 13, 14, 15, 35] h h559 := zfr_t f16 f565 rfl rfl
        have f618 : zfr [60] [9, 10, 11, 12, 13, 14, 15, 35] h h566 := zfr_wa f619 e567 rfl
        have f617 : zfr [60] [9, 10, 11, 12, 13, 14, 15, 35] h h573 := zfr_t f618 f579 rfl rfl
        have f616 : zfr [60] [9, 10, 11, 12, 13, 14, 15, 35] h h580 := zfr_wa f617 e581 rfl
        have f615 : zfr [60] [9, 10, 11, 12, 13, 14, 15, 35] h h587 := zfr_t f616 f593 rfl rfl
        have f614 : zfr [60] [9, 10, 11, 12, 13, 14, 15, 35] h h594 := zfr_wa f615 e595 rfl
        have f613 : zfr [60] [9, 10, 11, 12, 13, 14, 15, 35] h h601 := zfr_t f614 f607 rfl rfl
        have f612 : zfr [60] [9, 10, 11, 12, 13, 14, 15, 35] h h608 := zfr_wa f613 e609 rfl
        exact ih296  (x13 + 1) h608 (by omega) s610 f612 (zSt_j z611 (by omega)) (by omega)
  have z621r : h.2 9 0 = (h.2 9 0) := rfl
  have z621l : zloc (862) = (9, 0) := (zl_9 rfl (by omega))
  have z621 : zSt h0 h11 (862 + 1) := zSt_step u_0 (by omega) z621l f10 u7 u8 z621r u9 e12
  have s620 : okB h11 := okB_w s6 e12 (zSt_pm u_0 (by omega) z621l s0 u_1 u8 z621r u9)
  have f623 : zfr [60] [9, 10, 11, 12, 13, 14, 15, 35] h h4 := zfr_t (zfr_r _ _ _) f10 rfl rfl
  have f622 : zfr [60] [9, 10, 11, 12, 13, 14, 15, 35] h h11 := zfr_wa f623 e12 rfl
  exact lp292 _ 0 h11 (by omega) s620 f622 (zSt_j z621 (by omega)) (Nat.lt_succ_self _)

abbrev tX11_image : List (Nat × Instr × Nat) := [(0, .aload_n 0, 1), (1, .iconst 0, 1), (2, .putfield 120, 3), (5, .iload_n 1, 1), (6, .ifCond .ne 12, 3), (9, .aload_n 0, 1), (10, .getfield 470, 3), (13, .ifCond .ne 5, 3), (16, .iconst 0, 1), (17, .ireturn, 1), (18, .aload_n 0, 1), (19, .iload_n 1, 1), (20, .putfield 464, 3), (23, .aload_n 0, 1), (24, .iconst 1, 1), (25, .putfield 470, 3), (28, .aload_n 0, 1), (29, .iconst 0, 1), (30, .putfield 461, 3), (33, .iconst 0, 1), (34, .istore_n 2, 1), (35, .iload_n 2, 1), (36, .bipush 63, 2), (38, .if_icmp .ge 25, 3), (41, .aload_n 0, 1), (42, .getfield 7, 3), (45, .iload_n 2, 1), (46, .aload_n 0, 1), (47, .aload_n 0, 1), (48, .getfield 7, 3), (51, .iload_n 2, 1), (52, .iaload, 1), (53, .invokevirtual 467, 3), (56, .iastore, 1), (57, .iinc 2 1, 3), (60, .goto (-25), 3), (63, .aload_n 0, 1), (64, .invokevirtual 473, 3), (67, .iconst 0, 1), (68, .istore_n 2, 1), (69, .iload_n 2, 1), (70, .sipush 600, 3), (73, .if_icmp .ge 25, 3), (76, .aload_n 0, 1), (77, .getfield 25, 3), (80, .iload_n 2, 1), (81, .aload_n 0, 1), (82, .aload_n 0, 1), (83, .getfield 25, 3), (86, .iload_n 2, 1), (87, .iaload, 1), (88, .invokevirtual 467, 3), (91, .iastore, 1), (92, .iinc 2 1, 3), (95, .goto (-26), 3), (98, .aload_n 0, 1), (99, .invokevirtual 476, 3), (102, .iload_n 1, 1), (103, .ifCond .ne 8, 3), (106, .aload_n 0, 1), (107, .iconst 0, 1), (108, .putfield 123, 3), (111, .iconst 1, 1), (112, .ireturn, 1)]
theorem ttX11_image : zdt cX11_image tX11_image = true := by decide +kernel
