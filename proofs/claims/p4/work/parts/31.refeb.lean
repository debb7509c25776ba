abbrev tX11_keepsLaw : List (Nat × Instr × Nat) := [(0, .aload_n 0, 1), (1, .getfield 34, 3), (4, .iconst 0, 1), (5, .aload_n 0, 1), (6, .aload_n 0, 1), (7, .getfield 34, 3), (10, .iconst 0, 1), (11, .iaload, 1), (12, .invokevirtual 467, 3), (15, .iastore, 1), (16, .iconst 0, 1), (17, .istore_n 1, 1), (18, .iload_n 1, 1), (19, .bipush 16, 2), (21, .if_icmp .ge 73, 3), (24, .aload_n 0, 1), (25, .getfield 37, 3), (28, .iload_n 1, 1), (29, .aload_n 0, 1), (30, .aload_n 0, 1), (31, .getfield 37, 3), (34, .iload_n 1, 1), (35, .iaload, 1), (36, .invokevirtual 467, 3), (39, .iastore, 1), (40, .aload_n 0, 1), (41, .getfield 40, 3), (44, .iload_n 1, 1), (45, .aload_n 0, 1), (46, .aload_n 0, 1), (47, .getfield 40, 3), (50, .iload_n 1, 1), (51, .iaload, 1), (52, .invokevirtual 467, 3), (55, .iastore, 1), (56, .aload_n 0, 1), (57, .getfield 43, 3), (60, .iload_n 1, 1), (61, .aload_n 0, 1), (62, .aload_n 0, 1), (63, .getfield 43, 3), (66, .iload_n 1, 1), (67, .iaload, 1), (68, .invokevirtual 467, 3), (71, .iastore, 1), (72, .aload_n 0, 1), (73, .getfield 46, 3), (76, .iload_n 1, 1), (77, .aload_n 0, 1), (78, .aload_n 0, 1), (79, .getfield 46, 3), (82, .iload_n 1, 1), (83, .iaload, 1), (84, .invokevirtual 467, 3), (87, .iastore, 1), (88, .iinc 1 1, 3), (91, .goto (-73), 3), (94, .iconst 0, 1), (95, .istore_n 1, 1), (96, .iload_n 1, 1), (97, .sipush 400, 3), (100, .if_icmp .ge 41, 3), (103, .aload_n 0, 1), (104, .getfield 49, 3), (107, .iload_n 1, 1), (108, .aload_n 0, 1), (109, .aload_n 0, 1), (110, .getfield 49, 3), (113, .iload_n 1, 1), (114, .iaload, 1), (115, .invokevirtual 467, 3), (118, .iastore, 1), (119, .aload_n 0, 1), (120, .getfield 52, 3), (123, .iload_n 1, 1), (124, .aload_n 0, 1), (125, .aload_n 0, 1), (126, .getfield 52, 3), (129, .iload_n 1, 1), (130, .iaload, 1), (131, .invokevirtual 467, 3), (134, .iastore, 1), (135, .iinc 1 1, 3), (138, .goto (-42), 3), (141, .return_, 1)]
theorem ttX11_keepsLaw : zdt cX11_keepsLaw tX11_keepsLaw = true := by decide +kernel
abbrev q_X11_keepsLaw (h : zM) (h0 : zM) : Option zV → zM → Prop := zqv fun h' => okB h' ∧ zfr [60] [9, 10, 11, 12, 13, 14, 15, 35] h h' ∧ (zSt h0 h' 1727)
set_option maxRecDepth 100000 in
set_option maxHeartbeats 4000000 in
theorem s_X11_keepsLaw (l : Launch) (h : zM) (h0 : zM) (s0 : okB h) (u_0 : zSt h0 h 862) (u_1 : zPI h0) : zT shM l yX11_keepsLaw cX11_keepsLaw 2 none (rmL 2) 0 0 [.inr 0] h (q_X11_keepsLaw h h0) := by
  refine zT_of (by decide +kernel) (L0 := [some (.inr 0), none]) rfl (Nat.le_of_ble_eq_true rfl) ?_
  refine zj_aload_n (zdk ttX11_keepsLaw 0 rfl rfl) rfl (by decide) ?_
  refine zj_getr (r := 9) (zdk ttX11_keepsLaw 1 rfl rfl) zf_RX11_34 rfl (k_B s0) (rfB_17 s0) ?_
  refine zj_iconst (zdk ttX11_keepsLaw 2 rfl rfl) ?_
  refine zj_aload_n (zdk ttX11_keepsLaw 3 rfl rfl) rfl (by decide) ?_
  refine zj_aload_n (zdk ttX11_keepsLaw 4 rfl rfl) rfl (by decide) ?_
  refine zj_getr (r := 9) (zdk ttX11_keepsLaw 5 rfl rfl) zf_RX11_34 rfl (k_B s0) (rfB_17 s0) ?_
  refine zj_iconst (zdk ttX11_keepsLaw 6 rfl rfl) ?_
  have b1 : 0 ≤ (h.2 9 0) ∧ (h.2 9 0) ≤ 16 := abB_9 s0 0
  refine zj_iald (v := (h.2 9 0)) (zdk ttX11_keepsLaw 7 rfl rfl) (kaB_9 s0) (by decide) (by omega) rfl ?_
  refine zj_callV (av := [.inl (h.2 9 0)]) (st := [.inl 0, .inr 9]) (zdk ttX11_keepsLaw 8 rfl rfl) mb_X11_keeps mv_RX11_467 (ci := 11) rfl rfl (k_B s0) rfl rfl (Nat.le_of_ble_eq_true rfl) (s_X11_keeps l h (h.2 9 0) s0 (by omega) (by have := u_0.1; omega)) (rm_ok (by decide) (by decide)) (zq_i fun v3 h4 q2 => ?_)
  obtain ⟨b5, s6, f10, u7, u8, u9⟩ := q2
  refine zj_iast (zdk ttX11_keepsLaw 9 rfl rfl) (kaB_9 s6) (by decide) (by omega) (fun h11 e12 => ?_)
  refine zj_iconst (zdk ttX11_keepsLaw 10 rfl rfl) ?_
  refine zj_istore_n (L' := [some (.inr 0), some (.inl 0)]) (zdk ttX11_keepsLaw 11 rfl rfl) (by decide) rfl ?_
  have lp292 : ∀ (n18 : Nat) (x13 : Int) (h14 : zM), (0 ≤ x13 ∧ x13 ≤ 16) → okB h14 → zfr [60] [9, 10, 11, 12, 13, 14, 15, 35] h h14 → (zSt h0 h14 (863 + 4 * x13)) → (17 - x13).toNat < n18 → zJ shM l yX11_keepsLaw cX11_keepsLaw 2 none (rmL 2) 0 0 (q_X11_keepsLaw h h0) 0 0 18 [some (.inr 0), some (.inl x13)] [] h14 := by
    intro n18
    induction n18 with
    | zero => intro x13 h14 b293 s15 f16 u294 m295; exact absurd m295 (Nat.not_lt_zero _)
    | succ n18 ih296 =>
      intro x13 h14 b293 s15 f16 u294 m295
      refine zj_iload_n (zdk ttX11_keepsLaw 12 rfl rfl) rfl ?_
      refine zj_bipush (zdk ttX11_keepsLaw 13 rfl rfl) (by decide) ?_
      refine zj_icmp_ge (t := 94) (zdk ttX11_keepsLaw 14 rfl rfl) (by decide) (by omega) (by decide) (fun c297 => ?_) (fun c297 => ?_)
      · refine zj_iconst (zdk ttX11_keepsLaw 57 rfl rfl) ?_
        refine zj_istore_n (L' := [some (.inr 0), some (.inl 0)]) (zdk ttX11_keepsLaw 58 rfl rfl) (by decide) rfl ?_
        have lp518 : ∀ (n96 : Nat) (x298 : Int) (h299 : zM), (0 ≤ x298 ∧ x298 ≤ 400) → okB h299 → zfr [60] [9, 10, 11, 12, 13, 14, 15, 35] h h299 → (zSt h0 h299 (927 + 2 * x298)) → (401 - x298).toNat < n96 → zJ shM l yX11_keepsLaw cX11_keepsLaw 2 none (rmL 2) 0 0 (q_X11_keepsLaw h h0) 0 0 96 [some (.inr 0), some (.inl x298)] [] h299 := by
          intro n96
          induction n96 with
          | zero => intro x298 h299 b519 s300 f301 u520 m521; exact absurd m521 (Nat.not_lt_zero _)
          | succ n96 ih522 =>
            intro x298 h299 b519 s300 f301 u520 m521
            refine zj_iload_n (zdk ttX11_keepsLaw 59 rfl rfl) rfl ?_
            refine zj_sipush (zdk ttX11_keepsLaw 60 rfl rfl) (by decide) ?_
            refine zj_icmp_ge (t := 141) (zdk ttX11_keepsLaw 61 rfl rfl) (by decide) (by omega) (by decide) (fun c523 => ?_) (fun c523 => ?_)
            · exact zj_vret rfl (zdk ttX11_keepsLaw 84 rfl rfl) (Nat.le_refl _) (Nat.le_refl _) ⟨rfl, s300, f301, (zSt_j u520 (by omega))⟩
            · refine zj_aload_n (zdk ttX11_keepsLaw 62 rfl rfl) rfl (by decide) ?_
              refine zj_getr (r := 14) (zdk ttX11_keepsLaw 63 rfl rfl) zf_RX11_49 rfl (k_B s300) (rfB_22 s300) ?_
              refine zj_iload_n (zdk ttX11_keepsLaw 64 rfl rfl) rfl ?_
              refine zj_aload_n (zdk ttX11_keepsLaw 65 rfl rfl) rfl (by decide) ?_
              refine zj_aload_n (zdk ttX11_keepsLaw 66 rfl rfl) rfl (by decide) ?_
              refine zj_getr (r := 14) (zdk ttX11_keepsLaw 67 rfl rfl) zf_RX11_49 rfl (k_B s300) (rfB_22 s300) ?_
              refine zj_iload_n (zdk ttX11_keepsLaw 68 rfl rfl) rfl ?_
              have b524 : -2147483648 ≤ (h299.2 14 x298) ∧ (h299.2 14 x298) ≤ 2147483647 := abB_14 s300 x298
              refine zj_iald (v := (h299.2 14 x298)) (zdk ttX11_keepsLaw 69 rfl rfl) (kaB_14 s300) (by decide) (by omega) rfl ?_
              refine zj_callV (av := [.inl (h299.2 14 x298)]) (st := [.inl x298, .inr 14]) (zdk ttX11_keepsLaw 70 rfl rfl) mb_X11_keeps mv_RX11_467 (ci := 11) rfl rfl (k_B s300) rfl rfl (Nat.le_of_ble_eq_true rfl) (s_X11_keeps l h299 (h299.2 14 x298) s300 (by omega) (by have := u520.1; omega)) (rm_ok (by decide) (by decide)) (zq_i fun v526 h527 q525 => ?_)
              obtain ⟨b528, s529, f533, u530, u531, u532⟩ := q525
              refine zj_iast (zdk ttX11_keepsLaw 71 rfl rfl) (kaB_14 s529) (by decide) (by omega) (fun h534 e535 => ?_)
              refine zj_aload_n (zdk ttX11_keepsLaw 72 rfl rfl) rfl (by decide) ?_
              have z537r : h299.2 14 x298 = (h299.2 14 x298) := rfl
              have z537l : zloc (927 + 2 * x298) = (14, x298) := (zl_14 (by omega) (by omega))
              have z537 : zSt h0 h534 (927 + 2 * x298 + 1) := zSt_step u520 (by omega) z537l f533 u530 u531 z537r u532 e535
              have s536 : okB h534 := okB_w s529 e535 (zSt_pm u520 (by omega) z537l s300 u_1 u531 z537r u532)
              refine zj_getr (r := 15) (zdk ttX11_keepsLaw 73 rfl rfl) zf_RX11_52 rfl (k_B s536) (rfB_23 s536) ?_
              refine zj_iload_n (zdk ttX11_keepsLaw 74 rfl rfl) rfl ?_
              refine zj_aload_n (zdk ttX11_keepsLaw 75 rfl rfl) rfl (by decide) ?_
              refine zj_aload_n (zdk ttX11_keepsLaw 76 rfl rfl) rfl (by decide) ?_
              refine zj_getr (r := 15) (zdk ttX11_keepsLaw 77 rfl rfl) zf_RX11_52 rfl (k_B s536) (rfB_23 s536) ?_
              refine zj_iload_n (zdk ttX11_keepsLaw 78 rfl rfl) rfl ?_
              have b538 : -2147483648 ≤ (h299.2 15 x298) ∧ (h299.2 15 x298) ≤ 2147483647 := abB_15 s300 x298
              refine zj_iald (v := (h299.2 15 x298)) (zdk ttX11_keepsLaw 79 rfl rfl) (kaB_15 s536) (by decide) (by omega) ((zwr_r e535 (by first | decide | exact (absurd ·.1 (by decide)) | exact (absurd ·.2 (by decide)) | omega)).trans (zfr_a f533 rfl (by decide))) ?_
              refine zj_callV (av := [.inl (h299.2 15 x298)]) (st := [.inl x298, .inr 15]) (zdk ttX11_keepsLaw 80 rfl rfl) mb_X11_keeps mv_RX11_467 (ci := 11) rfl rfl (k_B s536) rfl rfl (Nat.le_of_ble_eq_true rfl) (s_X11_keeps l h534 (h299.2 15 x298) s536 (by omega) (by have := z537.1; omega)) (rm_ok (by decide) (by decide)) (zq_i fun v540 h541 q539 => ?_)
              obtain ⟨b542, s543, f547, u544, u545, u546⟩ := q539
              refine zj_iast (zdk ttX11_keepsLaw 81 rfl rfl) (kaB_15 s543) (by decide) (by omega) (fun h548 e549 => ?_)
              refine zj_iinc (L' := [some (.inr 0), some (.inl (x298 + 1))]) (zdk ttX11_keepsLaw 82 rfl rfl) rfl (by decide) rfl ?_
              refine zj_goto (t := 96) (zdk ttX11_keepsLaw 83 rfl rfl) (by decide) ?_
              have z551r : h534.2 15 x298 = (h299.2 15 x298) := ((zwr_r e535 (by first | decide | exact (absurd ·.1 (by decide)) | exact (absurd ·.2 (by decide)) | omega)).trans (zfr_a f533 rfl (by decide)))
              have z551l : zloc (927 + 2 * x298 + 1) = (15, x298) := (zl_15 (by omega) (by omega))
              have z551 : zSt h0 h548 (927 + 2 * x298 + 1 + 1) := zSt_step z537 (by omega) z551l f547 u544 u545 z551r u546 e549
              have s550 : okB h548 := okB_w s543 e549 (zSt_pm z537 (by omega) z551l s536 u_1 u545 z551r u546)
              have f555 : zfr [60] [9, 10, 11, 12, 13, 14, 15, 35] h h527 := zfr_t f301 f533 rfl rfl
              have f554 : zfr [60] [9, 10, 11, 12, 13, 14, 15, 35] h h534 := zfr_wa f555 e535 rfl
              have f553 : zfr [60] [9, 10, 11, 12, 13, 14, 15, 35] h h541 := zfr_t f554 f547 rfl rfl
              have f552 : zfr [60] [9, 10, 11, 12, 13, 14, 15, 35] h h548 := zfr_wa f553 e549 rfl
              exact ih522  (x298 + 1) h548 (by omega) s550 f552 (zSt_j z551 (by omega)) (by omega)
        exact lp518 _ 0 h14 (by omega) s15 f16 (zSt_j u294 (by omega)) (Nat.lt_succ_self _)
      · refine zj_aload_n (zdk ttX11_keepsLaw 15 rfl rfl) rfl (by decide) ?_
        refine zj_getr (r := 10) (zdk ttX11_keepsLaw 16 rfl rfl) zf_RX11_37 rfl (k_B s15) (rfB_18 s15) ?_
        refine zj_iload_n (zdk ttX11_keepsLaw 17 rfl rfl) rfl ?_
        refine zj_aload_n (zdk ttX11_keepsLaw 18 rfl rfl) rfl (by decide) ?_
        refine zj_aload_n (zdk ttX11_keepsLaw 19 rfl rfl) rfl (by decide) ?_
        refine zj_getr (r := 10) (zdk ttX11_keepsLaw 20 rfl rfl) zf_RX11_37 rfl (k_B s15) (rfB_18 s15) ?_
        refine zj_iload_n (zdk ttX11_keepsLaw 21 rfl rfl) rfl ?_
        have b556 : -2147483648 ≤ (h14.2 10 x13) ∧ (h14.2 10 x13) ≤ 2147483647 := abB_10 s15 x13
        refine zj_iald (v := (h14.2 10 x13)) (zdk ttX11_keepsLaw 22 rfl rfl) (kaB_10 s15) (by decide) (by omega) rfl ?_
        refine zj_callV (av := [.inl (h14.2 10 x13)]) (st := [.inl x13, .inr 10]) (zdk ttX11_keepsLaw 23 rfl rfl) mb_X11_keeps mv_RX11_467 (ci := 11) rfl rfl (k_B s15) rfl rfl (Nat.le_of_ble_eq_true rfl) (s_X11_keeps l h14 (h14.2 10 x13) s15 (by omega) (by have := u294.1; omega)) (rm_ok (by decide) (by decide)) (zq_i fun v558 h559 q557 => ?_)
        obtain ⟨b560, s561, f565, u562, u563, u564⟩ := q557
        refine zj_iast (zdk ttX11_keepsLaw 24 rfl rfl) (kaB_10 s561) (by decide) (by omega) (fun h566 e567 => ?_)
        refine zj_aload_n (zdk ttX11_keepsLaw 25 rfl rfl) rfl (by decide) ?_
        have z569r : h14.2 10 x13 = (h14.2 10 x13) := rfl
        have z569l : zloc (863 + 4 * x13) = (10, x13) := (zl_10 (by omega) (by omega))
        have z569 : zSt h0 h566 (863 + 4 * x13 + 1) := zSt_step u294 (by omega) z569l f565 u562 u563 z569r u564 e567
        have s568 : okB h566 := okB_w s561 e567 (zSt_pm u294 (by omega) z569l s15 u_1 u563 z569r u564)
        refine zj_getr (r := 11) (zdk ttX11_keepsLaw 26 rfl rfl) zf_RX11_40 rfl (k_B s568) (rfB_19 s568) ?_
        refine zj_iload_n (zdk ttX11_keepsLaw 27 rfl rfl) rfl ?_
        refine zj_aload_n (zdk ttX11_keepsLaw 28 rfl rfl) rfl (by decide) ?_
        refine zj_aload_n (zdk ttX11_keepsLaw 29 rfl rfl) rfl (by decide) ?_
        refine zj_getr (r := 11) (zdk ttX11_keepsLaw 30 rfl rfl) zf_RX11_40 rfl (k_B s568) (rfB_19 s568) ?_
        refine zj_iload_n (zdk ttX11_keepsLaw 31 rfl rfl) rfl ?_
        have b570 : 0 ≤ (h14.2 11 x13) ∧ (h14.2 11 x13) ≤ 400 := abB_11 s15 x13
        refine zj_iald (v := (h14.2 11 x13)) (zdk ttX11_keepsLaw 32 rfl rfl) (kaB_11 s568) (by decide) (by omega) ((zwr_r e567 (by first | decide | exact (absurd ·.1 (by decide)) | exact (absurd ·.2 (by decide)) | omega)).trans (zfr_a f565 rfl (by decide))) ?_
        refine zj_callV (av := [.inl (h14.2 11 x13)]) (st := [.inl x13, .inr 11]) (zdk ttX11_keepsLaw 33 rfl rfl) mb_X11_keeps mv_RX11_467 (ci := 11) rfl rfl (k_B s568) rfl rfl (Nat.le_of_ble_eq_true rfl) (s_X11_keeps l h566 (h14.2 11 x13) s568 (by omega) (by have := z569.1; omega)) (rm_ok (by decide) (by decide)) (zq_i fun v572 h573 q571 => ?_)
        obtain ⟨b574, s575, f579, u576, u577, u578⟩ := q571
        refine zj_iast (zdk ttX11_keepsLaw 34 rfl rfl) (kaB_11 s575) (by decide) (by omega) (fun h580 e581 => ?_)
        refine zj_aload_n (zdk ttX11_keepsLaw 35 rfl rfl) rfl (by decide) ?_
        have z583r : h566.2 11 x13 = (h14.2 11 x13) := ((zwr_r e567 (by first | decide | exact (absurd ·.1 (by decide)) | exact (absurd ·.2 (by decide)) | omega)).trans (zfr_a f565 rfl (by decide)))
        have z583l : zloc (863 + 4 * x13 + 1) = (11, x13) := (zl_11 (by omega) (by omega))
        have z583 : zSt h0 h580 (863 + 4 * x13 + 1 + 1) := zSt_step z569 (by omega) z583l f579 u576 u577 z583r u578 e581
        have s582 : okB h580 := okB_w s575 e581 (zSt_pm z569 (by omega) z583l s568 u_1 u577 z583r u578)
        refine zj_getr (r := 12) (zdk ttX11_keepsLaw 36 rfl rfl) zf_RX11_43 rfl (k_B s582) (rfB_20 s582) ?_
        refine zj_iload_n (zdk ttX11_keepsLaw 37 rfl rfl) rfl ?_
        refine zj_aload_n (zdk ttX11_keepsLaw 38 rfl rfl) rfl (by decide) ?_
        refine zj_aload_n (zdk ttX11_keepsLaw 39 rfl rfl) rfl (by decide) ?_
        refine zj_getr (r := 12) (zdk ttX11_keepsLaw 40 rfl rfl) zf_RX11_43 rfl (k_B s582) (rfB_20 s582) ?_
        refine zj_iload_n (zdk ttX11_keepsLaw 41 rfl rfl) rfl ?_
        have b584 : 0 ≤ (h14.2 12 x13) ∧ (h14.2 12 x13) ≤ 400 := abB_12 s15 x13
        refine zj_iald (v := (h14.2 12 x13)) (zdk ttX11_keepsLaw 42 rfl rfl) (kaB_12 s582) (by decide) (by omega) ((((zwr_r e581 (by first | decide | exact (absurd ·.1 (by decide)) | exact (absurd ·.2 (by decide)) | omega)).trans (zfr_a f579 rfl (by decide))).trans (zwr_r e567 (by first | decide | exact (absurd ·.1 (by decide)) | exact (absurd ·.2 (by decide)) | omega))).trans (zfr_a f565 rfl (by decide))) ?_
        refine zj_callV (av := [.inl (h14.2 12 x13)]) (st := [.inl x13, .inr 12]) (zdk ttX11_keepsLaw 43 rfl rfl) mb_X11_keeps mv_RX11_467 (ci := 11) rfl rfl (k_B s582) rfl rfl (Nat.le_of_ble_eq_true rfl) (s_X11_keeps l h580 (h14.2 12 x13) s582 (by omega) (by have := z583.1; omega)) (rm_ok (by decide) (by decide)) (zq_i fun v586 h587 q585 => ?_)
        obtain ⟨b588, s589, f593, u590, u591, u592⟩ := q585
        refine zj_iast (zdk ttX11_keepsLaw 44 rfl rfl) (kaB_12 s589) (by decide) (by omega) (fun h594 e595 => ?_)
        refine zj_aload_n (zdk ttX11_keepsLaw 45 rfl rfl) rfl (by decide) ?_
        have z597r : h580.2 12 x13 = (h14.2 12 x13) := ((((zwr_r e581 (by first | decide | exact (absurd ·.1 (by decide)) | exact (absurd ·.2 (by decide)) | omega)).trans (zfr_a f579 rfl (by decide))).trans (zwr_r e567 (by first | decide | exact (absurd ·.1 (by decide)) | exact (absurd ·.2 (by decide)) | omega))).trans (zfr_a f565 rfl (by decide)))
        have z597l : zloc (863 + 4 * x13 + 1 + 1) = (12, x13) := (zl_12 (by omega) (by omega))
        have z597 : zSt h0 h594 (863 + 4 * x13 + 1 + 1 + 1) := zSt_step z583 (by omega) z597l f593 u590 u591 z597r u592 e595
        have s596 : okB h594 := okB_w s589 e595 (zSt_pm z583 (by omega) z597l s582 u_1 u591 z597r u592)
        refine zj_getr (r := 13) (zdk ttX11_keepsLaw 46 rfl rfl) zf_RX11_46 rfl (k_B s596) (rfB_21 s596) ?_
        refine zj_iload_n (zdk ttX11_keepsLaw 47 rfl rfl) rfl ?_
        refine zj_aload_n (zdk ttX11_keepsLaw 48 rfl rfl) rfl (by decide) ?_
        refine zj_aload_n (zdk ttX11_keepsLaw 49 rfl rfl) rfl (by decide) ?_
        refine zj_getr (r := 13) (zdk ttX11_keepsLaw 50 rfl rfl) zf_RX11_46 rfl (k_B s596) (rfB_21 s596) ?_
        refine zj_iload_n (zdk ttX11_keepsLaw 51 rfl rfl) rfl ?_
        have b598 : 0 ≤ (h14.2 13 x13) ∧ (h14.2 13 x13) ≤ 400 := abB_13 s15 x13
        refine zj_iald (v := (h14.2 13 x13)) (zdk ttX11_keepsLaw 52 rfl rfl) (kaB_13 s596) (by decide) (by omega) ((((((zwr_r e595 (by first | decide | exact (absurd ·.1 (by decide)) | exact (absurd ·.2 (by decide)) | omega)).trans (zfr_a f593 rfl (by decide))).trans (zwr_r e581 (by first | decide | exact (absurd ·.1 (by decide)) | exact (absurd ·.2 (by decide)) | omega))).trans (zfr_a f579 rfl (by decide))).trans (zwr_r e567 (by first | decide | exact (absurd ·.1 (by decide)) | exact (absurd ·.2 (by decide)) | omega))).trans (zfr_a f565 rfl (by decide))) ?_
        refine zj_callV (av := [.inl (h14.2 13 x13)]) (st := [.inl x13, .inr 13]) (zdk ttX11_keepsLaw 53 rfl rfl) mb_X11_keeps mv_RX11_467 (ci := 11) rfl rfl (k_B s596) rfl rfl (Nat.le_of_ble_eq_true rfl) (s_X11_keeps l h594 (h14.2 13 x13) s596 (by omega) (by have := z597.1; omega)) (rm_ok (by decide) (by decide)) (zq_i fun v600 h601 q599 => ?_)
        obtain ⟨b602, s603, f607, u604, u605, u606⟩ := q599
        refine zj_iast (zdk ttX11_keepsLaw 54 rfl rfl) (kaB_13 s603) (by decide) (by omega) (fun h608 e609 => ?_)
        refine zj_iinc (L' := [some (.inr 0), some (.inl (x13 + 1))]) (zdk ttX11_keepsLaw 55 rfl rfl) rfl (by decide) rfl ?_
        refine zj_goto (t := 18) (zdk ttX11_keepsLaw 56 rfl rfl) (by decide) ?_
        have z611r : h594.2 13 x13 = (h14.2 13 x13) := ((((((zwr_r e595 (by first | decide | exact (absurd ·.1 (by decide)) | exact (absurd ·.2 (by decide)) | omega)).trans (zfr_a f593 rfl (by decide))).trans (zwr_r e581 (by first | decide | exact (absurd ·.1 (by decide)) | exact (absurd ·.2 (by decide)) | omega))).trans (zfr_a f579 rfl (by decide))).trans (zwr_r e567 (by first | decide | exact (absurd ·.1 (by decide)) | exact (absurd ·.2 (by decide)) | omega))).trans (zfr_a f565 rfl (by decide)))
        have z611l : zloc (863 + 4 * x13 + 1 + 1 + 1) = (13, x13) := (zl_13 (by omega) (by omega))
        have z611 : zSt h0 h608 (863 + 4 * x13 + 1 + 1 + 1 + 1) := zSt_step z597 (by omega) z611l f607 u604 u605 z611r u606 e609
        have s610 : okB h608 := okB_w s603 e609 (zSt_pm z597 (by omega) z611l s596 u_1 u605 z611r u606)
        have f619 : zfr [60] [9, 10, 11, 12, 13, 14, 15, 35] h h559 := zfr_t f16 f565 rfl rfl
        have f618 : zfr [60] [9, 10, 11, 12, 13, 14, 15, 35] h h566 := zfr_wa f619 e567 rfl
        have f617 : zfr [60] [9, 10, 11, 12, 13, 14, 15, 35] h h573 := zfr_t f618 f579 rfl rfl
        have f616 : zfr [60] [9, 10, 11, 12, 13, 14, 15, 35] h h580 := zfr_wa f617 e581 rfl
        have f615 : zfr [60] [9, 10, 11, 12, 13, 14, 15, 35] h h587 := zfr_t f616 f593 rfl rfl
        have f614 : zfr [60] [9, 10, 11, 12, 13, 14, 15, 35] h h594 := zfr_wa f615 e595 rfl
        have f613 : zfr [60] [9, 10, 11, 12, 13, 14, 15, 35] h h601 := zfr_t f614 f607 rfl rfl
        have f612 : zfr [60] [9, 10, 11, 12, 13, 14, 15, 35] h h608 := zfr_wa f613 e609 rfl
        exact ih296  (x13 + 1) h608 (by omega) s610 f612 (zSt_j z611 (by omega)) (by omega)
  have z621r : h.2 9 0 = (h.2 9 0) := rfl
  have z621l : zloc (862) = (9, 0) := (zl_9 rfl (by omega))
  have z621 : zSt h0 h11 (862 + 1) := zSt_step u_0 (by omega) z621l f10 u7 u8 z621r u9 e12
  have s620 : okB h11 := okB_w s6 e12 (zSt_pm u_0 (by omega) z621l s0 u_1 u8 z621r u9)
  have f623 : zfr [60] [9, 10, 11, 12, 13, 14, 15, 35] h h4 := zfr_t (zfr_r _ _ _) f10 rfl rfl
  have f622 : zfr [60] [9, 10, 11, 12, 13, 14, 15, 35] h h11 := zfr_wa f623 e12 rfl
  exact lp292 _ 0 h11 (by omega) s620 f622 (zSt_j z621 (by omega)) (Nat.lt_succ_self _)

abbrev tX11_image : List (Nat × Instr × Nat) := [(0, .aload_n 0, 1), (1, .iconst 0, 1), (2, .putfield 120, 3), (5, .iload_n 1, 1), (6, .ifCond .ne 12, 3), (9, .aload_n 0, 1), (10, .getfield 470, 3), (13, .ifCond .ne 5, 3), (16, .iconst 0, 1), (17, .ireturn, 1), (18, .aload_n 0, 1), (19, .iload_n 1, 1), (20, .putfield 464, 3), (23, .aload_n 0, 1), (24, .iconst 1, 1), (25, .putfield 470, 3), (28, .aload_n 0, 1), (29, .iconst 0, 1), (30, .putfield 461, 3), (33, .iconst 0, 1), (34, .istore_n 2, 1), (35, .iload_n 2, 1), (36, .bipush 63, 2), (38, .if_icmp .ge 25, 3), (41, .aload_n 0, 1), (42, .getfield 7, 3), (45, .iload_n 2, 1), (46, .aload_n 0, 1), (47, .aload_n 0, 1), (48, .getfield 7, 3), (51, .iload_n 2, 1), (52, .iaload, 1), (53, .invokevirtual 467, 3), (56, .iastore, 1), (57, .iinc 2 1, 3), (60, .goto (-25), 3), (63, .aload_n 0, 1), (64, .invokevirtual 473, 3), (67, .iconst 0, 1), (68, .istore_n 2, 1), (69, .iload_n 2, 1), (70, .sipush 600, 3), (73, .if_icmp .ge 25, 3), (76, .aload_n 0, 1), (77, .getfield 25, 3), (80, .iload_n 2, 1), (81, .aload_n 0, 1), (82, .aload_n 0, 1), (83, .getfield 25, 3), (86, .iload_n 2, 1), (87, .iaload, 1), (88, .invokevirtual 467, 3), (91, .iastore, 1), (92, .iinc 2 1, 3), (95, .goto (-26), 3), (98, .aload_n 0, 1), (99, .invokevirtual 476, 3), (102, .iload_n 1, 1), (103, .ifCond .ne 8, 3), (106, .aload_n 0, 1), (107, .iconst 0, 1), (108, .putfield 123, 3), (111, .iconst 1, 1), (112, .ireturn, 1)]
theorem ttX11_image : zdt cX11_image tX11_image = true := by decide +kernel
abbrev q_X11_image (h : zM) (p1 : Int) : Option zV → zM → Prop := zqi fun v h' => (0 ≤ v ∧ v ≤ 1) ∧ okB h' ∧ zfr [0, 3, 6, 33, 35, 37, 42, 45, 49, 53, 58, 59, 60] [1, 4, 5, 6, 9, 10, 11, 12, 13, 14, 15, 17, 18, 19, 23, 24, 25, 28, 31, 32, 35] h h' ∧ (okM h')
set_option maxRecDepth 100000 in
set_option maxHeartbeats 4000000 in
theorem s_X11_image (l : Launch) (h : zM) (p1 : Int) (s0 : okB h) (b_p1 : 0 ≤ p1 ∧ p1 ≤ 1) (u_0 : okM h) : zT shM l yX11_image cX11_image 3 (some .boolean) (rmL 3) 0 0 [.inr 0, .inl p1] h (q_X11_image h p1) := by
  refine zT_of (by decide +kernel) (L0 := [some (.inr 0), some (.inl p1), none]) rfl (Nat.le_of_ble_eq_true rfl) ?_
  refine zj_aload_n (zdk ttX11_image 0 rfl rfl) rfl (by decide) ?_
  refine zj_iconst (zdk ttX11_image 1 rfl rfl) ?_
  refine zj_puti (zdk ttX11_image 2 rfl rfl) zf_RX11_120 rfl (k_B s0) (Or.inl zw_RX11_120) (k2 := 0) rfl (fun h1 e2 => ?_)
  refine zj_iload_n (zdk ttX11_image 3 rfl rfl) rfl ?_
  refine zj_if_ne (t := 18) (zdk ttX11_image 4 rfl rfl) (by decide) (by omega) (fun c3 => ?_) (fun c3 => ?_)
  · refine zj_aload_n (zdk ttX11_image 10 rfl rfl) rfl (by decide) ?_
    refine zj_iload_n (zdk ttX11_image 11 rfl rfl) rfl ?_
    have s4 : okB h1 := fwB_0 s0 e2 (by omega)
    refine zj_putz (zdk ttX11_image 12 rfl rfl) zf_RX11_464 rfl (by omega) (k_B s4) (Or.inl zw_RX11_464) (k2 := 58) rfl (fun h5 e6 => ?_)
    refine zj_aload_n (zdk ttX11_image 13 rfl rfl) rfl (by decide) ?_
    refine zj_iconst (zdk ttX11_image 14 rfl rfl) ?_
    have s7 : okB h5 := fwB_58 s4 e6 (by omega)
    refine zj_putz (zdk ttX11_image 15 rfl rfl) zf_RX11_470 rfl (by omega) (k_B s7) (Or.inl zw_RX11_470) (k2 := 59) rfl (fun h8 e9 => ?_)
    refine zj_aload_n (zdk ttX11_image 16 rfl rfl) rfl (by decide) ?_
    refine zj_iconst (zdk ttX11_image 17 rfl rfl) ?_
    have s10 : okB h8 := fwB_59 s7 e9 (by omega)
    refine zj_puti (zdk ttX11_image 18 rfl rfl) zf_RX11_461 rfl (k_B s10) (Or.inl zw_RX11_461) (k2 := 60) rfl (fun h11 e12 => ?_)
    have f0 : zfr [0, 58, 59, 60] [] h h11 := (zfr_wf (zfr_wf (zfr_wf (zfr_wf (zfr_r _ _ _) e2 rfl) e6 rfl) e9 rfl) e12 rfl)
    have b13 : h11.2 0 58 = p1 := (((zwr_r e12 (by first | decide | exact (absurd ·.1 (by decide)) | exact (absurd ·.2 (by decide)) | omega)).trans (zwr_r e9 (by first | decide | exact (absurd ·.1 (by decide)) | exact (absurd ·.2 (by decide)) | omega))).trans (zwr_v e6))
    have b14 : h11.2 0 59 = 1 := ((zwr_r e12 (by first | decide | exact (absurd ·.1 (by decide)) | exact (absurd ·.2 (by decide)) | omega)).trans (zwr_v e9))
    have b15 : h11.2 0 60 = 0 := (zwr_v e12)
    have hT0 : h11.2 0 58 = 0 → h.2 0 59 = 1 := fun q => by omega
    have zI0 := zPI_of u_0 f0 hT0
    have z0 : zSt h11 h11 0 := zSt_0 (by omega)
    refine zj_iconst (zdk ttX11_image 19 rfl rfl) ?_
    refine zj_istore_n (L' := [some (.inr 0), some (.inl p1), some (.inl 0)]) (zdk ttX11_image 20 rfl rfl) (by decide) rfl ?_
    have lp98 : ∀ (n35 : Nat) (x16 : Int) (h17 : zM), (0 ≤ x16 ∧ x16 ≤ 63) → okB h17 → zfr [0, 3, 6, 33, 35, 37, 42, 45, 49, 53, 58, 59, 60] [1, 4, 5, 6, 9, 10, 11, 12, 13, 14, 15, 17, 18, 19, 23, 24, 25, 28, 31, 32, 35] h h17 → (zSt h11 h17 (x16)) → (h17.2 0 59 = 1) → (64 - x16).toNat < n35 → zJ shM l yX11_image cX11_image 3 (some .boolean) (rmL 3) 0 0 (q_X11_image h p1) 0 0 35 [some (.inr 0), some (.inl p1), some (.inl x16)] [] h17 := by
      intro n35
      induction n35 with
      | zero => intro x16 h17 b99 s18 f19 u100 u101 m102; exact absurd m102 (Nat.not_lt_zero _)
      | succ n35 ih103 =>
        intro x16 h17 b99 s18 f19 u100 u101 m102
        refine zj_iload_n (zdk ttX11_image 21 rfl rfl) rfl ?_
        refine zj_bipush (zdk ttX11_image 22 rfl rfl) (by decide) ?_
        refine zj_icmp_ge (t := 63) (zdk ttX11_image 23 rfl rfl) (by decide) (by omega) (by decide) (fun c104 => ?_) (fun c104 => ?_)
        · refine zj_aload_n (zdk ttX11_image 36 rfl rfl) rfl (by decide) ?_
          refine zj_callV (av := []) (st := []) (zdk ttX11_image 37 rfl rfl) mb_X11_keepsTold mv_RX11_473 (ci := 11) rfl rfl (k_B s18) rfl rfl (Nat.le_of_ble_eq_true rfl) (s_X11_keepsTold l h17 h11 s18 (zSt_j u100 (by omega)) zI0) (rm_ok (by decide) (by decide)) (zq_v fun h107 q105 => ?_)
          obtain ⟨s109, f111, u110⟩ := q105
          refine zj_iconst (zdk ttX11_image 38 rfl rfl) ?_
          refine zj_istore_n (L' := [some (.inr 0), some (.inl p1), some (.inl 0)]) (zdk ttX11_image 39 rfl rfl) (by decide) rfl ?_
          have lp233 : ∀ (n69 : Nat) (x112 : Int) (h113 : zM), (0 ≤ x112 ∧ x112 ≤ 600) → okB h113 → zfr [0, 3, 6, 33, 35, 37, 42, 45, 49, 53, 58, 59, 60] [1, 4, 5, 6, 9, 10, 11, 12, 13, 14, 15, 17, 18, 19, 23, 24, 25, 28, 31, 32, 35] h h113 → (zSt h11 h113 (262 + x112)) → (h113.2 0 59 = 1) → (601 - x112).toNat < n69 → zJ shM l yX11_image cX11_image 3 (some .boolean) (rmL 3) 0 0 (q_X11_image h p1) 0 0 69 [some (.inr 0), some (.inl p1), some (.inl x112)] [] h113 := by
            intro n69
            induction n69 with
            | zero => intro x112 h113 b234 s114 f115 u235 u236 m237; exact absurd m237 (Nat.not_lt_zero _)
            | succ n69 ih238 =>
              intro x112 h113 b234 s114 f115 u235 u236 m237
              refine zj_iload_n (zdk ttX11_image 40 rfl rfl) rfl ?_
              refine zj_sipush (zdk ttX11_image 41 rfl rfl) (by decide) ?_
              refine zj_icmp_ge (t := 98) (zdk ttX11_image 42 rfl rfl) (by decide) (by omega) (by decide) (fun c239 => ?_) (fun c239 => ?_)
              · refine zj_aload_n (zdk ttX11_image 55 rfl rfl) rfl (by decide) ?_
                refine zj_callV (av := []) (st := []) (zdk ttX11_image 56 rfl rfl) mb_X11_keepsLaw mv_RX11_476 (ci := 11) rfl rfl (k_B s114) rfl rfl (Nat.le_of_ble_eq_true rfl) (s_X11_keepsLaw l h113 h11 s114 (zSt_j u235 (by omega)) zI0) (rm_ok (by decide) (by decide)) (zq_v fun h242 q240 => ?_)
                obtain ⟨s244, f246, u245⟩ := q240
                refine zj_iload_n (zdk ttX11_image 57 rfl rfl) rfl ?_
                refine zj_if_ne (t := 111) (zdk ttX11_image 58 rfl rfl) (by decide) (by omega) (fun c247 => ?_) (fun c247 => ?_)
                · refine zj_iconst (zdk ttX11_image 62 rfl rfl) ?_
                  have f248 : zfr [0, 3, 6, 33, 35, 37, 42, 45, 49, 53, 58, 59, 60] [1, 4, 5, 6, 9, 10, 11, 12, 13, 14, 15, 17, 18, 19, 23, 24, 25, 28, 31, 32, 35] h h242 := zfr_t f115 f246 rfl rfl
                  have b249 : h242.2 0 59 = (h113.2 0 59) := (zfr_f f246 rfl rfl)
                  have b250 : 0 ≤ (h113.2 0 59) ∧ (h113.2 0 59) ≤ 1 := fB_59 s114
                  exact zj_zret rfl (zdk ttX11_image 63 rfl rfl) (Nat.le_refl _) (Nat.le_refl _) (by omega) ⟨1, rfl, by omega, s244, f248, (okM_img u_0 f0 (by omega) hT0 s244 f248 (zSt_j u245 (by omega)))⟩
                · exact absurd c247 (by omega)
              · refine zj_aload_n (zdk ttX11_image 43 rfl rfl) rfl (by decide) ?_
                refine zj_getr (r := 6) (zdk ttX11_image 44 rfl rfl) zf_RX11_25 rfl (k_B s114) (rfB_9 s114) ?_
                refine zj_iload_n (zdk ttX11_image 45 rfl rfl) rfl ?_
                refine zj_aload_n (zdk ttX11_image 46 rfl rfl) rfl (by decide) ?_
                refine zj_aload_n (zdk ttX11_image 47 rfl rfl) rfl (by decide) ?_
                refine zj_getr (r := 6) (zdk ttX11_image 48 rfl rfl) zf_RX11_25 rfl (k_B s114) (rfB_9 s114) ?_
                refine zj_iload_n (zdk ttX11_image 49 rfl rfl) rfl ?_
                have b251 : -2147483648 ≤ (h113.2 6 x112) ∧ (h113.2 6 x112) ≤ 2147483647 := abB_6 s114 x112
                refine zj_iald (v := (h113.2 6 x112)) (zdk ttX11_image 50 rfl rfl) (kaB_6 s114) (by decide) (by omega) rfl ?_
                refine zj_callV (av := [.inl (h113.2 6 x112)]) (st := [.inl x112, .inr 6]) (zdk ttX11_image 51 rfl rfl) mb_X11_keeps mv_RX11_467 (ci := 11) rfl rfl (k_B s114) rfl rfl (Nat.le_of_ble_eq_true rfl) (s_X11_keeps l h113 (h113.2 6 x112) s114 (by omega) (by have := u235.1; omega)) (rm_ok (by decide) (by decide)) (zq_i fun v253 h254 q252 => ?_)
                obtain ⟨b255, s256, f260, u257, u258, u259⟩ := q252
                refine zj_iast (zdk ttX11_image 52 rfl rfl) (kaB_6 s256) (by decide) (by omega) (fun h261 e262 => ?_)
                refine zj_iinc (L' := [some (.inr 0), some (.inl p1), some (.inl (x112 + 1))]) (zdk ttX11_image 53 rfl rfl) rfl (by decide) rfl ?_
                refine zj_goto (t := 69) (zdk ttX11_image 54 rfl rfl) (by decide) ?_
                have b263 : h261.2 0 59 = (h113.2 0 59) := ((zwr_r e262 (by first | decide | exact (absurd ·.1 (by decide)) | exact (absurd ·.2 (by decide)) | omega)).trans (zfr_f f260 rfl rfl))
                have b264 : 0 ≤ (h113.2 0 59) ∧ (h113.2 0 59) ≤ 1 := fB_59 s114
                have z266r : h113.2 6 x112 = (h113.2 6 x112) := rfl
                have z266l : zloc (262 + x112) = (6, x112) := (zl_6 (by omega) (by omega))
                have z266 : zSt h11 h261 (262 + x112 + 1) := zSt_step u235 (by omega) z266l f260 u257 u258 z266r u259 e262
                have s265 : okB h261 := okB_w s256 e262 (zSt_pm u235 (by omega) z266l s114 zI0 u258 z266r u259)
                have f268 : zfr [0, 3, 6, 33, 35, 37, 42, 45, 49, 53, 58, 59, 60] [1, 4, 5, 6, 9, 10, 11, 12, 13, 14, 15, 17, 18, 19, 23, 24, 25, 28, 31, 32, 35] h h254 := zfr_t f115 f260 rfl rfl
                have f267 : zfr [0, 3, 6, 33, 35, 37, 42, 45, 49, 53, 58, 59, 60] [1, 4, 5, 6, 9, 10, 11, 12, 13, 14, 15, 17, 18, 19, 23, 24, 25, 28, 31, 32, 35] h h261 := zfr_wa f268 e262 rfl
                exact ih238  (x112 + 1) h261 (by omega) s265 f267 (zSt_j z266 (by omega)) (by omega) (by omega)
          have b269 : h107.2 0 59 = (h17.2 0 59) := (zfr_f f111 rfl rfl)
          have b270 : 0 ≤ (h17.2 0 59) ∧ (h17.2 0 59) ≤ 1 := fB_59 s18
          have f271 : zfr [0, 3, 6, 33, 35, 37, 42, 45, 49, 53, 58, 59, 60] [1, 4, 5, 6, 9, 10, 11, 12, 13, 14, 15, 17, 18, 19, 23, 24, 25, 28, 31, 32, 35] h h107 := zfr_t f19 f111 rfl rfl
          exact lp233 _ 0 h107 (by omega) s109 f271 (zSt_j u110 (by omega)) (by omega) (Nat.lt_succ_self _)
        · refine zj_aload_n (zdk ttX11_image 24 rfl rfl) rfl (by decide) ?_
          refine zj_getr (r := 1) (zdk ttX11_image 25 rfl rfl) zf_RX11_7 rfl (k_B s18) (rfB_1 s18) ?_
          refine zj_iload_n (zdk ttX11_image 26 rfl rfl) rfl ?_
          refine zj_aload_n (zdk ttX11_image 27 rfl rfl) rfl (by decide) ?_
          refine zj_aload_n (zdk ttX11_image 28 rfl rfl) rfl (by decide) ?_
          refine zj_getr (r := 1) (zdk ttX11_image 29 rfl rfl) zf_RX11_7 rfl (k_B s18) (rfB_1 s18) ?_
          refine zj_iload_n (zdk ttX11_image 30 rfl rfl) rfl ?_
          have b272 : -2147483648 ≤ (h17.2 1 x16) ∧ (h17.2 1 x16) ≤ 2147483647 := abB_1 s18 x16
          refine zj_iald (v := (h17.2 1 x16)) (zdk ttX11_image 31 rfl rfl) (kaB_1 s18) (by decide) (by omega) rfl ?_
          refine zj_callV (av := [.inl (h17.2 1 x16)]) (st := [.inl x16, .inr 1]) (zdk ttX11_image 32 rfl rfl) mb_X11_keeps mv_RX11_467 (ci := 11) rfl rfl (k_B s18) rfl rfl (Nat.le_of_ble_eq_true rfl) (s_X11_keeps l h17 (h17.2 1 x16) s18 (by omega) (by have := u100.1; omega)) (rm_ok (by decide) (by decide)) (zq_i fun v274 h275 q273 => ?_)
          obtain ⟨b276, s277, f281, u278, u279, u280⟩ := q273
          refine zj_iast (zdk ttX11_image 33 rfl rfl) (kaB_1 s277) (by decide) (by omega) (fun h282 e283 => ?_)
          refine zj_iinc (L' := [some (.inr 0), some (.inl p1), some (.inl (x16 + 1))]) (zdk ttX11_image 34 rfl rfl) rfl (by decide) rfl ?_
          refine zj_goto (t := 35) (zdk ttX11_image 35 rfl rfl) (by decide) ?_
          have b284 : h282.2 0 59 = (h17.2 0 59) := ((zwr_r e283 (by first | decide | exact (absurd ·.1 (by decide)) | exact (absurd ·.2 (by decide)) | omega)).trans (zfr_f f281 rfl rfl))
          have b285 : 0 ≤ (h17.2 0 59) ∧ (h17.2 0 59) ≤ 1 := fB_59 s18
          have z287r : h17.2 1 x16 = (h17.2 1 x16) := rfl
          have z287l : zloc (x16) = (1, x16) := (zl_1 (by omega) (by omega))
          have z287 : zSt h11 h282 (x16 + 1) := zSt_step u100 (by omega) z287l f281 u278 u279 z287r u280 e283
          have s286 : okB h282 := okB_w s277 e283 (zSt_pm u100 (by omega) z287l s18 zI0 u279 z287r u280)
          have f289 : zfr [0, 3, 6, 33, 35, 37, 42, 45, 49, 53, 58, 59, 60] [1, 4, 5, 6, 9, 10, 11, 12, 13, 14, 15, 17, 18, 19, 23, 24, 25, 28, 31, 32, 35] h h275 := zfr_t f19 f281 rfl rfl
          have f288 : zfr [0, 3, 6, 33, 35, 37, 42, 45, 49, 53, 58, 59, 60] [1, 4, 5, 6, 9, 10, 11, 12, 13, 14, 15, 17, 18, 19, 23, 24, 25, 28, 31, 32, 35] h h282 := zfr_wa f289 e283 rfl
          exact ih103  (x16 + 1) h282 (by omega) s286 f288 (zSt_j z287 (by omega)) (by omega) (by omega)
    have b290 : h11.2 0 59 = 1 := ((zwr_r e12 (by first | decide | exact (absurd ·.1 (by decide)) | exact (absurd ·.2 (by decide)) | omega)).trans (zwr_v e9))
    have s291 : okB h11 := fwB_60 s10 e12 (by omega)
    have f295 : zfr [0, 3, 6, 33, 35, 37, 42, 45, 49, 53, 58, 59, 60] [1, 4, 5, 6, 9, 10, 11, 12, 13, 14, 15, 17, 18, 19, 23, 24, 25, 28, 31, 32, 35] h h1 := zfr_wf (zfr_r _ _ _) e2 rfl
    have f294 : zfr [0, 3, 6, 33, 35, 37, 42, 45, 49, 53, 58, 59, 60] [1, 4, 5, 6, 9, 10, 11, 12, 13, 14, 15, 17, 18, 19, 23, 24, 25, 28, 31, 32, 35] h h5 := zfr_wf f295 e6 rfl
    have f293 : zfr [0, 3, 6, 33, 35, 37, 42, 45, 49, 53, 58, 59, 60] [1, 4, 5, 6, 9, 10, 11, 12, 13, 14, 15, 17, 18, 19, 23, 24, 25, 28, 31, 32, 35] h h8 := zfr_wf f294 e9 rfl
    have f292 : zfr [0, 3, 6, 33, 35, 37, 42, 45, 49, 53, 58, 59, 60] [1, 4, 5, 6, 9, 10, 11, 12, 13, 14, 15, 17, 18, 19, 23, 24, 25, 28, 31, 32, 35] h h11 := zfr_wf f293 e12 rfl
    exact lp98 _ 0 h11 (by omega) s291 f292 (zSt_j z0 (by omega)) (by omega) (Nat.lt_succ_self _)
  · refine zj_aload_n (zdk ttX11_image 5 rfl rfl) rfl (by decide) ?_
    have b296 : 0 ≤ (h.2 0 59) ∧ (h.2 0 59) ≤ 1 := fB_59 s0
    have s297 : okB h1 := fwB_0 s0 e2 (by omega)
    refine zj_geti (v := (h.2 0 59)) (zdk ttX11_image 6 rfl rfl) zf_RX11_470 rfl (k_B s297) (zwr_r e2 (by first | decide | exact (absurd ·.1 (by decide)) | exact (absurd ·.2 (by decide)) | omega)) ?_
    refine zj_if_ne (t := 18) (zdk ttX11_image 7 rfl rfl) (by decide) (by omega) (fun c298 => ?_) (fun c298 => ?_)
    · refine zj_aload_n (zdk ttX11_image 10 rfl rfl) rfl (by decide) ?_
      refine zj_iload_n (zdk ttX11_image 11 rfl rfl) rfl ?_
      refine zj_putz (zdk ttX11_image 12 rfl rfl) zf_RX11_464 rfl (by omega) (k_B s297) (Or.inl zw_RX11_464) (k2 := 58) rfl (fun h299 e300 => ?_)
      refine zj_aload_n (zdk ttX11_image 13 rfl rfl) rfl (by decide) ?_
      refine zj_iconst (zdk ttX11_image 14 rfl rfl) ?_
      have s301 : okB h299 := fwB_58 s297 e300 (by omega)
      refine zj_putz (zdk ttX11_image 15 rfl rfl) zf_RX11_470 rfl (by omega) (k_B s301) (Or.inl zw_RX11_470) (k2 := 59) rfl (fun h302 e303 => ?_)
      refine zj_aload_n (zdk ttX11_image 16 rfl rfl) rfl (by decide) ?_
      refine zj_iconst (zdk ttX11_image 17 rfl rfl) ?_
      have s304 : okB h302 := fwB_59 s301 e303 (by omega)
      refine zj_puti (zdk ttX11_image 18 rfl rfl) zf_RX11_461 rfl (k_B s304) (Or.inl zw_RX11_461) (k2 := 60) rfl (fun h305 e306 => ?_)
      have f0 : zfr [0, 58, 59, 60] [] h h305 := (zfr_wf (zfr_wf (zfr_wf (zfr_wf (zfr_r _ _ _) e2 rfl) e300 rfl) e303 rfl) e306 rfl)
      have b307 : h305.2 0 58 = p1 := (((zwr_r e306 (by first | decide | exact (absurd ·.1 (by decide)) | exact (absurd ·.2 (by decide)) | omega)).trans (zwr_r e303 (by first | decide | exact (absurd ·.1 (by decide)) | exact (absurd ·.2 (by decide)) | omega))).trans (zwr_v e300))
      have b308 : h305.2 0 59 = 1 := ((zwr_r e306 (by first | decide | exact (absurd ·.1 (by decide)) | exact (absurd ·.2 (by decide)) | omega)).trans (zwr_v e303))
      have b309 : h305.2 0 60 = 0 := (zwr_v e306)
      have hT0 : h305.2 0 58 = 0 → h.2 0 59 = 1 := fun q => by omega
      have zI0 := zPI_of u_0 f0 hT0
      have z0 : zSt h305 h305 0 := zSt_0 (by omega)
      refine zj_iconst (zdk ttX11_image 19 rfl rfl) ?_
      refine zj_istore_n (L' := [some (.inr 0), some (.inl p1), some (.inl 0)]) (zdk ttX11_image 20 rfl rfl) (by decide) rfl ?_
      have lp392 : ∀ (n35 : Nat) (x310 : Int) (h311 : zM), (0 ≤ x310 ∧ x310 ≤ 63) → okB h311 → zfr [0, 3, 6, 33, 35, 37, 42, 45, 49, 53, 58, 59, 60] [1, 4, 5, 6, 9, 10, 11, 12, 13, 14, 15, 17, 18, 19, 23, 24, 25, 28, 31, 32, 35] h h311 → (zSt h305 h311 (x310)) → (h311.2 0 59 = 1) → (64 - x310).toNat < n35 → zJ shM l yX11_image cX11_image 3 (some .boolean) (rmL 3) 0 0 (q_X11_image h p1) 0 0 35 [some (.inr 0), some (.inl p1), some (.inl x310)] [] h311 := by
        intro n35
        induction n35 with
        | zero => intro x310 h311 b393 s312 f313 u394 u395 m396; exact absurd m396 (Nat.not_lt_zero _)
        | succ n35 ih397 =>
          intro x310 h311 b393 s312 f313 u394 u395 m396
          refine zj_iload_n (zdk ttX11_image 21 rfl rfl) rfl ?_
          refine zj_bipush (zdk ttX11_image 22 rfl rfl) (by decide) ?_
          refine zj_icmp_ge (t := 63) (zdk ttX11_image 23 rfl rfl) (by decide) (by omega) (by decide) (fun c398 => ?_) (fun c398 => ?_)
          · refine zj_aload_n (zdk ttX11_image 36 rfl rfl) rfl (by decide) ?_
            refine zj_callV (av := []) (st := []) (zdk ttX11_image 37 rfl rfl) mb_X11_keepsTold mv_RX11_473 (ci := 11) rfl rfl (k_B s312) rfl rfl (Nat.le_of_ble_eq_true rfl) (s_X11_keepsTold l h311 h305 s312 (zSt_j u394 (by omega)) zI0) (rm_ok (by decide) (by decide)) (zq_v fun h401 q399 => ?_)
            obtain ⟨s403, f405, u404⟩ := q399
            refine zj_iconst (zdk ttX11_image 38 rfl rfl) ?_
            refine zj_istore_n (L' := [some (.inr 0), some (.inl p1), some (.inl 0)]) (zdk ttX11_image 39 rfl rfl) (by decide) rfl ?_
            have lp527 : ∀ (n69 : Nat) (x406 : Int) (h407 : zM), (0 ≤ x406 ∧ x406 ≤ 600) → okB h407 → zfr [0, 3, 6, 33, 35, 37, 42, 45, 49, 53, 58, 59, 60] [1, 4, 5, 6, 9, 10, 11, 12, 13, 14, 15, 17, 18, 19, 23, 24, 25, 28, 31, 32, 35] h h407 → (zSt h305 h407 (262 + x406)) → (h407.2 0 59 = 1) → (601 - x406).toNat < n69 → zJ shM l yX11_image cX11_image 3 (some .boolean) (rmL 3) 0 0 (q_X11_image h p1) 0 0 69 [some (.inr 0), some (.inl p1), some (.inl x406)] [] h407 := by
              intro n69
              induction n69 with
              | zero => intro x406 h407 b528 s408 f409 u529 u530 m531; exact absurd m531 (Nat.not_lt_zero _)
              | succ n69 ih532 =>
                intro x406 h407 b528 s408 f409 u529 u530 m531
                refine zj_iload_n (zdk ttX11_image 40 rfl rfl) rfl ?_
                refine zj_sipush (zdk ttX11_image 41 rfl rfl) (by decide) ?_
                refine zj_icmp_ge (t := 98) (zdk ttX11_image 42 rfl rfl) (by decide) (by omega) (by decide) (fun c533 => ?_) (fun c533 => ?_)
                · refine zj_aload_n (zdk ttX11_image 55 rfl rfl) rfl (by decide) ?_
                  refine zj_callV (av := []) (st := []) (zdk ttX11_image 56 rfl rfl) mb_X11_keepsLaw mv_RX11_476 (ci := 11) rfl rfl (k_B s408) rfl rfl (Nat.le_of_ble_eq_true rfl) (s_X11_keepsLaw l h407 h305 s408 (zSt_j u529 (by omega)) zI0) (rm_ok (by decide) (by decide)) (zq_v fun h536 q534 => ?_)
                  obtain ⟨s538, f540, u539⟩ := q534
                  refine zj_iload_n (zdk ttX11_image 57 rfl rfl) rfl ?_
                  refine zj_if_ne (t := 111) (zdk ttX11_image 58 rfl rfl) (by decide) (by omega) (fun c541 => ?_) (fun c541 => ?_)
                  · exact absurd c541 (by omega)
                  · refine zj_aload_n (zdk ttX11_image 59 rfl rfl) rfl (by decide) ?_
                    refine zj_iconst (zdk ttX11_image 60 rfl rfl) ?_
                    refine zj_puti (zdk ttX11_image 61 rfl rfl) zf_RX11_123 rfl (k_B s538) (Or.inl zw_RX11_123) (k2 := 3) rfl (fun h542 e543 => ?_)
                    refine zj_iconst (zdk ttX11_image 62 rfl rfl) ?_
                    have s544 : okB h542 := fwB_3 s538 e543 (by omega)
                    have f546 : zfr [0, 3, 6, 33, 35, 37, 42, 45, 49, 53, 58, 59, 60] [1, 4, 5, 6, 9, 10, 11, 12, 13, 14, 15, 17, 18, 19, 23, 24, 25, 28, 31, 32, 35] h h536 := zfr_t f409 f540 rfl rfl
                    have f545 : zfr [0, 3, 6, 33, 35, 37, 42, 45, 49, 53, 58, 59, 60] [1, 4, 5, 6, 9, 10, 11, 12, 13, 14, 15, 17, 18, 19, 23, 24, 25, 28, 31, 32, 35] h h542 := zfr_wf f546 e543 rfl
                    have b547 : h536.2 0 59 = (h407.2 0 59) := (zfr_f f540 rfl rfl)
                    have b548 : 0 ≤ (h407.2 0 59) ∧ (h407.2 0 59) ≤ 1 := fB_59 s408
                    exact zj_zret rfl (zdk ttX11_image 63 rfl rfl) (Nat.le_refl _) (Nat.le_refl _) (by omega) ⟨1, rfl, by omega, s544, f545, (fwM_3 (okM_img u_0 f0 (by omega) hT0 s538 f546 (zSt_j u539 (by omega))) e543 (by decide))⟩
                · refine zj_aload_n (zdk ttX11_image 43 rfl rfl) rfl (by decide) ?_
                  refine zj_getr (r := 6) (zdk ttX11_image 44 rfl rfl) zf_RX11_25 rfl (k_B s408) (rfB_9 s408) ?_
                  refine zj_iload_n (zdk ttX11_image 45 rfl rfl) rfl ?_
                  refine zj_aload_n (zdk ttX11_image 46 rfl rfl) rfl (by decide) ?_
                  refine zj_aload_n (zdk ttX11_image 47 rfl rfl) rfl (by decide) ?_
                  refine zj_getr (r := 6) (zdk ttX11_image 48 rfl rfl) zf_RX11_25 rfl (k_B s408) (rfB_9 s408) ?_
                  refine zj_iload_n (zdk ttX11_image 49 rfl rfl) rfl ?_
                  have b549 : -2147483648 ≤ (h407.2 6 x406) ∧ (h407.2 6 x406) ≤ 2147483647 := abB_6 s408 x406
                  refine zj_iald (v := (h407.2 6 x406)) (zdk ttX11_image 50 rfl rfl) (kaB_6 s408) (by decide) (by omega) rfl ?_
                  refine zj_callV (av := [.inl (h407.2 6 x406)]) (st := [.inl x406, .inr 6]) (zdk ttX11_image 51 rfl rfl) mb_X11_keeps mv_RX11_467 (ci := 11) rfl rfl (k_B s408) rfl rfl (Nat.le_of_ble_eq_true rfl) (s_X11_keeps l h407 (h407.2 6 x406) s408 (by omega) (by have := u529.1; omega)) (rm_ok (by decide) (by decide)) (zq_i fun v551 h552 q550 => ?_)
                  obtain ⟨b553, s554, f558, u555, u556, u557⟩ := q550
                  refine zj_iast (zdk ttX11_image 52 rfl rfl) (kaB_6 s554) (by decide) (by omega) (fun h559 e560 => ?_)
                  refine zj_iinc (L' := [some (.inr 0), some (.inl p1), some (.inl (x406 + 1))]) (zdk ttX11_image 53 rfl rfl) rfl (by decide) rfl ?_
                  refine zj_goto (t := 69) (zdk ttX11_image 54 rfl rfl) (by decide) ?_
                  have b561 : h559.2 0 59 = (h407.2 0 59) := ((zwr_r e560 (by first | decide | exact (absurd ·.1 (by decide)) | exact (absurd ·.2 (by decide)) | omega)).trans (zfr_f f558 rfl rfl))
                  have b562 : 0 ≤ (h407.2 0 59) ∧ (h407.2 0 59) ≤ 1 := fB_59 s408
                  have z564r : h407.2 6 x406 = (h407.2 6 x406) := rfl
                  have z564l : zloc (262 + x406) = (6, x406) := (zl_6 (by omega) (by omega))
                  have z564 : zSt h305 h559 (262 + x406 + 1) := zSt_step u529 (by omega) z564l f558 u555 u556 z564r u557 e560
                  have s563 : okB h559 := okB_w s554 e560 (zSt_pm u529 (by omega) z564l s408 zI0 u556 z564r u557)
                  have f566 : zfr [0, 3, 6, 33, 35, 37, 42, 45, 49, 53, 58, 59, 60] [1, 4, 5, 6, 9, 10, 11, 12, 13, 14, 15, 17, 18, 19, 23, 24, 25, 28, 31, 32, 35] h h552 := zfr_t f409 f558 rfl rfl
                  have f565 : zfr [0, 3, 6, 33, 35, 37, 42, 45, 49, 53, 58, 59, 60] [1, 4, 5, 6, 9, 10, 11, 12, 13, 14, 15, 17, 18, 19, 23, 24, 25, 28, 31, 32, 35] h h559 := zfr_wa f566 e560 rfl
                  exact ih532  (x406 + 1) h559 (by omega) s563 f565 (zSt_j z564 (by omega)) (by omega) (by omega)
            have b567 : h401.2 0 59 = (h311.2 0 59) := (zfr_f f405 rfl rfl)
            have b568 : 0 ≤ (h311.2 0 59) ∧ (h311.2 0 59) ≤ 1 := fB_59 s312
            have f569 : zfr [0, 3, 6, 33, 35, 37, 42, 45, 49, 53, 58, 59, 60] [1, 4, 5, 6, 9, 10, 11, 12, 13, 14, 15, 17, 18, 19, 23, 24, 25, 28, 31, 32, 35] h h401 := zfr_t f313 f405 rfl rfl
            exact lp527 _ 0 h401 (by omega) s403 f569 (zSt_j u404 (by omega)) (by omega) (Nat.lt_succ_self _)
          · refine zj_aload_n (zdk ttX11_image 24 rfl rfl) rfl (by decide) ?_
            refine zj_getr (r := 1) (zdk ttX11_image 25 rfl rfl) zf_RX11_7 rfl (k_B s312) (rfB_1 s312) ?_
            refine zj_iload_n (zdk ttX11_image 26 rfl rfl) rfl ?_
            refine zj_aload_n (zdk ttX11_image 27 rfl rfl) rfl (by decide) ?_
            refine zj_aload_n (zdk ttX11_image 28 rfl rfl) rfl (by decide) ?_
            refine zj_getr (r := 1) (zdk ttX11_image 29 rfl rfl) zf_RX11_7 rfl (k_B s312) (rfB_1 s312) ?_
            refine zj_iload_n (zdk ttX11_image 30 rfl rfl) rfl ?_
            have b570 : -2147483648 ≤ (h311.2 1 x310) ∧ (h311.2 1 x310) ≤ 2147483647 := abB_1 s312 x310
            refine zj_iald (v := (h311.2 1 x310)) (zdk ttX11_image 31 rfl rfl) (kaB_1 s312) (by decide) (by omega) rfl ?_
            refine zj_callV (av := [.inl (h311.2 1 x310)]) (st := [.inl x310, .inr 1]) (zdk ttX11_image 32 rfl rfl) mb_X11_keeps mv_RX11_467 (ci := 11) rfl rfl (k_B s312) rfl rfl (Nat.le_of_ble_eq_true rfl) (s_X11_keeps l h311 (h311.2 1 x310) s312 (by omega) (by have := u394.1; omega)) (rm_ok (by decide) (by decide)) (zq_i fun v572 h573 q571 => ?_)
            obtain ⟨b574, s575, f579, u576, u577, u578⟩ := q571
            refine zj_iast (zdk ttX11_image 33 rfl rfl) (kaB_1 s575) (by decide) (by omega) (fun h580 e581 => ?_)
            refine zj_iinc (L' := [some (.inr 0), some (.inl p1), some (.inl (x310 + 1))]) (zdk ttX11_image 34 rfl rfl) rfl (by decide) rfl ?_
            refine zj_goto (t := 35) (zdk ttX11_image 35 rfl rfl) (by decide) ?_
            have b582 : h580.2 0 59 = (h311.2 0 59) := ((zwr_r e581 (by first | decide | exact (absurd ·.1 (by decide)) | exact (absurd ·.2 (by decide)) | omega)).trans (zfr_f f579 rfl rfl))
            have b583 : 0 ≤ (h311.2 0 59) ∧ (h311.2 0 59) ≤ 1 := fB_59 s312
            have z585r : h311.2 1 x310 = (h311.2 1 x310) := rfl
            have z585l : zloc (x310) = (1, x310) := (zl_1 (by omega) (by omega))
            have z585 : zSt h305 h580 (x310 + 1) := zSt_step u394 (by omega) z585l f579 u576 u577 z585r u578 e581
            have s584 : okB h580 := okB_w s575 e581 (zSt_pm u394 (by omega) z585l s312 zI0 u577 z585r u578)
            have f587 : zfr [0, 3, 6, 33, 35, 37, 42, 45, 49, 53, 58, 59, 60] [1, 4, 5, 6, 9, 10, 11, 12, 13, 14, 15, 17, 18, 19, 23, 24, 25, 28, 31, 32, 35] h h573 := zfr_t f313 f579 rfl rfl
            have f586 : zfr [0, 3, 6, 33, 35, 37, 42, 45, 49, 53, 58, 59, 60] [1, 4, 5, 6, 9, 10, 11, 12, 13, 14, 15, 17, 18, 19, 23, 24, 25, 28, 31, 32, 35] h h580 := zfr_wa f587 e581 rfl
            exact ih397  (x310 + 1) h580 (by omega) s584 f586 (zSt_j z585 (by omega)) (by omega) (by omega)
      have b588 : h305.2 0 59 = 1 := ((zwr_r e306 (by first | decide | exact (absurd ·.1 (by decide)) | exact (absurd ·.2 (by decide)) | omega)).trans (zwr_v e303))
      have s589 : okB h305 := fwB_60 s304 e306 (by omega)
      have f593 : zfr [0, 3, 6, 33, 35, 37, 42, 45, 49, 53, 58, 59, 60] [1, 4, 5, 6, 9, 10, 11, 12, 13, 14, 15, 17, 18, 19, 23, 24, 25, 28, 31, 32, 35] h h1 := zfr_wf (zfr_r _ _ _) e2 rfl
      have f592 : zfr [0, 3, 6, 33, 35, 37, 42, 45, 49, 53, 58, 59, 60] [1, 4, 5, 6, 9, 10, 11, 12, 13, 14, 15, 17, 18, 19, 23, 24, 25, 28, 31, 32, 35] h h299 := zfr_wf f593 e300 rfl
      have f591 : zfr [0, 3, 6, 33, 35, 37, 42, 45, 49, 53, 58, 59, 60] [1, 4, 5, 6, 9, 10, 11, 12, 13, 14, 15, 17, 18, 19, 23, 24, 25, 28, 31, 32, 35] h h302 := zfr_wf f592 e303 rfl
      have f590 : zfr [0, 3, 6, 33, 35, 37, 42, 45, 49, 53, 58, 59, 60] [1, 4, 5, 6, 9, 10, 11, 12, 13, 14, 15, 17, 18, 19, 23, 24, 25, 28, 31, 32, 35] h h305 := zfr_wf f591 e306 rfl
      exact lp392 _ 0 h305 (by omega) s589 f590 (zSt_j z0 (by omega)) (by omega) (Nat.lt_succ_self _)
    · refine zj_iconst (zdk ttX11_image 8 rfl rfl) ?_
      have f594 : zfr [0, 3, 6, 33, 35, 37, 42, 45, 49, 53, 58, 59, 60] [1, 4, 5, 6, 9, 10, 11, 12, 13, 14, 15, 17, 18, 19, 23, 24, 25, 28, 31, 32, 35] h h1 := zfr_wf (zfr_r _ _ _) e2 rfl
      exact zj_zret rfl (zdk ttX11_image 9 rfl rfl) (Nat.le_refl _) (Nat.le_refl _) (by omega) ⟨0, rfl, by omega, s297, f594, (fwM_0 u_0 e2 (by decide))⟩
