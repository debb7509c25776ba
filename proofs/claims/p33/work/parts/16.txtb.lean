abbrev tX7_readTown : List (Nat × Instr × Nat) := [(0, .aload_n 0, 1), (1, .getfield 9, 3), (4, .ldc 119, 2), (6, .invokevirtual 19, 3), (9, .aload_n 1, 1), (10, .iconst 0, 1), (11, .putfield 96, 3), (14, .iconst 0, 1), (15, .istore_n 3, 1), (16, .iload_n 3, 1), (17, .bipush 16, 2), (19, .if_icmp .gt 51, 3), (22, .aload_n 0, 1), (23, .getfield 9, 3), (26, .getfield 32, 3), (29, .ifCond .eq 41, 3), (32, .aload_n 0, 1), (33, .getfield 9, 3), (36, .iload_n 3, 1), (37, .iconst 0, 1), (38, .iconst 0, 1), (39, .invokevirtual 35, 3), (42, .ifCond .eq 13, 3), (45, .aload_n 0, 1), (46, .aload_n 1, 1), (47, .iload_n 3, 1), (48, .iload_n 2, 1), (49, .invokevirtual 121, 3), (52, .ifCond .ne 5, 3), (55, .iconst 0, 1), (56, .ireturn, 1), (57, .aload_n 1, 1), (58, .iload_n 3, 1), (59, .iconst 1, 1), (60, .iadd, 1), (61, .putfield 96, 3), (64, .iinc 3 1, 3), (67, .goto (-51), 3), (70, .iconst 1, 1), (71, .ireturn, 1)]
theorem ttX7_readTown : zdt cX7_readTown tX7_readTown = true := by decide +kernel
abbrev q_X7_readTown (h : zM) (p1 : Int) (p2 : Int) : Option zV → zM → Prop := zqi fun v h' => (0 ≤ v ∧ v ≤ 1) ∧ okC h'
set_option maxRecDepth 100000 in
set_option maxHeartbeats 4000000 in
theorem s_X7_readTown (l : Launch) (h : zM) (p1 : Int) (p2 : Int) (s0 : okC h) (r_p1 : zPl p1) (b_p2 : (-2147483648) ≤ p2 ∧ p2 ≤ 2147483647) : zT shC l yX7_readTown cX7_readTown 4 (some .boolean) (rmL 9) 0 0 [.inr 107, .inr p1, .inl p2] h (q_X7_readTown h p1 p2) := by
  refine zT_of (by decide +kernel) (L0 := [some (.inr 107), some (.inr p1), some (.inl p2), none]) rfl (Nat.le_of_ble_eq_true rfl) ?_
  have b1 := zPl_b r_p1
  refine zj_aload_n (zdk ttX7_readTown 0 rfl rfl) rfl (by decide) ?_
  refine zj_getr (r := 103) (zdk ttX7_readTown 1 rfl rfl) zf_RX7_9 rfl (k_L107 s0) (rf_L107_0 s0) ?_
  refine zj_ldcS (i := 3) (zdk ttX7_readTown 2 rfl rfl) (List.mem_of_getElem? (i := 3) rfl) ?_
  refine zj_callV (av := [.inr (-2 - ((3 : Nat) : Int))]) (st := []) (zdk ttX7_readTown 3 rfl rfl) mb_X6_cut mv_RX7_19 (ci := 6) rfl rfl (k_L103 s0) rfl rfl (Nat.le_of_ble_eq_true rfl) (s_X6_cut l h 3 s0 (show 3 < 5 by decide)) (rm_ok (by decide) (by decide)) (zq_v fun h4 q2 => ?_)
  refine zj_aload_n (zdk ttX7_readTown 4 rfl rfl) rfl (by omega) ?_
  refine zj_iconst (zdk ttX7_readTown 5 rfl rfl) ?_
  refine zj_puti (zdk ttX7_readTown 6 rfl rfl) zf_RX7_96 rfl (k_4_0 q2 r_p1) (Or.inl zw_RX7_96) (k2 := 3) rfl (fun h7 e8 => ?_)
  refine zj_iconst (zdk ttX7_readTown 7 rfl rfl) ?_
  refine zj_istore_n (L' := [some (.inr 107), some (.inr p1), some (.inl p2), some (.inl 0)]) (zdk ttX7_readTown 8 rfl rfl) (by decide) rfl ?_
  have lp120 : ∀ (n : Nat) (x9 : Int) (h10 : zM), (0 ≤ x9 ∧ x9 ≤ 17) → okC h10 → (18 - x9).toNat < n → zJ shC l yX7_readTown cX7_readTown 4 (some .boolean) (rmL 9) 0 0 (q_X7_readTown h p1 p2) 0 0 16 [some (.inr 107), some (.inr p1), some (.inl p2), some (.inl x9)] [] h10 := by
    intro n
    induction n with
    | zero => intro x9 h10 b121 s11 m122; exact absurd m122 (Nat.not_lt_zero _)
    | succ n ih123 =>
      intro x9 h10 b121 s11 m122
      refine zj_iload_n (zdk ttX7_readTown 9 rfl rfl) rfl ?_
      refine zj_bipush (zdk ttX7_readTown 10 rfl rfl) (by decide) ?_
      refine zj_icmp_gt (t := 70) (zdk ttX7_readTown 11 rfl rfl) (by decide) (by omega) (by decide) (fun c124 => ?_) (fun c124 => ?_)
      · refine zj_iconst (zdk ttX7_readTown 38 rfl rfl) ?_
        exact zj_zret rfl (zdk ttX7_readTown 39 rfl rfl) (Nat.le_refl _) (Nat.le_refl _) (by omega) ⟨1, rfl, by omega, s11⟩
      · refine zj_aload_n (zdk ttX7_readTown 12 rfl rfl) rfl (by decide) ?_
        refine zj_getr (r := 103) (zdk ttX7_readTown 13 rfl rfl) zf_RX7_9 rfl (k_L107 s11) (rf_L107_0 s11) ?_
        have b125 : -2147483648 ≤ (h10.2 103 6) ∧ (h10.2 103 6) ≤ 2147483647 := fb_L103_6 s11
        refine zj_geti (v := (h10.2 103 6)) (zdk ttX7_readTown 14 rfl rfl) zf_RX7_32 rfl (k_L103 s11) rfl ?_
        refine zj_if_eq (t := 70) (zdk ttX7_readTown 15 rfl rfl) (by decide) (by omega) (fun c126 => ?_) (fun c126 => ?_)
        · refine zj_iconst (zdk ttX7_readTown 38 rfl rfl) ?_
          exact zj_zret rfl (zdk ttX7_readTown 39 rfl rfl) (Nat.le_refl _) (Nat.le_refl _) (by omega) ⟨1, rfl, by omega, s11⟩
        · refine zj_aload_n (zdk ttX7_readTown 16 rfl rfl) rfl (by decide) ?_
          refine zj_getr (r := 103) (zdk ttX7_readTown 17 rfl rfl) zf_RX7_9 rfl (k_L107 s11) (rf_L107_0 s11) ?_
          refine zj_iload_n (zdk ttX7_readTown 18 rfl rfl) rfl ?_
          refine zj_iconst (zdk ttX7_readTown 19 rfl rfl) ?_
          refine zj_iconst (zdk ttX7_readTown 20 rfl rfl) ?_
          refine zj_callV (av := [.inl x9, .inl 0, .inl 0]) (st := []) (zdk ttX7_readTown 21 rfl rfl) mb_X6_opensLine mv_RX7_35 (ci := 6) rfl rfl (k_L103 s11) rfl rfl (Nat.le_of_ble_eq_true rfl) (s_X6_opensLine l h10 x9 0 0 s11 (by omega) (by omega) (by omega)) (rm_ok (by decide) (by decide)) (zq_i fun v128 h129 q127 => ?_)
          obtain ⟨b130, s131, u132⟩ := q127
          refine zj_if_eq (t := 55) (zdk ttX7_readTown 22 rfl rfl) (by decide) (by omega) (fun c133 => ?_) (fun c133 => ?_)
          · refine zj_iconst (zdk ttX7_readTown 29 rfl rfl) ?_
            exact zj_zret rfl (zdk ttX7_readTown 30 rfl rfl) (Nat.le_refl _) (Nat.le_refl _) (by omega) ⟨0, rfl, by omega, s131⟩
          · refine zj_aload_n (zdk ttX7_readTown 23 rfl rfl) rfl (by decide) ?_
            refine zj_aload_n (zdk ttX7_readTown 24 rfl rfl) rfl (by omega) ?_
            refine zj_iload_n (zdk ttX7_readTown 25 rfl rfl) rfl ?_
            refine zj_iload_n (zdk ttX7_readTown 26 rfl rfl) rfl ?_
            refine zj_callV (av := [.inr p1, .inl x9, .inl p2]) (st := []) (zdk ttX7_readTown 27 rfl rfl) mb_X7_readDoing mv_RX7_121 (ci := 7) rfl rfl (k_L107 s131) rfl rfl (Nat.le_of_ble_eq_true rfl) (s_X7_readDoing l h129 p1 x9 p2 s131 r_p1 (by omega) (by omega)) (rm_ok (by decide) (by decide)) (zq_i fun v135 h136 q134 => ?_)
            obtain ⟨b137, s138⟩ := q134
            refine zj_if_ne (t := 57) (zdk ttX7_readTown 28 rfl rfl) (by decide) (by omega) (fun c139 => ?_) (fun c139 => ?_)
            · refine zj_aload_n (zdk ttX7_readTown 31 rfl rfl) rfl (by omega) ?_
              refine zj_iload_n (zdk ttX7_readTown 32 rfl rfl) rfl ?_
              refine zj_iconst (zdk ttX7_readTown 33 rfl rfl) ?_
              refine zj_iadd (zdk ttX7_readTown 34 rfl rfl) ?_
              refine zj_puti (zdk ttX7_readTown 35 rfl rfl) zf_RX7_96 rfl (k_4_0 s138 r_p1) (Or.inl zw_RX7_96) (k2 := 3) rfl (fun h140 e141 => ?_)
              refine zj_iinc (L' := [some (.inr 107), some (.inr p1), some (.inl p2), some (.inl (x9 + 1))]) (zdk ttX7_readTown 36 rfl rfl) rfl (by decide) rfl ?_
              refine zj_goto (t := 16) (zdk ttX7_readTown 37 rfl rfl) (by decide) ?_
              have s142 : okC h140 := fw_4_0_3 s138 r_p1 e141 (by omega)
              exact ih123  (x9 + 1) h140 (by omega) s142 (by omega)
            · refine zj_iconst (zdk ttX7_readTown 29 rfl rfl) ?_
              exact zj_zret rfl (zdk ttX7_readTown 30 rfl rfl) (Nat.le_refl _) (Nat.le_refl _) (by omega) ⟨0, rfl, by omega, s138⟩
  have s143 : okC h7 := fw_4_0_3 q2 r_p1 e8 (by omega)
  exact lp120 _ 0 h7 (by omega) s143 (Nat.lt_succ_self _)

abbrev tX7_readKinLine : List (Nat × Instr × Nat) := [(0, .aload_n 0, 1), (1, .getfield 9, 3), (4, .invokevirtual 47, 3), (7, .aload_n 0, 1), (8, .getfield 9, 3), (11, .iconst 0, 1), (12, .iload_n 2, 1), (13, .iconst 1, 1), (14, .isub, 1), (15, .invokevirtual 104, 3), (18, .ifCond .ne 5, 3), (21, .iconst 0, 1), (22, .ireturn, 1), (23, .aload_n 0, 1), (24, .getfield 9, 3), (27, .getfield 110, 3), (30, .istore_n 3, 1), (31, .aload_n 0, 1), (32, .getfield 9, 3), (35, .sipush 201, 3), (38, .invokevirtual 70, 3), (41, .ifCond .ne 5, 3), (44, .iconst 0, 1), (45, .ireturn, 1), (46, .aload_n 0, 1), (47, .getfield 9, 3), (50, .getfield 32, 3), (53, .sipush 1000, 3), (56, .iload_n 3, 1), (57, .iadd, 1), (58, .if_icmp .ne 12, 3), (61, .aload_n 0, 1), (62, .getfield 9, 3), (65, .iconst 2, 1), (66, .invokevirtual 81, 3), (69, .ireturn, 1), (70, .aload_n 0, 1), (71, .getfield 9, 3), (74, .iconst 0, 1), (75, .iload_n 2, 1), (76, .iconst 1, 1), (77, .isub, 1), (78, .invokevirtual 104, 3), (81, .ifCond .ne 5, 3), (84, .iconst 0, 1), (85, .ireturn, 1), (86, .aload_n 1, 1), (87, .iload_n 3, 1), (88, .aload_n 0, 1), (89, .getfield 9, 3), (92, .getfield 110, 3), (95, .invokevirtual 140, 3), (98, .aload_n 0, 1), (99, .getfield 9, 3), (102, .bipush 59, 2), (104, .invokevirtual 70, 3), (107, .ireturn, 1)]
theorem ttX7_readKinLine : zdt cX7_readKinLine tX7_readKinLine = true := by decide +kernel
abbrev q_X7_readKinLine (h : zM) (p1 : Int) (p2 : Int) : Option zV → zM → Prop := zqi fun v h' => (0 ≤ v ∧ v ≤ 1) ∧ okC h'
set_option maxRecDepth 100000 in
set_option maxHeartbeats 4000000 in
theorem s_X7_readKinLine (l : Launch) (h : zM) (p1 : Int) (p2 : Int) (s0 : okC h) (r_p1 : zKi p1) (b_p2 : (-2147483648) ≤ p2 ∧ p2 ≤ 2147483647) : zT shC l yX7_readKinLine cX7_readKinLine 4 (some .boolean) (rmL 6) 0 0 [.inr 107, .inr p1, .inl p2] h (q_X7_readKinLine h p1 p2) := by
  refine zT_of (by decide +kernel) (L0 := [some (.inr 107), some (.inr p1), some (.inl p2), none]) rfl (Nat.le_of_ble_eq_true rfl) ?_
  have b1 := zKi_b r_p1
  refine zj_aload_n (zdk ttX7_readKinLine 0 rfl rfl) rfl (by decide) ?_
  refine zj_getr (r := 103) (zdk ttX7_readKinLine 1 rfl rfl) zf_RX7_9 rfl (k_L107 s0) (rf_L107_0 s0) ?_
  refine zj_callV (av := []) (st := []) (zdk ttX7_readKinLine 2 rfl rfl) mb_X6_pass mv_RX7_47 (ci := 6) rfl rfl (k_L103 s0) rfl rfl (Nat.le_of_ble_eq_true rfl) (s_X6_pass l h s0) (rm_ok (by decide) (by decide)) (zq_v fun h4 q2 => ?_)
  refine zj_aload_n (zdk ttX7_readKinLine 3 rfl rfl) rfl (by decide) ?_
  refine zj_getr (r := 103) (zdk ttX7_readKinLine 4 rfl rfl) zf_RX7_9 rfl (k_L107 q2) (rf_L107_0 q2) ?_
  refine zj_iconst (zdk ttX7_readKinLine 5 rfl rfl) ?_
  refine zj_iload_n (zdk ttX7_readKinLine 6 rfl rfl) rfl ?_
  refine zj_iconst (zdk ttX7_readKinLine 7 rfl rfl) ?_
  refine zj_isub (zdk ttX7_readKinLine 8 rfl rfl) ?_
  refine zj_wrap ?_
  have b7 := zwp_in (p2 - 1)
  refine zj_callV (av := [.inl 0, .inl (zwp (p2 - 1))]) (st := []) (zdk ttX7_readKinLine 9 rfl rfl) mb_X6_takesNumber mv_RX7_104 (ci := 6) rfl rfl (k_L103 q2) rfl rfl (Nat.le_of_ble_eq_true rfl) (s_X6_takesNumber l h4 0 (zwp (p2 - 1)) q2 (by omega) (by omega)) (rm_ok (by decide) (by decide)) (zq_i fun v9 h10 q8 => ?_)
  obtain ⟨b11, s12⟩ := q8
  refine zj_if_ne (t := 23) (zdk ttX7_readKinLine 10 rfl rfl) (by decide) (by omega) (fun c13 => ?_) (fun c13 => ?_)
  · refine zj_aload_n (zdk ttX7_readKinLine 13 rfl rfl) rfl (by decide) ?_
    refine zj_getr (r := 103) (zdk ttX7_readKinLine 14 rfl rfl) zf_RX7_9 rfl (k_L107 s12) (rf_L107_0 s12) ?_
    have b14 : -2147483648 ≤ (h10.2 103 9) ∧ (h10.2 103 9) ≤ 2147483647 := fb_L103_9 s12
    refine zj_geti (v := (h10.2 103 9)) (zdk ttX7_readKinLine 15 rfl rfl) zf_RX7_110 rfl (k_L103 s12) rfl ?_
    refine zj_istore_n (L' := [some (.inr 107), some (.inr p1), some (.inl p2), some (.inl (h10.2 103 9))]) (zdk ttX7_readKinLine 16 rfl rfl) (by decide) rfl ?_
    refine zj_aload_n (zdk ttX7_readKinLine 17 rfl rfl) rfl (by decide) ?_
    refine zj_getr (r := 103) (zdk ttX7_readKinLine 18 rfl rfl) zf_RX7_9 rfl (k_L107 s12) (rf_L107_0 s12) ?_
    refine zj_sipush (zdk ttX7_readKinLine 19 rfl rfl) (by decide) ?_
    refine zj_callV (av := [.inl 201]) (st := []) (zdk ttX7_readKinLine 20 rfl rfl) mb_X6_takes mv_RX7_70 (ci := 6) rfl rfl (k_L103 s12) rfl rfl (Nat.le_of_ble_eq_true rfl) (s_X6_takes l h10 201 s12 (by omega)) (rm_ok (by decide) (by decide)) (zq_i fun v16 h17 q15 => ?_)
    obtain ⟨b18, s19⟩ := q15
    refine zj_if_ne (t := 46) (zdk ttX7_readKinLine 21 rfl rfl) (by decide) (by omega) (fun c20 => ?_) (fun c20 => ?_)
    · refine zj_aload_n (zdk ttX7_readKinLine 24 rfl rfl) rfl (by decide) ?_
      refine zj_getr (r := 103) (zdk ttX7_readKinLine 25 rfl rfl) zf_RX7_9 rfl (k_L107 s19) (rf_L107_0 s19) ?_
      have b21 : -2147483648 ≤ (h17.2 103 6) ∧ (h17.2 103 6) ≤ 2147483647 := fb_L103_6 s19
      refine zj_geti (v := (h17.2 103 6)) (zdk ttX7_readKinLine 26 rfl rfl) zf_RX7_32 rfl (k_L103 s19) rfl ?_
      refine zj_sipush (zdk ttX7_readKinLine 27 rfl rfl) (by decide) ?_
      refine zj_iload_n (zdk ttX7_readKinLine 28 rfl rfl) rfl ?_
      refine zj_iadd (zdk ttX7_readKinLine 29 rfl rfl) ?_
      refine zj_wrap ?_
      have b22 := zwp_in (1000 + (h10.2 103 9))
      refine zj_icmp_ne (t := 70) (zdk ttX7_readKinLine 30 rfl rfl) (by decide) (by omega) (by omega) (fun c23 => ?_) (fun c23 => ?_)
      · refine zj_aload_n (zdk ttX7_readKinLine 36 rfl rfl) rfl (by decide) ?_
        refine zj_getr (r := 103) (zdk ttX7_readKinLine 37 rfl rfl) zf_RX7_9 rfl (k_L107 s19) (rf_L107_0 s19) ?_
        refine zj_iconst (zdk ttX7_readKinLine 38 rfl rfl) ?_
        refine zj_iload_n (zdk ttX7_readKinLine 39 rfl rfl) rfl ?_
        refine zj_iconst (zdk ttX7_readKinLine 40 rfl rfl) ?_
        refine zj_isub (zdk ttX7_readKinLine 41 rfl rfl) ?_
        refine zj_wrap ?_
        refine zj_callV (av := [.inl 0, .inl (zwp (p2 - 1))]) (st := []) (zdk ttX7_readKinLine 42 rfl rfl) mb_X6_takesNumber mv_RX7_104 (ci := 6) rfl rfl (k_L103 s19) rfl rfl (Nat.le_of_ble_eq_true rfl) (s_X6_takesNumber l h17 0 (zwp (p2 - 1)) s19 (by omega) (by omega)) (rm_ok (by decide) (by decide)) (zq_i fun v25 h26 q24 => ?_)
        obtain ⟨b27, s28⟩ := q24
        refine zj_if_ne (t := 86) (zdk ttX7_readKinLine 43 rfl rfl) (by decide) (by omega) (fun c29 => ?_) (fun c29 => ?_)
        · refine zj_aload_n (zdk ttX7_readKinLine 46 rfl rfl) rfl (by omega) ?_
          refine zj_iload_n (zdk ttX7_readKinLine 47 rfl rfl) rfl ?_
          refine zj_aload_n (zdk ttX7_readKinLine 48 rfl rfl) rfl (by decide) ?_
          refine zj_getr (r := 103) (zdk ttX7_readKinLine 49 rfl rfl) zf_RX7_9 rfl (k_L107 s28) (rf_L107_0 s28) ?_
          have b30 : -2147483648 ≤ (h26.2 103 9) ∧ (h26.2 103 9) ≤ 2147483647 := fb_L103_9 s28
          refine zj_geti (v := (h26.2 103 9)) (zdk ttX7_readKinLine 50 rfl rfl) zf_RX7_110 rfl (k_L103 s28) rfl ?_
          refine zj_callV (av := [.inl (h10.2 103 9), .inl (h26.2 103 9)]) (st := []) (zdk ttX7_readKinLine 51 rfl rfl) mb_X2_join mv_RX7_140 (ci := 2) rfl rfl (k_2_0 s28 r_p1) rfl rfl (Nat.le_of_ble_eq_true rfl) (s_X2_join l h26 p1 (h10.2 103 9) (h26.2 103 9) s28 r_p1 (by omega) (by omega)) (rm_ok (by decide) (by decide)) (zq_v fun h33 q31 => ?_)
          refine zj_aload_n (zdk ttX7_readKinLine 52 rfl rfl) rfl (by decide) ?_
          refine zj_getr (r := 103) (zdk ttX7_readKinLine 53 rfl rfl) zf_RX7_9 rfl (k_L107 q31) (rf_L107_0 q31) ?_
          refine zj_bipush (zdk ttX7_readKinLine 54 rfl rfl) (by decide) ?_
          refine zj_callV (av := [.inl 59]) (st := []) (zdk ttX7_readKinLine 55 rfl rfl) mb_X6_takes mv_RX7_70 (ci := 6) rfl rfl (k_L103 q31) rfl rfl (Nat.le_of_ble_eq_true rfl) (s_X6_takes l h33 59 q31 (by omega)) (rm_ok (by decide) (by decide)) (zq_i fun v37 h38 q36 => ?_)
          obtain ⟨b39, s40⟩ := q36
          exact zj_zret rfl (zdk ttX7_readKinLine 56 rfl rfl) (Nat.le_refl _) (Nat.le_refl _) (by omega) ⟨v37, rfl, by omega, s40⟩
        · refine zj_iconst (zdk ttX7_readKinLine 44 rfl rfl) ?_
          exact zj_zret rfl (zdk ttX7_readKinLine 45 rfl rfl) (Nat.le_refl _) (Nat.le_refl _) (by omega) ⟨0, rfl, by omega, s28⟩
      · refine zj_aload_n (zdk ttX7_readKinLine 31 rfl rfl) rfl (by decide) ?_
        refine zj_getr (r := 103) (zdk ttX7_readKinLine 32 rfl rfl) zf_RX7_9 rfl (k_L107 s19) (rf_L107_0 s19) ?_
        refine zj_iconst (zdk ttX7_readKinLine 33 rfl rfl) ?_
        refine zj_callV (av := [.inl 2]) (st := []) (zdk ttX7_readKinLine 34 rfl rfl) mb_X6_refuse mv_RX7_81 (ci := 6) rfl rfl (k_L103 s19) rfl rfl (Nat.le_of_ble_eq_true rfl) (s2_X6_refuse l h17 2 s19 (by omega)) (rm_ok (by decide) (by decide)) (zq_i fun v42 h43 q41 => ?_)
        obtain ⟨b44, s45⟩ := q41
        exact zj_zret rfl (zdk ttX7_readKinLine 35 rfl rfl) (Nat.le_refl _) (Nat.le_refl _) (by omega) ⟨v42, rfl, by omega, s45⟩
    · refine zj_iconst (zdk ttX7_readKinLine 22 rfl rfl) ?_
      exact zj_zret rfl (zdk ttX7_readKinLine 23 rfl rfl) (Nat.le_refl _) (Nat.le_refl _) (by omega) ⟨0, rfl, by omega, s19⟩
  · refine zj_iconst (zdk ttX7_readKinLine 11 rfl rfl) ?_
    exact zj_zret rfl (zdk ttX7_readKinLine 12 rfl rfl) (Nat.le_refl _) (Nat.le_refl _) (by omega) ⟨0, rfl, by omega, s12⟩

abbrev tX7_readKin : List (Nat × Instr × Nat) := [(0, .aload_n 0, 1), (1, .getfield 9, 3), (4, .ldc 130, 2), (6, .invokevirtual 19, 3), (9, .aload_n 1, 1), (10, .invokevirtual 132, 3), (13, .iconst 0, 1), (14, .istore_n 3, 1), (15, .iload_n 3, 1), (16, .bipush 16, 2), (18, .if_icmp .gt 50, 3), (21, .aload_n 0, 1), (22, .getfield 9, 3), (25, .getfield 32, 3), (28, .ifCond .eq 40, 3), (31, .aload_n 0, 1), (32, .getfield 9, 3), (35, .iload_n 3, 1), (36, .iconst 0, 1), (37, .iconst 0, 1), (38, .invokevirtual 35, 3), (41, .ifCond .eq 12, 3), (44, .aload_n 0, 1), (45, .aload_n 1, 1), (46, .iload_n 2, 1), (47, .invokevirtual 135, 3), (50, .ifCond .ne 5, 3), (53, .iconst 0, 1), (54, .ireturn, 1), (55, .aload_n 1, 1), (56, .iload_n 3, 1), (57, .iconst 1, 1), (58, .iadd, 1), (59, .putfield 139, 3), (62, .iinc 3 1, 3), (65, .goto (-50), 3), (68, .iconst 1, 1), (69, .ireturn, 1)]
theorem ttX7_readKin : zdt cX7_readKin tX7_readKin = true := by decide +kernel
abbrev q_X7_readKin (h : zM) (p1 : Int) (p2 : Int) : Option zV → zM → Prop := zqi fun v h' => (0 ≤ v ∧ v ≤ 1) ∧ okC h'
set_option maxRecDepth 100000 in
set_option maxHeartbeats 4000000 in
theorem s_X7_readKin (l : Launch) (h : zM) (p1 : Int) (p2 : Int) (s0 : okC h) (r_p1 : zKi p1) (b_p2 : (-2147483648) ≤ p2 ∧ p2 ≤ 2147483647) : zT shC l yX7_readKin cX7_readKin 4 (some .boolean) (rmL 9) 0 0 [.inr 107, .inr p1, .inl p2] h (q_X7_readKin h p1 p2) := by
  refine zT_of (by decide +kernel) (L0 := [some (.inr 107), some (.inr p1), some (.inl p2), none]) rfl (Nat.le_of_ble_eq_true rfl) ?_
  have b1 := zKi_b r_p1
  refine zj_aload_n (zdk ttX7_readKin 0 rfl rfl) rfl (by decide) ?_
  refine zj_getr (r := 103) (zdk ttX7_readKin 1 rfl rfl) zf_RX7_9 rfl (k_L107 s0) (rf_L107_0 s0) ?_
  refine zj_ldcS (i := 4) (zdk ttX7_readKin 2 rfl rfl) (List.mem_of_getElem? (i := 4) rfl) ?_
  refine zj_callV (av := [.inr (-2 - ((4 : Nat) : Int))]) (st := []) (zdk ttX7_readKin 3 rfl rfl) mb_X6_cut mv_RX7_19 (ci := 6) rfl rfl (k_L103 s0) rfl rfl (Nat.le_of_ble_eq_true rfl) (s_X6_cut l h 4 s0 (show 4 < 5 by decide)) (rm_ok (by decide) (by decide)) (zq_v fun h4 q2 => ?_)
  refine zj_aload_n (zdk ttX7_readKin 4 rfl rfl) rfl (by omega) ?_
  refine zj_callV (av := []) (st := []) (zdk ttX7_readKin 5 rfl rfl) mb_X2_clear mv_RX7_132 (ci := 2) rfl rfl (k_2_0 q2 r_p1) rfl rfl (Nat.le_of_ble_eq_true rfl) (s_X2_clear l h4 p1 q2 r_p1) (rm_ok (by decide) (by decide)) (zq_v fun h9 q7 => ?_)
  refine zj_iconst (zdk ttX7_readKin 6 rfl rfl) ?_
  refine zj_istore_n (L' := [some (.inr 107), some (.inr p1), some (.inl p2), some (.inl 0)]) (zdk ttX7_readKin 7 rfl rfl) (by decide) rfl ?_
  have lp123 : ∀ (n : Nat) (x12 : Int) (h13 : zM), (0 ≤ x12 ∧ x12 ≤ 17) → okC h13 → (18 - x12).toNat < n → zJ shC l yX7_readKin cX7_readKin 4 (some .boolean) (rmL 9) 0 0 (q_X7_readKin h p1 p2) 0 0 15 [some (.inr 107), some (.inr p1), some (.inl p2), some (.inl x12)] [] h13 := by
    intro n
    induction n with
    | zero => intro x12 h13 b124 s14 m125; exact absurd m125 (Nat.not_lt_zero _)
    | succ n ih126 =>
      intro x12 h13 b124 s14 m125
      refine zj_iload_n (zdk ttX7_readKin 8 rfl rfl) rfl ?_
      refine zj_bipush (zdk ttX7_readKin 9 rfl rfl) (by decide) ?_
      refine zj_icmp_gt (t := 68) (zdk ttX7_readKin 10 rfl rfl) (by decide) (by omega) (by decide) (fun c127 => ?_) (fun c127 => ?_)
      · refine zj_iconst (zdk ttX7_readKin 36 rfl rfl) ?_
        exact zj_zret rfl (zdk ttX7_readKin 37 rfl rfl) (Nat.le_refl _) (Nat.le_refl _) (by omega) ⟨1, rfl, by omega, s14⟩
      · refine zj_aload_n (zdk ttX7_readKin 11 rfl rfl) rfl (by decide) ?_
        refine zj_getr (r := 103) (zdk ttX7_readKin 12 rfl rfl) zf_RX7_9 rfl (k_L107 s14) (rf_L107_0 s14) ?_
        have b128 : -2147483648 ≤ (h13.2 103 6) ∧ (h13.2 103 6) ≤ 2147483647 := fb_L103_6 s14
        refine zj_geti (v := (h13.2 103 6)) (zdk ttX7_readKin 13 rfl rfl) zf_RX7_32 rfl (k_L103 s14) rfl ?_
        refine zj_if_eq (t := 68) (zdk ttX7_readKin 14 rfl rfl) (by decide) (by omega) (fun c129 => ?_) (fun c129 => ?_)
        · refine zj_iconst (zdk ttX7_readKin 36 rfl rfl) ?_
          exact zj_zret rfl (zdk ttX7_readKin 37 rfl rfl) (Nat.le_refl _) (Nat.le_refl _) (by omega) ⟨1, rfl, by omega, s14⟩
        · refine zj_aload_n (zdk ttX7_readKin 15 rfl rfl) rfl (by decide) ?_
          refine zj_getr (r := 103) (zdk ttX7_readKin 16 rfl rfl) zf_RX7_9 rfl (k_L107 s14) (rf_L107_0 s14) ?_
          refine zj_iload_n (zdk ttX7_readKin 17 rfl rfl) rfl ?_
          refine zj_iconst (zdk ttX7_readKin 18 rfl rfl) ?_
          refine zj_iconst (zdk ttX7_readKin 19 rfl rfl) ?_
          refine zj_callV (av := [.inl x12, .inl 0, .inl 0]) (st := []) (zdk ttX7_readKin 20 rfl rfl) mb_X6_opensLine mv_RX7_35 (ci := 6) rfl rfl (k_L103 s14) rfl rfl (Nat.le_of_ble_eq_true rfl) (s_X6_opensLine l h13 x12 0 0 s14 (by omega) (by omega) (by omega)) (rm_ok (by decide) (by decide)) (zq_i fun v131 h132 q130 => ?_)
          obtain ⟨b133, s134, u135⟩ := q130
          refine zj_if_eq (t := 53) (zdk ttX7_readKin 21 rfl rfl) (by decide) (by omega) (fun c136 => ?_) (fun c136 => ?_)
          · refine zj_iconst (zdk ttX7_readKin 27 rfl rfl) ?_
            exact zj_zret rfl (zdk ttX7_readKin 28 rfl rfl) (Nat.le_refl _) (Nat.le_refl _) (by omega) ⟨0, rfl, by omega, s134⟩
          · refine zj_aload_n (zdk ttX7_readKin 22 rfl rfl) rfl (by decide) ?_
            refine zj_aload_n (zdk ttX7_readKin 23 rfl rfl) rfl (by omega) ?_
            refine zj_iload_n (zdk ttX7_readKin 24 rfl rfl) rfl ?_
            refine zj_callV (av := [.inr p1, .inl p2]) (st := []) (zdk ttX7_readKin 25 rfl rfl) mb_X7_readKinLine mv_RX7_135 (ci := 7) rfl rfl (k_L107 s134) rfl rfl (Nat.le_of_ble_eq_true rfl) (s_X7_readKinLine l h132 p1 p2 s134 r_p1 (by omega)) (rm_ok (by decide) (by decide)) (zq_i fun v138 h139 q137 => ?_)
            obtain ⟨b140, s141⟩ := q137
            refine zj_if_ne (t := 55) (zdk ttX7_readKin 26 rfl rfl) (by decide) (by omega) (fun c142 => ?_) (fun c142 => ?_)
            · refine zj_aload_n (zdk ttX7_readKin 29 rfl rfl) rfl (by omega) ?_
              refine zj_iload_n (zdk ttX7_readKin 30 rfl rfl) rfl ?_
              refine zj_iconst (zdk ttX7_readKin 31 rfl rfl) ?_
              refine zj_iadd (zdk ttX7_readKin 32 rfl rfl) ?_
              refine zj_puti (zdk ttX7_readKin 33 rfl rfl) zf_RX7_139 rfl (k_2_0 s141 r_p1) (Or.inl zw_RX7_139) (k2 := 1) rfl (fun h143 e144 => ?_)
              refine zj_iinc (L' := [some (.inr 107), some (.inr p1), some (.inl p2), some (.inl (x12 + 1))]) (zdk ttX7_readKin 34 rfl rfl) rfl (by decide) rfl ?_
              refine zj_goto (t := 15) (zdk ttX7_readKin 35 rfl rfl) (by decide) ?_
              have s145 : okC h143 := fw_2_0_1 s141 r_p1 e144 (by omega)
              exact ih126  (x12 + 1) h143 (by omega) s145 (by omega)
            · refine zj_iconst (zdk ttX7_readKin 27 rfl rfl) ?_
              exact zj_zret rfl (zdk ttX7_readKin 28 rfl rfl) (Nat.le_refl _) (Nat.le_refl _) (by omega) ⟨0, rfl, by omega, s141⟩
  exact lp123 _ 0 h9 (by omega) q7 (Nat.lt_succ_self _)

abbrev tX10_text : List (Nat × Instr × Nat) := [(0, .aload_n 0, 1), (1, .getfield 10, 3), (4, .getfield 67, 3), (7, .getfield 81, 3), (10, .istore_n 2, 1), (11, .iconst (-1), 1), (12, .istore_n 3, 1), (13, .aload_n 0, 1), (14, .getfield 25, 3), (17, .invokevirtual 143, 3), (20, .iload_n 1, 1), (21, .tableswitch 233 0 3 #[31, 79, 131, 184], 31), (52, .aload_n 0, 1), (53, .getfield 34, 3), (56, .aload_n 0, 1), (57, .getfield 19, 3), (60, .getfield 146, 3), (63, .invokevirtual 150, 3), (66, .ifCond .eq 188, 3), (69, .aload_n 0, 1), (70, .getfield 10, 3), (73, .getfield 146, 3), (76, .aload_n 0, 1), (77, .getfield 19, 3), (80, .getfield 146, 3), (83, .invokevirtual 154, 3), (86, .aload_n 0, 1), (87, .getfield 10, 3), (90, .getfield 146, 3), (93, .getfield 160, 3), (96, .istore_n 3, 1), (97, .goto 157, 3), (100, .aload_n 0, 1), (101, .getfield 34, 3), (104, .aload_n 0, 1), (105, .getfield 19, 3), (108, .getfield 163, 3), (111, .invokevirtual 167, 3), (114, .ifCond .eq 140, 3), (117, .aload_n 0, 1), (118, .getfield 10, 3), (121, .getfield 163, 3), (124, .aload_n 0, 1), (125, .getfield 19, 3), (128, .getfield 163, 3), (131, .invokevirtual 171, 3), (134, .aload_n 0, 1), (135, .getfield 10, 3), (138, .getfield 163, 3), (141, .getfield 176, 3), (144, .istore_n 3, 1), (145, .aload_n 0, 1), (146, .invokevirtual 74, 3), (149, .goto 105, 3), (152, .aload_n 0, 1), (153, .getfield 34, 3), (156, .aload_n 0, 1), (157, .getfield 19, 3), (160, .getfield 177, 3), (163, .iload_n 2, 1), (164, .invokevirtual 180, 3), (167, .ifCond .eq 87, 3), (170, .aload_n 0, 1), (171, .getfield 10, 3), (174, .getfield 177, 3), (177, .aload_n 0, 1), (178, .getfield 19, 3), (181, .getfield 177, 3), (184, .invokevirtual 171, 3), (187, .aload_n 0, 1), (188, .getfield 10, 3), (191, .getfield 177, 3), (194, .getfield 176, 3), (197, .istore_n 3, 1), (198, .aload_n 0, 1), (199, .invokevirtual 74, 3), (202, .goto 52, 3), (205, .aload_n 0, 1), (206, .getfield 34, 3), (209, .aload_n 0, 1), (210, .getfield 19, 3), (213, .getfield 184, 3), (216, .iload_n 2, 1), (217, .invokevirtual 188, 3), (220, .ifCond .eq 34, 3), (223, .aload_n 0, 1), (224, .getfield 10, 3), (227, .getfield 184, 3), (230, .aload_n 0, 1), (231, .getfield 19, 3), (234, .getfield 184, 3), (237, .invokevirtual 192, 3), (240, .aload_n 0, 1), (241, .getfield 10, 3), (244, .getfield 184, 3), (247, .getfield 197, 3), (250, .istore_n 3, 1), (251, .goto 3, 3), (254, .aload_n 0, 1), (255, .getfield 25, 3), (258, .iconst 0, 1), (259, .putfield 137, 3), (262, .iload_n 3, 1), (263, .ireturn, 1)]
theorem ttX10_text : zdt cX10_text tX10_text = true := by decide +kernel
abbrev q_X10_text (h : zM) (p1 : Int) : Option zV → zM → Prop := zqi fun v h' => ((-2147483648) ≤ v ∧ v ≤ 2147483647) ∧ okC h'
set_option maxRecDepth 100000 in
set_option maxHeartbeats 4000000 in
theorem s_X10_text (l : Launch) (h : zM) (p1 : Int) (s0 : okC h) (b_p1 : (-2147483648) ≤ p1 ∧ p1 ≤ 2147483647) : zT shC l yX10_text cX10_text 4 (some .int) (rmL 33) 0 0 [.inr 0, .inl p1] h (q_X10_text h p1) := by
  refine zT_of (by decide +kernel) (L0 := [some (.inr 0), some (.inl p1), none, none]) rfl (Nat.le_of_ble_eq_true rfl) ?_
  refine zj_aload_n (zdk ttX10_text 0 rfl rfl) rfl (by decide) ?_
  refine zj_getr (r := 1) (zdk ttX10_text 1 rfl rfl) zf_RX10_10 rfl (k_L0 s0) (rf_L0_0 s0) ?_
  refine zj_getr (r := 2) (zdk ttX10_text 2 rfl rfl) zf_RX10_67 rfl (k_9_0 s0 zWd_1) (rf_9_0_0 s0 zWd_1) ?_
  have b1 : 0 ≤ (h.2 2 3) ∧ (h.2 2 3) ≤ 18 := fb_1_0_3 s0 zIs_2
  refine zj_geti (v := (h.2 2 3)) (zdk ttX10_text 3 rfl rfl) zf_RX10_81 rfl (k_1_0 s0 zIs_2) rfl ?_
  refine zj_istore_n (L' := [some (.inr 0), some (.inl p1), some (.inl (h.2 2 3)), none]) (zdk ttX10_text 4 rfl rfl) (by decide) rfl ?_
  refine zj_iconst (zdk ttX10_text 5 rfl rfl) ?_
  refine zj_istore_n (L' := [some (.inr 0), some (.inl p1), some (.inl (h.2 2 3)), some (.inl (-1))]) (zdk ttX10_text 6 rfl rfl) (by decide) rfl ?_
  refine zj_aload_n (zdk ttX10_text 7 rfl rfl) rfl (by decide) ?_
  refine zj_getr (r := 103) (zdk ttX10_text 8 rfl rfl) zf_RX10_25 rfl (k_L0 s0) (rf_L0_3 s0) ?_
  refine zj_callV (av := []) (st := []) (zdk ttX10_text 9 rfl rfl) mb_X6_rewind mv_RX10_143 (ci := 6) rfl rfl (k_L103 s0) rfl rfl (Nat.le_of_ble_eq_true rfl) (s_X6_rewind l h s0) (rm_ok (by decide) (by decide)) (zq_v fun h4 q2 => ?_)
  refine zj_iload_n (zdk ttX10_text 10 rfl rfl) rfl ?_
  have k8 : (p1 < 0 ∨ 3 < p1) → zJ shC l yX10_text cX10_text 4 (some .int) (rmL 33) 0 0 (q_X10_text h p1) 0 0 254 [some (.inr 0), some (.inl p1), some (.inl (h.2 2 3)), some (.inl (-1))] [] h4 := by
    intro c7
    refine zj_aload_n (zdk ttX10_text 98 rfl rfl) rfl (by decide) ?_
    refine zj_getr (r := 103) (zdk ttX10_text 99 rfl rfl) zf_RX10_25 rfl (k_L0 q2) (rf_L0_3 q2) ?_
    refine zj_iconst (zdk ttX10_text 100 rfl rfl) ?_
    refine zj_puti (zdk ttX10_text 101 rfl rfl) zf_RX10_137 rfl (k_L103 q2) (Or.inl zw_RX10_137) (k2 := 3) rfl (fun h9 e10 => ?_)
    refine zj_iload_n (zdk ttX10_text 102 rfl rfl) rfl ?_
    have s11 : okC h9 := fw_L103_3 q2 e10 (by omega)
    exact zj_iret rfl (zdk ttX10_text 103 rfl rfl) (Nat.le_refl _) (Nat.le_refl _) ⟨(-1), rfl, by omega, s11⟩
  have k12 : p1 = 0 → zJ shC l yX10_text cX10_text 4 (some .int) (rmL 33) 0 0 (q_X10_text h p1) 0 0 52 [some (.inr 0), some (.inl p1), some (.inl (h.2 2 3)), some (.inl (-1))] [] h4 := by
    intro c7
    refine zj_aload_n (zdk ttX10_text 12 rfl rfl) rfl (by decide) ?_
    refine zj_getr (r := 107) (zdk ttX10_text 13 rfl rfl) zf_RX10_34 rfl (k_L0 q2) (rf_L0_4 q2) ?_
    refine zj_aload_n (zdk ttX10_text 14 rfl rfl) rfl (by decide) ?_
    refine zj_getr (r := 69) (zdk ttX10_text 15 rfl rfl) zf_RX10_19 rfl (k_L0 q2) (rf_L0_2 q2) ?_
    refine zj_getr (r := 74) (zdk ttX10_text 16 rfl rfl) zf_RX10_146 rfl (k_9_0 q2 zWd_69) (rf_9_0_1 q2 zWd_69) ?_
    refine zj_callV (av := [.inr 74]) (st := []) (zdk ttX10_text 17 rfl rfl) mb_X7_readLaw mv_RX10_150 (ci := 7) rfl rfl (k_L107 q2) rfl rfl (Nat.le_of_ble_eq_true rfl) (s_X7_readLaw l h4 74 q2 zLw_74) (rm_ok (by decide) (by decide)) (zq_i fun v14 h15 q13 => ?_)
    obtain ⟨b16, s17⟩ := q13
    refine zj_if_eq (t := 254) (zdk ttX10_text 18 rfl rfl) (by decide) (by omega) (fun c18 => ?_) (fun c18 => ?_)
    · refine zj_aload_n (zdk ttX10_text 98 rfl rfl) rfl (by decide) ?_
      refine zj_getr (r := 103) (zdk ttX10_text 99 rfl rfl) zf_RX10_25 rfl (k_L0 s17) (rf_L0_3 s17) ?_
      refine zj_iconst (zdk ttX10_text 100 rfl rfl) ?_
      refine zj_puti (zdk ttX10_text 101 rfl rfl) zf_RX10_137 rfl (k_L103 s17) (Or.inl zw_RX10_137) (k2 := 3) rfl (fun h19 e20 => ?_)
      refine zj_iload_n (zdk ttX10_text 102 rfl rfl) rfl ?_
      have s21 : okC h19 := fw_L103_3 s17 e20 (by omega)
      exact zj_iret rfl (zdk ttX10_text 103 rfl rfl) (Nat.le_refl _) (Nat.le_refl _) ⟨(-1), rfl, by omega, s21⟩
    · refine zj_aload_n (zdk ttX10_text 19 rfl rfl) rfl (by decide) ?_
      refine zj_getr (r := 1) (zdk ttX10_text 20 rfl rfl) zf_RX10_10 rfl (k_L0 s17) (rf_L0_0 s17) ?_
      refine zj_getr (r := 6) (zdk ttX10_text 21 rfl rfl) zf_RX10_146 rfl (k_9_0 s17 zWd_1) (rf_9_0_1 s17 zWd_1) ?_
      refine zj_aload_n (zdk ttX10_text 22 rfl rfl) rfl (by decide) ?_
      refine zj_getr (r := 69) (zdk ttX10_text 23 rfl rfl) zf_RX10_19 rfl (k_L0 s17) (rf_L0_2 s17) ?_
      refine zj_getr (r := 74) (zdk ttX10_text 24 rfl rfl) zf_RX10_146 rfl (k_9_0 s17 zWd_69) (rf_9_0_1 s17 zWd_69) ?_
      refine zj_callV (av := [.inr 74]) (st := []) (zdk ttX10_text 25 rfl rfl) mb_X3_copyFrom mv_RX10_154 (ci := 3) rfl rfl (k_3_0 s17 zLw_6) rfl rfl (Nat.le_of_ble_eq_true rfl) (s_X3_copyFrom l h15 6 74 s17 zLw_6 zLw_74) (rm_ok (by decide) (by decide)) (zq_v fun h24 q22 => ?_)
      refine zj_aload_n (zdk ttX10_text 26 rfl rfl) rfl (by decide) ?_
      refine zj_getr (r := 1) (zdk ttX10_text 27 rfl rfl) zf_RX10_10 rfl (k_L0 q22) (rf_L0_0 q22) ?_
      refine zj_getr (r := 6) (zdk ttX10_text 28 rfl rfl) zf_RX10_146 rfl (k_9_0 q22 zWd_1) (rf_9_0_1 q22 zWd_1) ?_
      have b27 : 0 ≤ (h24.2 6 6) ∧ (h24.2 6 6) ≤ 16 := fb_3_0_6 q22 zLw_6
      refine zj_geti (v := (h24.2 6 6)) (zdk ttX10_text 29 rfl rfl) zf_RX10_160 rfl (k_3_0 q22 zLw_6) rfl ?_
      refine zj_istore_n (L' := [some (.inr 0), some (.inl p1), some (.inl (h.2 2 3)), some (.inl (h24.2 6 6))]) (zdk ttX10_text 30 rfl rfl) (by decide) rfl ?_
      refine zj_goto (t := 254) (zdk ttX10_text 31 rfl rfl) (by decide) ?_
      refine zj_aload_n (zdk ttX10_text 98 rfl rfl) rfl (by decide) ?_
      refine zj_getr (r := 103) (zdk ttX10_text 99 rfl rfl) zf_RX10_25 rfl (k_L0 q22) (rf_L0_3 q22) ?_
      refine zj_iconst (zdk ttX10_text 100 rfl rfl) ?_
      refine zj_puti (zdk ttX10_text 101 rfl rfl) zf_RX10_137 rfl (k_L103 q22) (Or.inl zw_RX10_137) (k2 := 3) rfl (fun h28 e29 => ?_)
      refine zj_iload_n (zdk ttX10_text 102 rfl rfl) rfl ?_
      have s30 : okC h28 := fw_L103_3 q22 e29 (by omega)
      exact zj_iret rfl (zdk ttX10_text 103 rfl rfl) (Nat.le_refl _) (Nat.le_refl _) ⟨(h24.2 6 6), rfl, by omega, s30⟩
  have k31 : p1 = 1 → zJ shC l yX10_text cX10_text 4 (some .int) (rmL 33) 0 0 (q_X10_text h p1) 0 0 100 [some (.inr 0), some (.inl p1), some (.inl (h.2 2 3)), some (.inl (-1))] [] h4 := by
    intro c7
    refine zj_aload_n (zdk ttX10_text 32 rfl rfl) rfl (by decide) ?_
    refine zj_getr (r := 107) (zdk ttX10_text 33 rfl rfl) zf_RX10_34 rfl (k_L0 q2) (rf_L0_4 q2) ?_
    refine zj_aload_n (zdk ttX10_text 34 rfl rfl) rfl (by decide) ?_
    refine zj_getr (r := 69) (zdk ttX10_text 35 rfl rfl) zf_RX10_19 rfl (k_L0 q2) (rf_L0_2 q2) ?_
    refine zj_getr (r := 81) (zdk ttX10_text 36 rfl rfl) zf_RX10_163 rfl (k_9_0 q2 zWd_69) (rf_9_0_2 q2 zWd_69) ?_
    refine zj_callV (av := [.inr 81]) (st := []) (zdk ttX10_text 37 rfl rfl) mb_X7_readBoats mv_RX10_167 (ci := 7) rfl rfl (k_L107 q2) rfl rfl (Nat.le_of_ble_eq_true rfl) (s_X7_readBoats l h4 81 q2 zPl_81) (rm_ok (by decide) (by decide)) (zq_i fun v33 h34 q32 => ?_)
    obtain ⟨b35, s36⟩ := q32
    refine zj_if_eq (t := 254) (zdk ttX10_text 38 rfl rfl) (by decide) (by omega) (fun c37 => ?_) (fun c37 => ?_)
    · refine zj_aload_n (zdk ttX10_text 98 rfl rfl) rfl (by decide) ?_
      refine zj_getr (r := 103) (zdk ttX10_text 99 rfl rfl) zf_RX10_25 rfl (k_L0 s36) (rf_L0_3 s36) ?_
      refine zj_iconst (zdk ttX10_text 100 rfl rfl) ?_
      refine zj_puti (zdk ttX10_text 101 rfl rfl) zf_RX10_137 rfl (k_L103 s36) (Or.inl zw_RX10_137) (k2 := 3) rfl (fun h38 e39 => ?_)
      refine zj_iload_n (zdk ttX10_text 102 rfl rfl) rfl ?_
      have s40 : okC h38 := fw_L103_3 s36 e39 (by omega)
      exact zj_iret rfl (zdk ttX10_text 103 rfl rfl) (Nat.le_refl _) (Nat.le_refl _) ⟨(-1), rfl, by omega, s40⟩
    · refine zj_aload_n (zdk ttX10_text 39 rfl rfl) rfl (by decide) ?_
      refine zj_getr (r := 1) (zdk ttX10_text 40 rfl rfl) zf_RX10_10 rfl (k_L0 s36) (rf_L0_0 s36) ?_
      refine zj_getr (r := 13) (zdk ttX10_text 41 rfl rfl) zf_RX10_163 rfl (k_9_0 s36 zWd_1) (rf_9_0_2 s36 zWd_1) ?_
      refine zj_aload_n (zdk ttX10_text 42 rfl rfl) rfl (by decide) ?_
      refine zj_getr (r := 69) (zdk ttX10_text 43 rfl rfl) zf_RX10_19 rfl (k_L0 s36) (rf_L0_2 s36) ?_
      refine zj_getr (r := 81) (zdk ttX10_text 44 rfl rfl) zf_RX10_163 rfl (k_9_0 s36 zWd_69) (rf_9_0_2 s36 zWd_69) ?_
      refine zj_callV (av := [.inr 81]) (st := []) (zdk ttX10_text 45 rfl rfl) mb_X4_copyFrom mv_RX10_171 (ci := 4) rfl rfl (k_4_0 s36 zPl_13) rfl rfl (Nat.le_of_ble_eq_true rfl) (s_X4_copyFrom l h34 13 81 s36 zPl_13 zPl_81) (rm_ok (by decide) (by decide)) (zq_v fun h43 q41 => ?_)
      refine zj_aload_n (zdk ttX10_text 46 rfl rfl) rfl (by decide) ?_
      refine zj_getr (r := 1) (zdk ttX10_text 47 rfl rfl) zf_RX10_10 rfl (k_L0 q41) (rf_L0_0 q41) ?_
      refine zj_getr (r := 13) (zdk ttX10_text 48 rfl rfl) zf_RX10_163 rfl (k_9_0 q41 zWd_1) (rf_9_0_2 q41 zWd_1) ?_
      have b46 : 0 ≤ (h43.2 13 3) ∧ (h43.2 13 3) ≤ 16 := fb_4_0_3 q41 zPl_13
      refine zj_geti (v := (h43.2 13 3)) (zdk ttX10_text 49 rfl rfl) zf_RX10_176 rfl (k_4_0 q41 zPl_13) rfl ?_
      refine zj_istore_n (L' := [some (.inr 0), some (.inl p1), some (.inl (h.2 2 3)), some (.inl (h43.2 13 3))]) (zdk ttX10_text 50 rfl rfl) (by decide) rfl ?_
      refine zj_aload_n (zdk ttX10_text 51 rfl rfl) rfl (by decide) ?_
      refine zj_callV (av := []) (st := []) (zdk ttX10_text 52 rfl rfl) mb_X10_forget mv_RX10_74 (ci := 10) rfl rfl (k_L0 q41) rfl rfl (Nat.le_of_ble_eq_true rfl) (s_X10_forget l h43 q41) (rm_ok (by decide) (by decide)) (zq_v fun h49 q47 => ?_)
      refine zj_goto (t := 254) (zdk ttX10_text 53 rfl rfl) (by decide) ?_
      refine zj_aload_n (zdk ttX10_text 98 rfl rfl) rfl (by decide) ?_
      refine zj_getr (r := 103) (zdk ttX10_text 99 rfl rfl) zf_RX10_25 rfl (k_L0 q47) (rf_L0_3 q47) ?_
      refine zj_iconst (zdk ttX10_text 100 rfl rfl) ?_
      refine zj_puti (zdk ttX10_text 101 rfl rfl) zf_RX10_137 rfl (k_L103 q47) (Or.inl zw_RX10_137) (k2 := 3) rfl (fun h52 e53 => ?_)
      refine zj_iload_n (zdk ttX10_text 102 rfl rfl) rfl ?_
      have s54 : okC h52 := fw_L103_3 q47 e53 (by omega)
      exact zj_iret rfl (zdk ttX10_text 103 rfl rfl) (Nat.le_refl _) (Nat.le_refl _) ⟨(h43.2 13 3), rfl, by omega, s54⟩
  have k55 : p1 = 2 → zJ shC l yX10_text cX10_text 4 (some .int) (rmL 33) 0 0 (q_X10_text h p1) 0 0 152 [some (.inr 0), some (.inl p1), some (.inl (h.2 2 3)), some (.inl (-1))] [] h4 := by
    intro c7
    refine zj_aload_n (zdk ttX10_text 54 rfl rfl) rfl (by decide) ?_
    refine zj_getr (r := 107) (zdk ttX10_text 55 rfl rfl) zf_RX10_34 rfl (k_L0 q2) (rf_L0_4 q2) ?_
    refine zj_aload_n (zdk ttX10_text 56 rfl rfl) rfl (by decide) ?_
    refine zj_getr (r := 69) (zdk ttX10_text 57 rfl rfl) zf_RX10_19 rfl (k_L0 q2) (rf_L0_2 q2) ?_
    refine zj_getr (r := 85) (zdk ttX10_text 58 rfl rfl) zf_RX10_177 rfl (k_9_0 q2 zWd_69) (rf_9_0_3 q2 zWd_69) ?_
    refine zj_iload_n (zdk ttX10_text 59 rfl rfl) rfl ?_
    refine zj_callV (av := [.inr 85, .inl (h.2 2 3)]) (st := []) (zdk ttX10_text 60 rfl rfl) mb_X7_readTown mv_RX10_180 (ci := 7) rfl rfl (k_L107 q2) rfl rfl (Nat.le_of_ble_eq_true rfl) (s_X7_readTown l h4 85 (h.2 2 3) q2 zPl_85 (by omega)) (rm_ok (by decide) (by decide)) (zq_i fun v57 h58 q56 => ?_)
    obtain ⟨b59, s60⟩ := q56
    refine zj_if_eq (t := 254) (zdk ttX10_text 61 rfl rfl) (by decide) (by omega) (fun c61 => ?_) (fun c61 => ?_)
    · refine zj_aload_n (zdk ttX10_text 98 rfl rfl) rfl (by decide) ?_
      refine zj_getr (r := 103) (zdk ttX10_text 99 rfl rfl) zf_RX10_25 rfl (k_L0 s60) (rf_L0_3 s60) ?_
      refine zj_iconst (zdk ttX10_text 100 rfl rfl) ?_
      refine zj_puti (zdk ttX10_text 101 rfl rfl) zf_RX10_137 rfl (k_L103 s60) (Or.inl zw_RX10_137) (k2 := 3) rfl (fun h62 e63 => ?_)
      refine zj_iload_n (zdk ttX10_text 102 rfl rfl) rfl ?_
      have s64 : okC h62 := fw_L103_3 s60 e63 (by omega)
      exact zj_iret rfl (zdk ttX10_text 103 rfl rfl) (Nat.le_refl _) (Nat.le_refl _) ⟨(-1), rfl, by omega, s64⟩
    · refine zj_aload_n (zdk ttX10_text 62 rfl rfl) rfl (by decide) ?_
      refine zj_getr (r := 1) (zdk ttX10_text 63 rfl rfl) zf_RX10_10 rfl (k_L0 s60) (rf_L0_0 s60) ?_
      refine zj_getr (r := 17) (zdk ttX10_text 64 rfl rfl) zf_RX10_177 rfl (k_9_0 s60 zWd_1) (rf_9_0_3 s60 zWd_1) ?_
      refine zj_aload_n (zdk ttX10_text 65 rfl rfl) rfl (by decide) ?_
      refine zj_getr (r := 69) (zdk ttX10_text 66 rfl rfl) zf_RX10_19 rfl (k_L0 s60) (rf_L0_2 s60) ?_
      refine zj_getr (r := 85) (zdk ttX10_text 67 rfl rfl) zf_RX10_177 rfl (k_9_0 s60 zWd_69) (rf_9_0_3 s60 zWd_69) ?_
      refine zj_callV (av := [.inr 85]) (st := []) (zdk ttX10_text 68 rfl rfl) mb_X4_copyFrom mv_RX10_171 (ci := 4) rfl rfl (k_4_0 s60 zPl_17) rfl rfl (Nat.le_of_ble_eq_true rfl) (s_X4_copyFrom l h58 17 85 s60 zPl_17 zPl_85) (rm_ok (by decide) (by decide)) (zq_v fun h67 q65 => ?_)
      refine zj_aload_n (zdk ttX10_text 69 rfl rfl) rfl (by decide) ?_
      refine zj_getr (r := 1) (zdk ttX10_text 70 rfl rfl) zf_RX10_10 rfl (k_L0 q65) (rf_L0_0 q65) ?_
      refine zj_getr (r := 17) (zdk ttX10_text 71 rfl rfl) zf_RX10_177 rfl (k_9_0 q65 zWd_1) (rf_9_0_3 q65 zWd_1) ?_
      have b70 : 0 ≤ (h67.2 17 3) ∧ (h67.2 17 3) ≤ 16 := fb_4_0_3 q65 zPl_17
      refine zj_geti (v := (h67.2 17 3)) (zdk ttX10_text 72 rfl rfl) zf_RX10_176 rfl (k_4_0 q65 zPl_17) rfl ?_
      refine zj_istore_n (L' := [some (.inr 0), some (.inl p1), some (.inl (h.2 2 3)), some (.inl (h67.2 17 3))]) (zdk ttX10_text 73 rfl rfl) (by decide) rfl ?_
      refine zj_aload_n (zdk ttX10_text 74 rfl rfl) rfl (by decide) ?_
      refine zj_callV (av := []) (st := []) (zdk ttX10_text 75 rfl rfl) mb_X10_forget mv_RX10_74 (ci := 10) rfl rfl (k_L0 q65) rfl rfl (Nat.le_of_ble_eq_true rfl) (s_X10_forget l h67 q65) (rm_ok (by decide) (by decide)) (zq_v fun h73 q71 => ?_)
      refine zj_goto (t := 254) (zdk ttX10_text 76 rfl rfl) (by decide) ?_
      refine zj_aload_n (zdk ttX10_text 98 rfl rfl) rfl (by decide) ?_
      refine zj_getr (r := 103) (zdk ttX10_text 99 rfl rfl) zf_RX10_25 rfl (k_L0 q71) (rf_L0_3 q71) ?_
      refine zj_iconst (zdk ttX10_text 100 rfl rfl) ?_
      refine zj_puti (zdk ttX10_text 101 rfl rfl) zf_RX10_137 rfl (k_L103 q71) (Or.inl zw_RX10_137) (k2 := 3) rfl (fun h76 e77 => ?_)
      refine zj_iload_n (zdk ttX10_text 102 rfl rfl) rfl ?_
      have s78 : okC h76 := fw_L103_3 q71 e77 (by omega)
      exact zj_iret rfl (zdk ttX10_text 103 rfl rfl) (Nat.le_refl _) (Nat.le_refl _) ⟨(h67.2 17 3), rfl, by omega, s78⟩
  have k79 : p1 = 3 → zJ shC l yX10_text cX10_text 4 (some .int) (rmL 33) 0 0 (q_X10_text h p1) 0 0 205 [some (.inr 0), some (.inl p1), some (.inl (h.2 2 3)), some (.inl (-1))] [] h4 := by
    intro c7
    refine zj_aload_n (zdk ttX10_text 77 rfl rfl) rfl (by decide) ?_
    refine zj_getr (r := 107) (zdk ttX10_text 78 rfl rfl) zf_RX10_34 rfl (k_L0 q2) (rf_L0_4 q2) ?_
    refine zj_aload_n (zdk ttX10_text 79 rfl rfl) rfl (by decide) ?_
    refine zj_getr (r := 69) (zdk ttX10_text 80 rfl rfl) zf_RX10_19 rfl (k_L0 q2) (rf_L0_2 q2) ?_
    refine zj_getr (r := 89) (zdk ttX10_text 81 rfl rfl) zf_RX10_184 rfl (k_9_0 q2 zWd_69) (rf_9_0_4 q2 zWd_69) ?_
    refine zj_iload_n (zdk ttX10_text 82 rfl rfl) rfl ?_
    refine zj_callV (av := [.inr 89, .inl (h.2 2 3)]) (st := []) (zdk ttX10_text 83 rfl rfl) mb_X7_readKin mv_RX10_188 (ci := 7) rfl rfl (k_L107 q2) rfl rfl (Nat.le_of_ble_eq_true rfl) (s_X7_readKin l h4 89 (h.2 2 3) q2 zKi_89 (by omega)) (rm_ok (by decide) (by decide)) (zq_i fun v81 h82 q80 => ?_)
    obtain ⟨b83, s84⟩ := q80
    refine zj_if_eq (t := 254) (zdk ttX10_text 84 rfl rfl) (by decide) (by omega) (fun c85 => ?_) (fun c85 => ?_)
    · refine zj_aload_n (zdk ttX10_text 98 rfl rfl) rfl (by decide) ?_
      refine zj_getr (r := 103) (zdk ttX10_text 99 rfl rfl) zf_RX10_25 rfl (k_L0 s84) (rf_L0_3 s84) ?_
      refine zj_iconst (zdk ttX10_text 100 rfl rfl) ?_
      refine zj_puti (zdk ttX10_text 101 rfl rfl) zf_RX10_137 rfl (k_L103 s84) (Or.inl zw_RX10_137) (k2 := 3) rfl (fun h86 e87 => ?_)
      refine zj_iload_n (zdk ttX10_text 102 rfl rfl) rfl ?_
      have s88 : okC h86 := fw_L103_3 s84 e87 (by omega)
      exact zj_iret rfl (zdk ttX10_text 103 rfl rfl) (Nat.le_refl _) (Nat.le_refl _) ⟨(-1), rfl, by omega, s88⟩
    · refine zj_aload_n (zdk ttX10_text 85 rfl rfl) rfl (by decide) ?_
      refine zj_getr (r := 1) (zdk ttX10_text 86 rfl rfl) zf_RX10_10 rfl (k_L0 s84) (rf_L0_0 s84) ?_
      refine zj_getr (r := 21) (zdk ttX10_text 87 rfl rfl) zf_RX10_184 rfl (k_9_0 s84 zWd_1) (rf_9_0_4 s84 zWd_1) ?_
      refine zj_aload_n (zdk ttX10_text 88 rfl rfl) rfl (by decide) ?_
      refine zj_getr (r := 69) (zdk ttX10_text 89 rfl rfl) zf_RX10_19 rfl (k_L0 s84) (rf_L0_2 s84) ?_
      refine zj_getr (r := 89) (zdk ttX10_text 90 rfl rfl) zf_RX10_184 rfl (k_9_0 s84 zWd_69) (rf_9_0_4 s84 zWd_69) ?_
      refine zj_callV (av := [.inr 89]) (st := []) (zdk ttX10_text 91 rfl rfl) mb_X2_copyFrom mv_RX10_192 (ci := 2) rfl rfl (k_2_0 s84 zKi_21) rfl rfl (Nat.le_of_ble_eq_true rfl) (s_X2_copyFrom l h82 21 89 s84 zKi_21 zKi_89) (rm_ok (by decide) (by decide)) (zq_v fun h91 q89 => ?_)
      refine zj_aload_n (zdk ttX10_text 92 rfl rfl) rfl (by decide) ?_
      refine zj_getr (r := 1) (zdk ttX10_text 93 rfl rfl) zf_RX10_10 rfl (k_L0 q89) (rf_L0_0 q89) ?_
      refine zj_getr (r := 21) (zdk ttX10_text 94 rfl rfl) zf_RX10_184 rfl (k_9_0 q89 zWd_1) (rf_9_0_4 q89 zWd_1) ?_
      have b94 : -2147483648 ≤ (h91.2 21 1) ∧ (h91.2 21 1) ≤ 2147483647 := fb_2_0_1 q89 zKi_21
      refine zj_geti (v := (h91.2 21 1)) (zdk ttX10_text 95 rfl rfl) zf_RX10_197 rfl (k_2_0 q89 zKi_21) rfl ?_
      refine zj_istore_n (L' := [some (.inr 0), some (.inl p1), some (.inl (h.2 2 3)), some (.inl (h91.2 21 1))]) (zdk ttX10_text 96 rfl rfl) (by decide) rfl ?_
      refine zj_goto (t := 254) (zdk ttX10_text 97 rfl rfl) (by decide) ?_
      refine zj_aload_n (zdk ttX10_text 98 rfl rfl) rfl (by decide) ?_
      refine zj_getr (r := 103) (zdk ttX10_text 99 rfl rfl) zf_RX10_25 rfl (k_L0 q89) (rf_L0_3 q89) ?_
      refine zj_iconst (zdk ttX10_text 100 rfl rfl) ?_
      refine zj_puti (zdk ttX10_text 101 rfl rfl) zf_RX10_137 rfl (k_L103 q89) (Or.inl zw_RX10_137) (k2 := 3) rfl (fun h95 e96 => ?_)
      refine zj_iload_n (zdk ttX10_text 102 rfl rfl) rfl ?_
      have s97 : okC h95 := fw_L103_3 q89 e96 (by omega)
      exact zj_iret rfl (zdk ttX10_text 103 rfl rfl) (Nat.le_refl _) (Nat.le_refl _) ⟨(h91.2 21 1), rfl, by omega, s97⟩
  refine zj_table (t := 254) (zdk ttX10_text 11 rfl rfl) (by omega) (by decide) k8 (fun z1 z2 => ?_)
  have z3 : p1 = 0 ∨ p1 = 1 ∨ p1 = 2 ∨ p1 = 3 := by omega
  rcases z3 with z3 | z3 | z3 | z3
  · exact ⟨31, 52, by rw [z3] <;> rfl, by decide, k12 z3⟩
  · exact ⟨79, 100, by rw [z3] <;> rfl, by decide, k31 z3⟩
  · exact ⟨131, 152, by rw [z3] <;> rfl, by decide, k55 z3⟩
  · exact ⟨184, 205, by rw [z3] <;> rfl, by decide, k79 z3⟩
