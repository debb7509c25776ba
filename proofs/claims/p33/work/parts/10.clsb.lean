abbrev tX5_tellCouple : List (Nat × Instr × Nat) := [(0, .iload_n 1, 1), (1, .iconst (-1), 1), (2, .if_icmp .ne 10, 3), (5, .aload_n 0, 1), (6, .iconst 0, 1), (7, .putfield 26, 3), (10, .iconst 0, 1), (11, .ireturn, 1), (12, .iload_n 1, 1), (13, .iconst 0, 1), (14, .iconst 5, 1), (15, .invokestatic 50, 3), (18, .ifCond .eq 26, 3), (21, .iload_n 2, 1), (22, .iconst 0, 1), (23, .iconst 5, 1), (24, .invokestatic 50, 3), (27, .ifCond .eq 17, 3), (30, .iload_n 1, 1), (31, .iload_n 2, 1), (32, .if_icmp .eq 12, 3), (35, .aload_n 0, 1), (36, .getfield 26, 3), (39, .bipush 8, 2), (41, .if_icmp .lt 5, 3), (44, .iconst (-1), 1), (45, .ireturn, 1), (46, .aload_n 0, 1), (47, .getfield 23, 3), (50, .aload_n 0, 1), (51, .getfield 26, 3), (54, .iconst 1, 1), (55, .iload_n 1, 1), (56, .ishl, 1), (57, .iconst 1, 1), (58, .iload_n 2, 1), (59, .ishl, 1), (60, .ior, 1), (61, .iastore, 1), (62, .aload_n 0, 1), (63, .dup, 1), (64, .getfield 26, 3), (67, .iconst 1, 1), (68, .iadd, 1), (69, .dup_x1, 1), (70, .putfield 26, 3), (73, .ireturn, 1)]
theorem ttX5_tellCouple : zdt cX5_tellCouple tX5_tellCouple = true := by decide +kernel
abbrev q_X5_tellCouple (h : zM) (c : Int) (p1 : Int) (p2 : Int) : Option zV → zM → Prop := zqi fun v h' => ((-2147483648) ≤ v ∧ v ≤ 2147483647) ∧ okC h'
set_option maxRecDepth 100000 in
set_option maxHeartbeats 4000000 in
theorem s_X5_tellCouple (l : Launch) (h : zM) (c : Int) (p1 : Int) (p2 : Int) (s0 : okC h) (hc : zPu c) (b_p1 : (-2147483648) ≤ p1 ∧ p1 ≤ 2147483647) (b_p2 : (-2147483648) ≤ p2 ∧ p2 ≤ 2147483647) : zT shC l yX5_tellCouple cX5_tellCouple 3 (some .int) (rmL 2) 0 0 [.inr c, .inl p1, .inl p2] h (q_X5_tellCouple h c p1 p2) := by
  refine zT_of (by decide +kernel) (L0 := [some (.inr c), some (.inl p1), some (.inl p2)]) rfl (Nat.le_of_ble_eq_true rfl) ?_
  have b1 := zPu_b hc
  refine zj_iload_n (zdk ttX5_tellCouple 0 rfl rfl) rfl ?_
  refine zj_iconst (zdk ttX5_tellCouple 1 rfl rfl) ?_
  refine zj_icmp_ne (t := 12) (zdk ttX5_tellCouple 2 rfl rfl) (by decide) (by omega) (by decide) (fun c2 => ?_) (fun c2 => ?_)
  · refine zj_iload_n (zdk ttX5_tellCouple 8 rfl rfl) rfl ?_
    refine zj_iconst (zdk ttX5_tellCouple 9 rfl rfl) ?_
    refine zj_iconst (zdk ttX5_tellCouple 10 rfl rfl) ?_
    refine zj_callS (av := [.inl p1, .inl 0, .inl 5]) (st := []) (zdk ttX5_tellCouple 11 rfl rfl) mb_X10_within ms_RX5_50 rfl rfl (Nat.le_of_ble_eq_true rfl) (s_X10_within l h p1 0 5 s0 (by omega) (by omega) (by omega)) (rm_ok (by decide) (by decide)) (zq_i fun v4 h5 q3 => ?_)
    obtain ⟨rfl, ⟨rfl, b6⟩ | ⟨rfl, b6⟩⟩ := q3
    · refine zj_if_eq (t := 44) (zdk ttX5_tellCouple 12 rfl rfl) (by decide) (by decide) (fun c7 => ?_) (fun c7 => ?_)
      · refine zj_iconst (zdk ttX5_tellCouple 25 rfl rfl) ?_
        exact zj_iret rfl (zdk ttX5_tellCouple 26 rfl rfl) (Nat.le_refl _) (Nat.le_refl _) ⟨(-1), rfl, by omega, s0⟩
      · exact absurd c7 (by omega)
    · refine zj_if_eq (t := 44) (zdk ttX5_tellCouple 12 rfl rfl) (by decide) (by decide) (fun c8 => ?_) (fun c8 => ?_)
      · exact absurd c8 (by omega)
      · refine zj_iload_n (zdk ttX5_tellCouple 13 rfl rfl) rfl ?_
        refine zj_iconst (zdk ttX5_tellCouple 14 rfl rfl) ?_
        refine zj_iconst (zdk ttX5_tellCouple 15 rfl rfl) ?_
        refine zj_callS (av := [.inl p2, .inl 0, .inl 5]) (st := []) (zdk ttX5_tellCouple 16 rfl rfl) mb_X10_within ms_RX5_50 rfl rfl (Nat.le_of_ble_eq_true rfl) (s_X10_within l h p2 0 5 s0 (by omega) (by omega) (by omega)) (rm_ok (by decide) (by decide)) (zq_i fun v10 h11 q9 => ?_)
        obtain ⟨rfl, ⟨rfl, b12⟩ | ⟨rfl, b12⟩⟩ := q9
        · refine zj_if_eq (t := 44) (zdk ttX5_tellCouple 17 rfl rfl) (by decide) (by decide) (fun c13 => ?_) (fun c13 => ?_)
          · refine zj_iconst (zdk ttX5_tellCouple 25 rfl rfl) ?_
            exact zj_iret rfl (zdk ttX5_tellCouple 26 rfl rfl) (Nat.le_refl _) (Nat.le_refl _) ⟨(-1), rfl, by omega, s0⟩
          · exact absurd c13 (by omega)
        · refine zj_if_eq (t := 44) (zdk ttX5_tellCouple 17 rfl rfl) (by decide) (by decide) (fun c14 => ?_) (fun c14 => ?_)
          · exact absurd c14 (by omega)
          · refine zj_iload_n (zdk ttX5_tellCouple 18 rfl rfl) rfl ?_
            refine zj_iload_n (zdk ttX5_tellCouple 19 rfl rfl) rfl ?_
            refine zj_icmp_eq (t := 44) (zdk ttX5_tellCouple 20 rfl rfl) (by decide) (by omega) (by omega) (fun c15 => ?_) (fun c15 => ?_)
            · refine zj_iconst (zdk ttX5_tellCouple 25 rfl rfl) ?_
              exact zj_iret rfl (zdk ttX5_tellCouple 26 rfl rfl) (Nat.le_refl _) (Nat.le_refl _) ⟨(-1), rfl, by omega, s0⟩
            · refine zj_aload_n (zdk ttX5_tellCouple 21 rfl rfl) rfl (by omega) ?_
              have b16 : 0 ≤ (h.2 c 4) ∧ (h.2 c 4) ≤ 8 := fb_5_0_4 s0 hc
              refine zj_geti (v := (h.2 c 4)) (zdk ttX5_tellCouple 22 rfl rfl) zf_RX5_26 rfl (k_5_0 s0 hc) rfl ?_
              refine zj_bipush (zdk ttX5_tellCouple 23 rfl rfl) (by decide) ?_
              refine zj_icmp_lt (t := 46) (zdk ttX5_tellCouple 24 rfl rfl) (by decide) (by omega) (by decide) (fun c17 => ?_) (fun c17 => ?_)
              · refine zj_aload_n (zdk ttX5_tellCouple 27 rfl rfl) rfl (by omega) ?_
                refine zj_getr (r := (c + 3)) (zdk ttX5_tellCouple 28 rfl rfl) zf_RX5_23 rfl (k_5_0 s0 hc) (rf_5_0_3 s0 hc) ?_
                refine zj_aload_n (zdk ttX5_tellCouple 29 rfl rfl) rfl (by omega) ?_
                refine zj_geti (v := (h.2 c 4)) (zdk ttX5_tellCouple 30 rfl rfl) zf_RX5_26 rfl (k_5_0 s0 hc) rfl ?_
                refine zj_iconst (zdk ttX5_tellCouple 31 rfl rfl) ?_
                refine zj_iload_n (zdk ttX5_tellCouple 32 rfl rfl) rfl ?_
                refine zj_ishl (zdk ttX5_tellCouple 33 rfl rfl) ?_
                have b18 := zshl_1 (n := p1) (a := 0) (b := 5) (lo := 1) (hi := 32) (by omega) (by decide) (by decide) (by decide)
                refine zj_iconst (zdk ttX5_tellCouple 34 rfl rfl) ?_
                refine zj_iload_n (zdk ttX5_tellCouple 35 rfl rfl) rfl ?_
                refine zj_ishl (zdk ttX5_tellCouple 36 rfl rfl) ?_
                have b19 := zshl_1 (n := p2) (a := 0) (b := 5) (lo := 1) (hi := 32) (by omega) (by decide) (by decide) (by decide)
                refine zj_ior (zdk ttX5_tellCouple 37 rfl rfl) ?_
                have b20 := zor_k (a := (zshl 1 p1)) (b := (zshl 1 p2)) (K := 64) 6 (by decide) (by decide) (by omega) (by omega)
                refine zj_iast (zdk ttX5_tellCouple 38 rfl rfl) (ka_5_0_3 s0 hc) (by decide) (by omega) (fun h21 e22 => ?_)
                refine zj_aload_n (zdk ttX5_tellCouple 39 rfl rfl) rfl (by omega) ?_
                refine zj_dup (zdk ttX5_tellCouple 40 rfl rfl) ?_
                have s23 : okC h21 := aw_5_0_3 s0 hc e22 (by omega)
                refine zj_geti (v := (h.2 c 4)) (zdk ttX5_tellCouple 41 rfl rfl) zf_RX5_26 rfl (k_5_0 s23 hc) (zwr_r e22 (by omega)) ?_
                refine zj_iconst (zdk ttX5_tellCouple 42 rfl rfl) ?_
                refine zj_iadd (zdk ttX5_tellCouple 43 rfl rfl) ?_
                refine zj_dup_x1 (zdk ttX5_tellCouple 44 rfl rfl) ?_
                refine zj_puti (zdk ttX5_tellCouple 45 rfl rfl) zf_RX5_26 rfl (k_5_0 s23 hc) (Or.inl zw_RX5_26) (k2 := 4) rfl (fun h24 e25 => ?_)
                have s26 : okC h24 := fw_5_0_4 s23 hc e25 (by omega)
                exact zj_iret rfl (zdk ttX5_tellCouple 46 rfl rfl) (Nat.le_refl _) (Nat.le_refl _) ⟨((h.2 c 4) + 1), rfl, by omega, s26⟩
              · refine zj_iconst (zdk ttX5_tellCouple 25 rfl rfl) ?_
                exact zj_iret rfl (zdk ttX5_tellCouple 26 rfl rfl) (Nat.le_refl _) (Nat.le_refl _) ⟨(-1), rfl, by omega, s0⟩
  · refine zj_aload_n (zdk ttX5_tellCouple 3 rfl rfl) rfl (by omega) ?_
    refine zj_iconst (zdk ttX5_tellCouple 4 rfl rfl) ?_
    refine zj_puti (zdk ttX5_tellCouple 5 rfl rfl) zf_RX5_26 rfl (k_5_0 s0 hc) (Or.inl zw_RX5_26) (k2 := 4) rfl (fun h27 e28 => ?_)
    refine zj_iconst (zdk ttX5_tellCouple 6 rfl rfl) ?_
    have s29 : okC h27 := fw_5_0_4 s0 hc e28 (by omega)
    exact zj_iret rfl (zdk ttX5_tellCouple 7 rfl rfl) (Nat.le_refl _) (Nat.le_refl _) ⟨0, rfl, by omega, s29⟩

abbrev tX5_tellSeat : List (Nat × Instr × Nat) := [(0, .iload_n 1, 1), (1, .iconst (-1), 1), (2, .if_icmp .ne 10, 3), (5, .aload_n 0, 1), (6, .iconst 0, 1), (7, .putfield 32, 3), (10, .iconst 0, 1), (11, .ireturn, 1), (12, .iload_n 1, 1), (13, .iconst 1, 1), (14, .bipush 99, 2), (16, .invokestatic 50, 3), (19, .ifCond .eq 12, 3), (22, .aload_n 0, 1), (23, .getfield 32, 3), (26, .bipush 7, 2), (28, .if_icmp .lt 5, 3), (31, .iconst (-1), 1), (32, .ireturn, 1), (33, .aload_n 0, 1), (34, .getfield 29, 3), (37, .aload_n 0, 1), (38, .getfield 32, 3), (41, .iload_n 1, 1), (42, .iastore, 1), (43, .aload_n 0, 1), (44, .dup, 1), (45, .getfield 32, 3), (48, .iconst 1, 1), (49, .iadd, 1), (50, .dup_x1, 1), (51, .putfield 32, 3), (54, .ireturn, 1)]
theorem ttX5_tellSeat : zdt cX5_tellSeat tX5_tellSeat = true := by decide +kernel
abbrev q_X5_tellSeat (h : zM) (c : Int) (p1 : Int) : Option zV → zM → Prop := zqi fun v h' => ((-2147483648) ≤ v ∧ v ≤ 2147483647) ∧ okC h'
set_option maxRecDepth 100000 in
set_option maxHeartbeats 4000000 in
theorem s_X5_tellSeat (l : Launch) (h : zM) (c : Int) (p1 : Int) (s0 : okC h) (hc : zPu c) (b_p1 : (-2147483648) ≤ p1 ∧ p1 ≤ 2147483647) : zT shC l yX5_tellSeat cX5_tellSeat 2 (some .int) (rmL 2) 0 0 [.inr c, .inl p1] h (q_X5_tellSeat h c p1) := by
  refine zT_of (by decide +kernel) (L0 := [some (.inr c), some (.inl p1)]) rfl (Nat.le_of_ble_eq_true rfl) ?_
  have b1 := zPu_b hc
  refine zj_iload_n (zdk ttX5_tellSeat 0 rfl rfl) rfl ?_
  refine zj_iconst (zdk ttX5_tellSeat 1 rfl rfl) ?_
  refine zj_icmp_ne (t := 12) (zdk ttX5_tellSeat 2 rfl rfl) (by decide) (by omega) (by decide) (fun c2 => ?_) (fun c2 => ?_)
  · refine zj_iload_n (zdk ttX5_tellSeat 8 rfl rfl) rfl ?_
    refine zj_iconst (zdk ttX5_tellSeat 9 rfl rfl) ?_
    refine zj_bipush (zdk ttX5_tellSeat 10 rfl rfl) (by decide) ?_
    refine zj_callS (av := [.inl p1, .inl 1, .inl 99]) (st := []) (zdk ttX5_tellSeat 11 rfl rfl) mb_X10_within ms_RX5_50 rfl rfl (Nat.le_of_ble_eq_true rfl) (s_X10_within l h p1 1 99 s0 (by omega) (by omega) (by omega)) (rm_ok (by decide) (by decide)) (zq_i fun v4 h5 q3 => ?_)
    obtain ⟨rfl, ⟨rfl, b6⟩ | ⟨rfl, b6⟩⟩ := q3
    · refine zj_if_eq (t := 31) (zdk ttX5_tellSeat 12 rfl rfl) (by decide) (by decide) (fun c7 => ?_) (fun c7 => ?_)
      · refine zj_iconst (zdk ttX5_tellSeat 17 rfl rfl) ?_
        exact zj_iret rfl (zdk ttX5_tellSeat 18 rfl rfl) (Nat.le_refl _) (Nat.le_refl _) ⟨(-1), rfl, by omega, s0⟩
      · exact absurd c7 (by omega)
    · refine zj_if_eq (t := 31) (zdk ttX5_tellSeat 12 rfl rfl) (by decide) (by decide) (fun c8 => ?_) (fun c8 => ?_)
      · exact absurd c8 (by omega)
      · refine zj_aload_n (zdk ttX5_tellSeat 13 rfl rfl) rfl (by omega) ?_
        have b9 : 0 ≤ (h.2 c 6) ∧ (h.2 c 6) ≤ 7 := fb_5_0_6 s0 hc
        refine zj_geti (v := (h.2 c 6)) (zdk ttX5_tellSeat 14 rfl rfl) zf_RX5_32 rfl (k_5_0 s0 hc) rfl ?_
        refine zj_bipush (zdk ttX5_tellSeat 15 rfl rfl) (by decide) ?_
        refine zj_icmp_lt (t := 33) (zdk ttX5_tellSeat 16 rfl rfl) (by decide) (by omega) (by decide) (fun c10 => ?_) (fun c10 => ?_)
        · refine zj_aload_n (zdk ttX5_tellSeat 19 rfl rfl) rfl (by omega) ?_
          refine zj_getr (r := (c + 4)) (zdk ttX5_tellSeat 20 rfl rfl) zf_RX5_29 rfl (k_5_0 s0 hc) (rf_5_0_5 s0 hc) ?_
          refine zj_aload_n (zdk ttX5_tellSeat 21 rfl rfl) rfl (by omega) ?_
          refine zj_geti (v := (h.2 c 6)) (zdk ttX5_tellSeat 22 rfl rfl) zf_RX5_32 rfl (k_5_0 s0 hc) rfl ?_
          refine zj_iload_n (zdk ttX5_tellSeat 23 rfl rfl) rfl ?_
          refine zj_iast (zdk ttX5_tellSeat 24 rfl rfl) (ka_5_0_5 s0 hc) (by decide) (by omega) (fun h11 e12 => ?_)
          refine zj_aload_n (zdk ttX5_tellSeat 25 rfl rfl) rfl (by omega) ?_
          refine zj_dup (zdk ttX5_tellSeat 26 rfl rfl) ?_
          have s13 : okC h11 := aw_5_0_5 s0 hc e12 (by omega)
          refine zj_geti (v := (h.2 c 6)) (zdk ttX5_tellSeat 27 rfl rfl) zf_RX5_32 rfl (k_5_0 s13 hc) (zwr_r e12 (by omega)) ?_
          refine zj_iconst (zdk ttX5_tellSeat 28 rfl rfl) ?_
          refine zj_iadd (zdk ttX5_tellSeat 29 rfl rfl) ?_
          refine zj_dup_x1 (zdk ttX5_tellSeat 30 rfl rfl) ?_
          refine zj_puti (zdk ttX5_tellSeat 31 rfl rfl) zf_RX5_32 rfl (k_5_0 s13 hc) (Or.inl zw_RX5_32) (k2 := 6) rfl (fun h14 e15 => ?_)
          have s16 : okC h14 := fw_5_0_6 s13 hc e15 (by omega)
          exact zj_iret rfl (zdk ttX5_tellSeat 32 rfl rfl) (Nat.le_refl _) (Nat.le_refl _) ⟨((h.2 c 6) + 1), rfl, by omega, s16⟩
        · refine zj_iconst (zdk ttX5_tellSeat 17 rfl rfl) ?_
          exact zj_iret rfl (zdk ttX5_tellSeat 18 rfl rfl) (Nat.le_refl _) (Nat.le_refl _) ⟨(-1), rfl, by omega, s0⟩
  · refine zj_aload_n (zdk ttX5_tellSeat 3 rfl rfl) rfl (by omega) ?_
    refine zj_iconst (zdk ttX5_tellSeat 4 rfl rfl) ?_
    refine zj_puti (zdk ttX5_tellSeat 5 rfl rfl) zf_RX5_32 rfl (k_5_0 s0 hc) (Or.inl zw_RX5_32) (k2 := 6) rfl (fun h17 e18 => ?_)
    refine zj_iconst (zdk ttX5_tellSeat 6 rfl rfl) ?_
    have s19 : okC h17 := fw_5_0_6 s0 hc e18 (by omega)
    exact zj_iret rfl (zdk ttX5_tellSeat 7 rfl rfl) (Nat.le_refl _) (Nat.le_refl _) ⟨0, rfl, by omega, s19⟩

abbrev tX5_tellArm : List (Nat × Instr × Nat) := [(0, .iload_n 1, 1), (1, .bipush (-100), 2), (3, .if_icmp .ne 10, 3), (6, .aload_n 0, 1), (7, .iconst 0, 1), (8, .putfield 41, 3), (11, .iconst 0, 1), (12, .ireturn, 1), (13, .iload_n 1, 1), (14, .bipush (-9), 2), (16, .bipush 9, 2), (18, .invokestatic 50, 3), (21, .ifCond .eq 26, 3), (24, .iload_n 1, 1), (25, .ifCond .eq 22, 3), (28, .iload_n 2, 1), (29, .iconst 1, 1), (30, .bipush 20, 2), (32, .invokestatic 50, 3), (35, .ifCond .eq 12, 3), (38, .aload_n 0, 1), (39, .getfield 41, 3), (42, .bipush 6, 2), (44, .if_icmp .lt 5, 3), (47, .iconst (-1), 1), (48, .ireturn, 1), (49, .aload_n 0, 1), (50, .getfield 35, 3), (53, .aload_n 0, 1), (54, .getfield 41, 3), (57, .iload_n 1, 1), (58, .iastore, 1), (59, .aload_n 0, 1), (60, .getfield 38, 3), (63, .aload_n 0, 1), (64, .getfield 41, 3), (67, .iload_n 2, 1), (68, .iastore, 1), (69, .aload_n 0, 1), (70, .dup, 1), (71, .getfield 41, 3), (74, .iconst 1, 1), (75, .iadd, 1), (76, .dup_x1, 1), (77, .putfield 41, 3), (80, .ireturn, 1)]
theorem ttX5_tellArm : zdt cX5_tellArm tX5_tellArm = true := by decide +kernel
abbrev q_X5_tellArm (h : zM) (c : Int) (p1 : Int) (p2 : Int) : Option zV → zM → Prop := zqi fun v h' => ((-2147483648) ≤ v ∧ v ≤ 2147483647) ∧ okC h'
set_option maxRecDepth 100000 in
set_option maxHeartbeats 4000000 in
theorem s_X5_tellArm (l : Launch) (h : zM) (c : Int) (p1 : Int) (p2 : Int) (s0 : okC h) (hc : zPu c) (b_p1 : (-2147483648) ≤ p1 ∧ p1 ≤ 2147483647) (b_p2 : (-2147483648) ≤ p2 ∧ p2 ≤ 2147483647) : zT shC l yX5_tellArm cX5_tellArm 3 (some .int) (rmL 2) 0 0 [.inr c, .inl p1, .inl p2] h (q_X5_tellArm h c p1 p2) := by
  refine zT_of (by decide +kernel) (L0 := [some (.inr c), some (.inl p1), some (.inl p2)]) rfl (Nat.le_of_ble_eq_true rfl) ?_
  have b1 := zPu_b hc
  refine zj_iload_n (zdk ttX5_tellArm 0 rfl rfl) rfl ?_
  refine zj_bipush (zdk ttX5_tellArm 1 rfl rfl) (by decide) ?_
  refine zj_icmp_ne (t := 13) (zdk ttX5_tellArm 2 rfl rfl) (by decide) (by omega) (by decide) (fun c2 => ?_) (fun c2 => ?_)
  · refine zj_iload_n (zdk ttX5_tellArm 8 rfl rfl) rfl ?_
    refine zj_bipush (zdk ttX5_tellArm 9 rfl rfl) (by decide) ?_
    refine zj_bipush (zdk ttX5_tellArm 10 rfl rfl) (by decide) ?_
    refine zj_callS (av := [.inl p1, .inl (-9), .inl 9]) (st := []) (zdk ttX5_tellArm 11 rfl rfl) mb_X10_within ms_RX5_50 rfl rfl (Nat.le_of_ble_eq_true rfl) (s_X10_within l h p1 (-9) 9 s0 (by omega) (by omega) (by omega)) (rm_ok (by decide) (by decide)) (zq_i fun v4 h5 q3 => ?_)
    obtain ⟨rfl, ⟨rfl, b6⟩ | ⟨rfl, b6⟩⟩ := q3
    · refine zj_if_eq (t := 47) (zdk ttX5_tellArm 12 rfl rfl) (by decide) (by decide) (fun c7 => ?_) (fun c7 => ?_)
      · refine zj_iconst (zdk ttX5_tellArm 24 rfl rfl) ?_
        exact zj_iret rfl (zdk ttX5_tellArm 25 rfl rfl) (Nat.le_refl _) (Nat.le_refl _) ⟨(-1), rfl, by omega, s0⟩
      · exact absurd c7 (by omega)
    · refine zj_if_eq (t := 47) (zdk ttX5_tellArm 12 rfl rfl) (by decide) (by decide) (fun c8 => ?_) (fun c8 => ?_)
      · exact absurd c8 (by omega)
      · refine zj_iload_n (zdk ttX5_tellArm 13 rfl rfl) rfl ?_
        refine zj_if_eq (t := 47) (zdk ttX5_tellArm 14 rfl rfl) (by decide) (by omega) (fun c9 => ?_) (fun c9 => ?_)
        · refine zj_iconst (zdk ttX5_tellArm 24 rfl rfl) ?_
          exact zj_iret rfl (zdk ttX5_tellArm 25 rfl rfl) (Nat.le_refl _) (Nat.le_refl _) ⟨(-1), rfl, by omega, s0⟩
        · refine zj_iload_n (zdk ttX5_tellArm 15 rfl rfl) rfl ?_
          refine zj_iconst (zdk ttX5_tellArm 16 rfl rfl) ?_
          refine zj_bipush (zdk ttX5_tellArm 17 rfl rfl) (by decide) ?_
          refine zj_callS (av := [.inl p2, .inl 1, .inl 20]) (st := []) (zdk ttX5_tellArm 18 rfl rfl) mb_X10_within ms_RX5_50 rfl rfl (Nat.le_of_ble_eq_true rfl) (s_X10_within l h p2 1 20 s0 (by omega) (by omega) (by omega)) (rm_ok (by decide) (by decide)) (zq_i fun v11 h12 q10 => ?_)
          obtain ⟨rfl, ⟨rfl, b13⟩ | ⟨rfl, b13⟩⟩ := q10
          · refine zj_if_eq (t := 47) (zdk ttX5_tellArm 19 rfl rfl) (by decide) (by decide) (fun c14 => ?_) (fun c14 => ?_)
            · refine zj_iconst (zdk ttX5_tellArm 24 rfl rfl) ?_
              exact zj_iret rfl (zdk ttX5_tellArm 25 rfl rfl) (Nat.le_refl _) (Nat.le_refl _) ⟨(-1), rfl, by omega, s0⟩
            · exact absurd c14 (by omega)
          · refine zj_if_eq (t := 47) (zdk ttX5_tellArm 19 rfl rfl) (by decide) (by decide) (fun c15 => ?_) (fun c15 => ?_)
            · exact absurd c15 (by omega)
            · refine zj_aload_n (zdk ttX5_tellArm 20 rfl rfl) rfl (by omega) ?_
              have b16 : 0 ≤ (h.2 c 9) ∧ (h.2 c 9) ≤ 6 := fb_5_0_9 s0 hc
              refine zj_geti (v := (h.2 c 9)) (zdk ttX5_tellArm 21 rfl rfl) zf_RX5_41 rfl (k_5_0 s0 hc) rfl ?_
              refine zj_bipush (zdk ttX5_tellArm 22 rfl rfl) (by decide) ?_
              refine zj_icmp_lt (t := 49) (zdk ttX5_tellArm 23 rfl rfl) (by decide) (by omega) (by decide) (fun c17 => ?_) (fun c17 => ?_)
              · refine zj_aload_n (zdk ttX5_tellArm 26 rfl rfl) rfl (by omega) ?_
                refine zj_getr (r := (c + 5)) (zdk ttX5_tellArm 27 rfl rfl) zf_RX5_35 rfl (k_5_0 s0 hc) (rf_5_0_7 s0 hc) ?_
                refine zj_aload_n (zdk ttX5_tellArm 28 rfl rfl) rfl (by omega) ?_
                refine zj_geti (v := (h.2 c 9)) (zdk ttX5_tellArm 29 rfl rfl) zf_RX5_41 rfl (k_5_0 s0 hc) rfl ?_
                refine zj_iload_n (zdk ttX5_tellArm 30 rfl rfl) rfl ?_
                refine zj_iast (zdk ttX5_tellArm 31 rfl rfl) (ka_5_0_7 s0 hc) (by decide) (by omega) (fun h18 e19 => ?_)
                refine zj_aload_n (zdk ttX5_tellArm 32 rfl rfl) rfl (by omega) ?_
                have s20 : okC h18 := aw_5_0_7 s0 hc e19 (by omega)
                refine zj_getr (r := (c + 6)) (zdk ttX5_tellArm 33 rfl rfl) zf_RX5_38 rfl (k_5_0 s20 hc) (rf_5_0_8 s20 hc) ?_
                refine zj_aload_n (zdk ttX5_tellArm 34 rfl rfl) rfl (by omega) ?_
                refine zj_geti (v := (h.2 c 9)) (zdk ttX5_tellArm 35 rfl rfl) zf_RX5_41 rfl (k_5_0 s20 hc) (zwr_r e19 (by omega)) ?_
                refine zj_iload_n (zdk ttX5_tellArm 36 rfl rfl) rfl ?_
                refine zj_iast (zdk ttX5_tellArm 37 rfl rfl) (ka_5_0_8 s20 hc) (by decide) (by omega) (fun h21 e22 => ?_)
                refine zj_aload_n (zdk ttX5_tellArm 38 rfl rfl) rfl (by omega) ?_
                refine zj_dup (zdk ttX5_tellArm 39 rfl rfl) ?_
                have s23 : okC h21 := aw_5_0_8 s20 hc e22 (by omega)
                refine zj_geti (v := (h.2 c 9)) (zdk ttX5_tellArm 40 rfl rfl) zf_RX5_41 rfl (k_5_0 s23 hc) ((zwr_r e22 (by omega)).trans (zwr_r e19 (by omega))) ?_
                refine zj_iconst (zdk ttX5_tellArm 41 rfl rfl) ?_
                refine zj_iadd (zdk ttX5_tellArm 42 rfl rfl) ?_
                refine zj_dup_x1 (zdk ttX5_tellArm 43 rfl rfl) ?_
                refine zj_puti (zdk ttX5_tellArm 44 rfl rfl) zf_RX5_41 rfl (k_5_0 s23 hc) (Or.inl zw_RX5_41) (k2 := 9) rfl (fun h24 e25 => ?_)
                have s26 : okC h24 := fw_5_0_9 s23 hc e25 (by omega)
                exact zj_iret rfl (zdk ttX5_tellArm 45 rfl rfl) (Nat.le_refl _) (Nat.le_refl _) ⟨((h.2 c 9) + 1), rfl, by omega, s26⟩
              · refine zj_iconst (zdk ttX5_tellArm 24 rfl rfl) ?_
                exact zj_iret rfl (zdk ttX5_tellArm 25 rfl rfl) (Nat.le_refl _) (Nat.le_refl _) ⟨(-1), rfl, by omega, s0⟩
  · refine zj_aload_n (zdk ttX5_tellArm 3 rfl rfl) rfl (by omega) ?_
    refine zj_iconst (zdk ttX5_tellArm 4 rfl rfl) ?_
    refine zj_puti (zdk ttX5_tellArm 5 rfl rfl) zf_RX5_41 rfl (k_5_0 s0 hc) (Or.inl zw_RX5_41) (k2 := 9) rfl (fun h27 e28 => ?_)
    refine zj_iconst (zdk ttX5_tellArm 6 rfl rfl) ?_
    have s29 : okC h27 := fw_5_0_9 s0 hc e28 (by omega)
    exact zj_iret rfl (zdk ttX5_tellArm 7 rfl rfl) (Nat.le_refl _) (Nat.le_refl _) ⟨0, rfl, by omega, s29⟩

abbrev tX5_isSafe : List (Nat × Instr × Nat) := [(0, .iconst 0, 1), (1, .istore_n 2, 1), (2, .iload_n 2, 1), (3, .aload_n 0, 1), (4, .getfield 26, 3), (7, .if_icmp .ge 28, 3), (10, .iload_n 1, 1), (11, .aload_n 0, 1), (12, .getfield 23, 3), (15, .iload_n 2, 1), (16, .iaload, 1), (17, .iand, 1), (18, .aload_n 0, 1), (19, .getfield 23, 3), (22, .iload_n 2, 1), (23, .iaload, 1), (24, .if_icmp .ne 5, 3), (27, .iconst 0, 1), (28, .ireturn, 1), (29, .iinc 2 1, 3), (32, .goto (-30), 3), (35, .iconst 1, 1), (36, .ireturn, 1)]
theorem ttX5_isSafe : zdt cX5_isSafe tX5_isSafe = true := by decide +kernel
abbrev q_X5_isSafe (h : zM) (c : Int) (p1 : Int) : Option zV → zM → Prop := zqi fun v h' => h = h' ∧ (0 ≤ v ∧ v ≤ 1)
set_option maxRecDepth 100000 in
set_option maxHeartbeats 4000000 in
theorem s_X5_isSafe (l : Launch) (h : zM) (c : Int) (p1 : Int) (s0 : okC h) (hc : zPu c) (b_p1 : (-2147483648) ≤ p1 ∧ p1 ≤ 2147483647) : zT shC l yX5_isSafe cX5_isSafe 3 (some .boolean) (rmL 1) 0 0 [.inr c, .inl p1] h (q_X5_isSafe h c p1) := by
  refine zT_of (by decide +kernel) (L0 := [some (.inr c), some (.inl p1), none]) rfl (Nat.le_of_ble_eq_true rfl) ?_
  have b1 := zPu_b hc
  refine zj_iconst (zdk ttX5_isSafe 0 rfl rfl) ?_
  refine zj_istore_n (L' := [some (.inr c), some (.inl p1), some (.inl 0)]) (zdk ttX5_isSafe 1 rfl rfl) (by decide) rfl ?_
  have lp28 : ∀ (n : Nat) (x2 : Int), (0 ≤ x2 ∧ x2 ≤ 8) → (9 - x2).toNat < n → zJ shC l yX5_isSafe cX5_isSafe 3 (some .boolean) (rmL 1) 0 0 (q_X5_isSafe h c p1) 0 0 2 [some (.inr c), some (.inl p1), some (.inl x2)] [] h := by
    intro n
    induction n with
    | zero => intro x2 b29 m30; exact absurd m30 (Nat.not_lt_zero _)
    | succ n ih31 =>
      intro x2 b29 m30
      refine zj_iload_n (zdk ttX5_isSafe 2 rfl rfl) rfl ?_
      refine zj_aload_n (zdk ttX5_isSafe 3 rfl rfl) rfl (by omega) ?_
      have b32 : 0 ≤ (h.2 c 4) ∧ (h.2 c 4) ≤ 8 := fb_5_0_4 s0 hc
      refine zj_geti (v := (h.2 c 4)) (zdk ttX5_isSafe 4 rfl rfl) zf_RX5_26 rfl (k_5_0 s0 hc) rfl ?_
      refine zj_icmp_ge (t := 35) (zdk ttX5_isSafe 5 rfl rfl) (by decide) (by omega) (by omega) (fun c33 => ?_) (fun c33 => ?_)
      · refine zj_iconst (zdk ttX5_isSafe 21 rfl rfl) ?_
        exact zj_zret rfl (zdk ttX5_isSafe 22 rfl rfl) (Nat.le_refl _) (Nat.le_refl _) (by omega) ⟨1, rfl, rfl, by omega⟩
      · refine zj_iload_n (zdk ttX5_isSafe 6 rfl rfl) rfl ?_
        refine zj_aload_n (zdk ttX5_isSafe 7 rfl rfl) rfl (by omega) ?_
        refine zj_getr (r := (c + 3)) (zdk ttX5_isSafe 8 rfl rfl) zf_RX5_23 rfl (k_5_0 s0 hc) (rf_5_0_3 s0 hc) ?_
        refine zj_iload_n (zdk ttX5_isSafe 9 rfl rfl) rfl ?_
        have b34 : -2147483648 ≤ (h.2 (c + 3) x2) ∧ (h.2 (c + 3) x2) ≤ 2147483647 := ab_5_0_3 s0 hc x2
        refine zj_iald (v := (h.2 (c + 3) x2)) (zdk ttX5_isSafe 10 rfl rfl) (ka_5_0_3 s0 hc) (by decide) (by omega) rfl ?_
        refine zj_iand (zdk ttX5_isSafe 11 rfl rfl) ?_
        have b35 := zand_in p1 (h.2 (c + 3) x2)
        refine zj_aload_n (zdk ttX5_isSafe 12 rfl rfl) rfl (by omega) ?_
        refine zj_getr (r := (c + 3)) (zdk ttX5_isSafe 13 rfl rfl) zf_RX5_23 rfl (k_5_0 s0 hc) (rf_5_0_3 s0 hc) ?_
        refine zj_iload_n (zdk ttX5_isSafe 14 rfl rfl) rfl ?_
        refine zj_iald (v := (h.2 (c + 3) x2)) (zdk ttX5_isSafe 15 rfl rfl) (ka_5_0_3 s0 hc) (by decide) (by omega) rfl ?_
        refine zj_icmp_ne (t := 29) (zdk ttX5_isSafe 16 rfl rfl) (by decide) (by omega) (by omega) (fun c36 => ?_) (fun c36 => ?_)
        · refine zj_iinc (L' := [some (.inr c), some (.inl p1), some (.inl (x2 + 1))]) (zdk ttX5_isSafe 19 rfl rfl) rfl (by decide) rfl ?_
          refine zj_goto (t := 2) (zdk ttX5_isSafe 20 rfl rfl) (by decide) ?_
          exact ih31  (x2 + 1) (by omega) (by omega)
        · refine zj_iconst (zdk ttX5_isSafe 17 rfl rfl) ?_
          exact zj_zret rfl (zdk ttX5_isSafe 18 rfl rfl) (Nat.le_refl _) (Nat.le_refl _) (by omega) ⟨0, rfl, rfl, by omega⟩
  exact lp28 _ 0 (by omega) (Nat.lt_succ_self _)

abbrev tX5_turnOf : List (Nat × Instr × Nat) := [(0, .aload_n 0, 1), (1, .getfield 19, 3), (4, .ifCond .ne 5, 3), (7, .iconst 0, 1), (8, .ireturn, 1), (9, .iconst 1, 1), (10, .istore_n 2, 1), (11, .iconst 1, 1), (12, .istore_n 3, 1), (13, .iconst 1, 1), (14, .istore 4, 2), (16, .iconst 1, 1), (17, .istore 5, 2), (19, .iload 5, 2), (21, .aload_n 0, 1), (22, .getfield 19, 3), (25, .if_icmp .ge 78, 3), (28, .aload_n 0, 1), (29, .getfield 15, 3), (32, .iload 5, 2), (34, .baload, 1), (35, .ifCond .eq 6, 3), (38, .goto 59, 3), (41, .iload_n 2, 1), (42, .ineg, 1), (43, .aload_n 0, 1), (44, .getfield 11, 3), (47, .iload 5, 2), (49, .iconst 1, 1), (50, .isub, 1), (51, .iaload, 1), (52, .imul, 1), (53, .istore_n 2, 1), (54, .iload_n 3, 1), (55, .aload_n 0, 1), (56, .getfield 11, 3), (59, .iload 5, 2), (61, .iaload, 1), (62, .imul, 1), (63, .istore_n 3, 1), (64, .iload_n 2, 1), (65, .invokestatic 54, 3), (68, .iload_n 3, 1), (69, .invokestatic 60, 3), (72, .istore 6, 2), (74, .iload_n 2, 1), (75, .iload 6, 2), (77, .idiv, 1), (78, .istore_n 2, 1), (79, .iload_n 3, 1), (80, .iload 6, 2), (82, .idiv, 1), (83, .istore_n 3, 1), (84, .iload 4, 2), (86, .iload 4, 2), (88, .iload_n 3, 1), (89, .invokestatic 60, 3), (92, .idiv, 1), (93, .iload_n 3, 1), (94, .imul, 1), (95, .istore 4, 2), (97, .iinc 5 1, 3), (100, .goto (-81), 3), (103, .iload_n 1, 1), (104, .lookupswitch 32 #[(0, 28), (1, 30)], 28), (132, .iload_n 2, 1), (133, .ireturn, 1), (134, .iload_n 3, 1), (135, .ireturn, 1), (136, .iload 4, 2), (138, .ireturn, 1)]
theorem ttX5_turnOf : zdt cX5_turnOf tX5_turnOf = true := by decide +kernel
abbrev q_X5_turnOf (h : zM) (c : Int) (p1 : Int) : Option zV → zM → Prop := zqi fun v h' => h = h' ∧ ((-2147483648) ≤ v ∧ v ≤ 2147483647)
set_option maxRecDepth 100000 in
set_option maxHeartbeats 4000000 in
theorem s_X5_turnOf (l : Launch) (h : zM) (c : Int) (p1 : Int) (s0 : okC h) (hc : zPu c) (b_p1 : (-2147483648) ≤ p1 ∧ p1 ≤ 2147483647) : zT shC l yX5_turnOf cX5_turnOf 7 (some .int) (rmL 3) 0 0 [.inr c, .inl p1] h (q_X5_turnOf h c p1) := by
  refine zT_of (by decide +kernel) (L0 := [some (.inr c), some (.inl p1), none, none, none, none, none]) rfl (Nat.le_of_ble_eq_true rfl) ?_
  have b1 := zPu_b hc
  refine zj_aload_n (zdk ttX5_turnOf 0 rfl rfl) rfl (by omega) ?_
  have b2 : 0 ≤ (h.2 c 2) ∧ (h.2 c 2) ≤ 5 := fb_5_0_2 s0 hc
  refine zj_geti (v := (h.2 c 2)) (zdk ttX5_turnOf 1 rfl rfl) zf_RX5_19 rfl (k_5_0 s0 hc) rfl ?_
  refine zj_if_ne (t := 9) (zdk ttX5_turnOf 2 rfl rfl) (by decide) (by omega) (fun c3 => ?_) (fun c3 => ?_)
  · refine zj_iconst (zdk ttX5_turnOf 5 rfl rfl) ?_
    refine zj_istore_n (L' := [some (.inr c), some (.inl p1), some (.inl 1), none, none, none, none]) (zdk ttX5_turnOf 6 rfl rfl) (by decide) rfl ?_
    refine zj_iconst (zdk ttX5_turnOf 7 rfl rfl) ?_
    refine zj_istore_n (L' := [some (.inr c), some (.inl p1), some (.inl 1), some (.inl 1), none, none, none]) (zdk ttX5_turnOf 8 rfl rfl) (by decide) rfl ?_
    refine zj_iconst (zdk ttX5_turnOf 9 rfl rfl) ?_
    refine zj_istore (L' := [some (.inr c), some (.inl p1), some (.inl 1), some (.inl 1), some (.inl 1), none, none]) (zdk ttX5_turnOf 10 rfl rfl) (by decide) rfl ?_
    refine zj_iconst (zdk ttX5_turnOf 11 rfl rfl) ?_
    refine zj_istore (L' := [some (.inr c), some (.inl p1), some (.inl 1), some (.inl 1), some (.inl 1), some (.inl 1), none]) (zdk ttX5_turnOf 12 rfl rfl) (by decide) rfl ?_
    have lp126 : ∀ (n : Nat) (x4 x5 x6 x7 : Int), (-2147483648 ≤ x4 ∧ x4 ≤ 2147483647) → (-2147483648 ≤ x5 ∧ x5 ≤ 2147483647) → (-2147483648 ≤ x6 ∧ x6 ≤ 2147483647) → (1 ≤ x7 ∧ x7 ≤ 5) → (6 - x7).toNat < n → zJ shC l yX5_turnOf cX5_turnOf 7 (some .int) (rmL 3) 0 0 (q_X5_turnOf h c p1) 0 0 19 [some (.inr c), some (.inl p1), some (.inl x4), some (.inl x5), some (.inl x6), some (.inl x7), none] [] h := by
      intro n
      induction n with
      | zero => intro x4 x5 x6 x7 b127 b128 b129 b130 m131; exact absurd m131 (Nat.not_lt_zero _)
      | succ n ih132 =>
        intro x4 x5 x6 x7 b127 b128 b129 b130 m131
        refine zj_iload (zdk ttX5_turnOf 13 rfl rfl) rfl ?_
        refine zj_aload_n (zdk ttX5_turnOf 14 rfl rfl) rfl (by omega) ?_
        refine zj_geti (v := (h.2 c 2)) (zdk ttX5_turnOf 15 rfl rfl) zf_RX5_19 rfl (k_5_0 s0 hc) rfl ?_
        refine zj_icmp_ge (t := 103) (zdk ttX5_turnOf 16 rfl rfl) (by decide) (by omega) (by omega) (fun c133 => ?_) (fun c133 => ?_)
        · refine zj_iload_n (zdk ttX5_turnOf 63 rfl rfl) rfl ?_
          have k135 : (¬ p1 = 0 ∧ ¬ p1 = 1) → zJ shC l yX5_turnOf cX5_turnOf 7 (some .int) (rmL 3) 0 0 (q_X5_turnOf h c p1) 0 0 136 [some (.inr c), some (.inl p1), some (.inl x4), some (.inl x5), some (.inl x6), some (.inl x7), none] [] h := by
            intro c134
            refine zj_iload (zdk ttX5_turnOf 69 rfl rfl) rfl ?_
            exact zj_iret rfl (zdk ttX5_turnOf 70 rfl rfl) (Nat.le_refl _) (Nat.le_refl _) ⟨x6, rfl, rfl, by omega⟩
          have k136 : p1 = 0 → zJ shC l yX5_turnOf cX5_turnOf 7 (some .int) (rmL 3) 0 0 (q_X5_turnOf h c p1) 0 0 132 [some (.inr c), some (.inl p1), some (.inl x4), some (.inl x5), some (.inl x6), some (.inl x7), none] [] h := by
            intro c134
            refine zj_iload_n (zdk ttX5_turnOf 65 rfl rfl) rfl ?_
            exact zj_iret rfl (zdk ttX5_turnOf 66 rfl rfl) (Nat.le_refl _) (Nat.le_refl _) ⟨x4, rfl, rfl, by omega⟩
          have k137 : p1 = 1 → zJ shC l yX5_turnOf cX5_turnOf 7 (some .int) (rmL 3) 0 0 (q_X5_turnOf h c p1) 0 0 134 [some (.inr c), some (.inl p1), some (.inl x4), some (.inl x5), some (.inl x6), some (.inl x7), none] [] h := by
            intro c134
            refine zj_iload_n (zdk ttX5_turnOf 67 rfl rfl) rfl ?_
            exact zj_iret rfl (zdk ttX5_turnOf 68 rfl rfl) (Nat.le_refl _) (Nat.le_refl _) ⟨x5, rfl, rfl, by omega⟩
          by_cases z138 : p1 = 0
          · exact zj_lookup (t := 132) (zdk ttX5_turnOf 64 rfl rfl) (by omega) rfl (by rw [z138] <;> rfl) (by decide) (k136 z138)
          by_cases z139 : p1 = 1
          · exact zj_lookup (t := 134) (zdk ttX5_turnOf 64 rfl rfl) (by omega) rfl (by rw [z139] <;> rfl) (by decide) (k137 z139)
          exact zj_lookup (t := 136) (zdk ttX5_turnOf 64 rfl rfl) (by omega) rfl (by show Op.lookupswitch.offset [(0, 28), (1, 30)] 32 p1 = _; rw [Op.lookupswitch.offset_cons, if_neg (by omega), Op.lookupswitch.offset_cons, if_neg (by omega), Op.lookupswitch.offset_nil]) (by decide) (k135 (by omega))
        · refine zj_aload_n (zdk ttX5_turnOf 17 rfl rfl) rfl (by omega) ?_
          refine zj_getr (r := (c + 2)) (zdk ttX5_turnOf 18 rfl rfl) zf_RX5_15 rfl (k_5_0 s0 hc) (rf_5_0_1 s0 hc) ?_
          refine zj_iload (zdk ttX5_turnOf 19 rfl rfl) rfl ?_
          have b140 : 0 ≤ (h.2 (c + 2) x7) ∧ (h.2 (c + 2) x7) ≤ 1 := ab_5_0_1 s0 hc x7
          refine zj_zald (v := (h.2 (c + 2) x7)) (zdk ttX5_turnOf 20 rfl rfl) (ka_5_0_1 s0 hc) (by decide) (by omega) rfl ?_
          refine zj_if_eq (t := 41) (zdk ttX5_turnOf 21 rfl rfl) (by decide) (by omega) (fun c141 => ?_) (fun c141 => ?_)
          · refine zj_iload_n (zdk ttX5_turnOf 23 rfl rfl) rfl ?_
            refine zj_ineg (zdk ttX5_turnOf 24 rfl rfl) ?_
            refine zj_wrap ?_
            have b142 := zwp_in (-x4)
            refine zj_aload_n (zdk ttX5_turnOf 25 rfl rfl) rfl (by omega) ?_
            refine zj_getr (r := (c + 1)) (zdk ttX5_turnOf 26 rfl rfl) zf_RX5_11 rfl (k_5_0 s0 hc) (rf_5_0_0 s0 hc) ?_
            refine zj_iload (zdk ttX5_turnOf 27 rfl rfl) rfl ?_
            refine zj_iconst (zdk ttX5_turnOf 28 rfl rfl) ?_
            refine zj_isub (zdk ttX5_turnOf 29 rfl rfl) ?_
            have b143 : -2147483648 ≤ (h.2 (c + 1) (x7 - 1)) ∧ (h.2 (c + 1) (x7 - 1)) ≤ 2147483647 := ab_5_0_0 s0 hc (x7 - 1)
            refine zj_iald (v := (h.2 (c + 1) (x7 - 1))) (zdk ttX5_turnOf 30 rfl rfl) (ka_5_0_0 s0 hc) (by decide) (by omega) rfl ?_
            refine zj_imul (zdk ttX5_turnOf 31 rfl rfl) ?_
            refine zj_wrap ?_
            have b144 := zwp_in ((zwp (-x4)) * (h.2 (c + 1) (x7 - 1)))
            refine zj_istore_n (L' := [some (.inr c), some (.inl p1), some (.inl (zwp ((zwp (-x4)) * (h.2 (c + 1) (x7 - 1))))), some (.inl x5), some (.inl x6), some (.inl x7), none]) (zdk ttX5_turnOf 32 rfl rfl) (by decide) rfl ?_
            refine zj_iload_n (zdk ttX5_turnOf 33 rfl rfl) rfl ?_
            refine zj_aload_n (zdk ttX5_turnOf 34 rfl rfl) rfl (by omega) ?_
            refine zj_getr (r := (c + 1)) (zdk ttX5_turnOf 35 rfl rfl) zf_RX5_11 rfl (k_5_0 s0 hc) (rf_5_0_0 s0 hc) ?_
            refine zj_iload (zdk ttX5_turnOf 36 rfl rfl) rfl ?_
            have b145 : -2147483648 ≤ (h.2 (c + 1) x7) ∧ (h.2 (c + 1) x7) ≤ 2147483647 := ab_5_0_0 s0 hc x7
            refine zj_iald (v := (h.2 (c + 1) x7)) (zdk ttX5_turnOf 37 rfl rfl) (ka_5_0_0 s0 hc) (by decide) (by omega) rfl ?_
            refine zj_imul (zdk ttX5_turnOf 38 rfl rfl) ?_
            refine zj_wrap ?_
            have b146 := zwp_in (x5 * (h.2 (c + 1) x7))
            refine zj_istore_n (L' := [some (.inr c), some (.inl p1), some (.inl (zwp ((zwp (-x4)) * (h.2 (c + 1) (x7 - 1))))), some (.inl (zwp (x5 * (h.2 (c + 1) x7)))), some (.inl x6), some (.inl x7), none]) (zdk ttX5_turnOf 39 rfl rfl) (by decide) rfl ?_
            refine zj_iload_n (zdk ttX5_turnOf 40 rfl rfl) rfl ?_
            refine zj_abs (zdk ttX5_turnOf 41 rfl rfl) mx_RX5_54 (by omega) (Nat.le_of_ble_eq_true rfl) (rm_m (by decide)) ?_
            refine zj_wrap ?_
            have b147 := zwp_in ((zwp ((zwp (-x4)) * (h.2 (c + 1) (x7 - 1)))).natAbs : Int)
            refine zj_iload_n (zdk ttX5_turnOf 42 rfl rfl) rfl ?_
            refine zj_callS (av := [.inl (zwp ((zwp ((zwp (-x4)) * (h.2 (c + 1) (x7 - 1)))).natAbs : Int)), .inl (zwp (x5 * (h.2 (c + 1) x7)))]) (st := []) (zdk ttX5_turnOf 43 rfl rfl) mb_X8_commonPart ms_RX5_60 rfl rfl (Nat.le_of_ble_eq_true rfl) (s_X8_commonPart l h (zwp ((zwp ((zwp (-x4)) * (h.2 (c + 1) (x7 - 1)))).natAbs : Int)) (zwp (x5 * (h.2 (c + 1) x7))) s0 (by omega) (by omega)) (rm_ok (by decide) (by decide)) (zq_i fun v149 h150 q148 => ?_)
            obtain ⟨rfl, b151⟩ := q148
            refine zj_istore (L' := [some (.inr c), some (.inl p1), some (.inl (zwp ((zwp (-x4)) * (h.2 (c + 1) (x7 - 1))))), some (.inl (zwp (x5 * (h.2 (c + 1) x7)))), some (.inl x6), some (.inl x7), some (.inl v149)]) (zdk ttX5_turnOf 44 rfl rfl) (by decide) rfl ?_
            refine zj_iload_n (zdk ttX5_turnOf 45 rfl rfl) rfl ?_
            refine zj_iload (zdk ttX5_turnOf 46 rfl rfl) rfl ?_
            refine zj_idiv (zdk ttX5_turnOf 47 rfl rfl) (by omega) (by omega) (by omega) ?_
            have b152 := ztd_b (zwp ((zwp (-x4)) * (h.2 (c + 1) (x7 - 1)))) v149
            refine zj_wrap ?_
            have b153 := zwp_in ((zwp ((zwp (-x4)) * (h.2 (c + 1) (x7 - 1)))).tdiv v149)
            refine zj_istore_n (L' := [some (.inr c), some (.inl p1), some (.inl (zwp ((zwp ((zwp (-x4)) * (h.2 (c + 1) (x7 - 1)))).tdiv v149))), some (.inl (zwp (x5 * (h.2 (c + 1) x7)))), some (.inl x6), some (.inl x7), some (.inl v149)]) (zdk ttX5_turnOf 48 rfl rfl) (by decide) rfl ?_
            refine zj_iload_n (zdk ttX5_turnOf 49 rfl rfl) rfl ?_
            refine zj_iload (zdk ttX5_turnOf 50 rfl rfl) rfl ?_
            refine zj_idiv (zdk ttX5_turnOf 51 rfl rfl) (by omega) (by omega) (by omega) ?_
            have b154 := ztd_b (zwp (x5 * (h.2 (c + 1) x7))) v149
            refine zj_wrap ?_
            have b155 := zwp_in ((zwp (x5 * (h.2 (c + 1) x7))).tdiv v149)
            refine zj_istore_n (L' := [some (.inr c), some (.inl p1), some (.inl (zwp ((zwp ((zwp (-x4)) * (h.2 (c + 1) (x7 - 1)))).tdiv v149))), some (.inl (zwp ((zwp (x5 * (h.2 (c + 1) x7))).tdiv v149))), some (.inl x6), some (.inl x7), some (.inl v149)]) (zdk ttX5_turnOf 52 rfl rfl) (by decide) rfl ?_
            refine zj_iload (zdk ttX5_turnOf 53 rfl rfl) rfl ?_
            refine zj_iload (zdk ttX5_turnOf 54 rfl rfl) rfl ?_
            refine zj_iload_n (zdk ttX5_turnOf 55 rfl rfl) rfl ?_
            refine zj_callS (av := [.inl x6, .inl (zwp ((zwp (x5 * (h.2 (c + 1) x7))).tdiv v149))]) (st := [.inl x6]) (zdk ttX5_turnOf 56 rfl rfl) mb_X8_commonPart ms_RX5_60 rfl rfl (Nat.le_of_ble_eq_true rfl) (s_X8_commonPart l h x6 (zwp ((zwp (x5 * (h.2 (c + 1) x7))).tdiv v149)) s0 (by omega) (by omega)) (rm_ok (by decide) (by decide)) (zq_i fun v157 h158 q156 => ?_)
            obtain ⟨rfl, b159⟩ := q156
            refine zj_idiv (zdk ttX5_turnOf 57 rfl rfl) (by omega) (by omega) (by omega) ?_
            have b160 := ztd_b x6 v157
            refine zj_wrap ?_
            have b161 := zwp_in (x6.tdiv v157)
            refine zj_iload_n (zdk ttX5_turnOf 58 rfl rfl) rfl ?_
            refine zj_imul (zdk ttX5_turnOf 59 rfl rfl) ?_
            refine zj_wrap ?_
            have b162 := zwp_in ((zwp (x6.tdiv v157)) * (zwp ((zwp (x5 * (h.2 (c + 1) x7))).tdiv v149)))
            refine zj_istore (L' := [some (.inr c), some (.inl p1), some (.inl (zwp ((zwp ((zwp (-x4)) * (h.2 (c + 1) (x7 - 1)))).tdiv v149))), some (.inl (zwp ((zwp (x5 * (h.2 (c + 1) x7))).tdiv v149))), some (.inl (zwp ((zwp (x6.tdiv v157)) * (zwp ((zwp (x5 * (h.2 (c + 1) x7))).tdiv v149))))), some (.inl x7), some (.inl v149)]) (zdk ttX5_turnOf 60 rfl rfl) (by decide) rfl ?_
            refine zj_iinc (L' := [some (.inr c), some (.inl p1), some (.inl (zwp ((zwp ((zwp (-x4)) * (h.2 (c + 1) (x7 - 1)))).tdiv v149))), some (.inl (zwp ((zwp (x5 * (h.2 (c + 1) x7))).tdiv v149))), some (.inl (zwp ((zwp (x6.tdiv v157)) * (zwp ((zwp (x5 * (h.2 (c + 1) x7))).tdiv v149))))), some (.inl (x7 + 1)), some (.inl v149)]) (zdk ttX5_turnOf 61 rfl rfl) rfl (by decide) rfl ?_
            refine zj_goto (t := 19) (zdk ttX5_turnOf 62 rfl rfl) (by decide) ?_
            refine zj_kill (k := 6) (L' := [some (.inr c), some (.inl p1), some (.inl (zwp ((zwp ((zwp (-x4)) * (h.2 (c + 1) (x7 - 1)))).tdiv v149))), some (.inl (zwp ((zwp (x5 * (h.2 (c + 1) x7))).tdiv v149))), some (.inl (zwp ((zwp (x6.tdiv v157)) * (zwp ((zwp (x5 * (h.2 (c + 1) x7))).tdiv v149))))), some (.inl (x7 + 1)), none]) rfl ?_
            exact ih132  (zwp ((zwp ((zwp (-x4)) * (h.2 (c + 1) (x7 - 1)))).tdiv v149)) (zwp ((zwp (x5 * (h.2 (c + 1) x7))).tdiv v149)) (zwp ((zwp (x6.tdiv v157)) * (zwp ((zwp (x5 * (h.2 (c + 1) x7))).tdiv v149)))) (x7 + 1) (by omega) (by omega) (by omega) (by omega) (by omega)
          · refine zj_goto (t := 97) (zdk ttX5_turnOf 22 rfl rfl) (by decide) ?_
            refine zj_iinc (L' := [some (.inr c), some (.inl p1), some (.inl x4), some (.inl x5), some (.inl x6), some (.inl (x7 + 1)), none]) (zdk ttX5_turnOf 61 rfl rfl) rfl (by decide) rfl ?_
            refine zj_goto (t := 19) (zdk ttX5_turnOf 62 rfl rfl) (by decide) ?_
            exact ih132  x4 x5 x6 (x7 + 1) (by omega) (by omega) (by omega) (by omega) (by omega)
    exact lp126 _ 1 1 1 1 (by omega) (by omega) (by omega) (by omega) (Nat.lt_succ_self _)
  · refine zj_iconst (zdk ttX5_turnOf 3 rfl rfl) ?_
    exact zj_iret rfl (zdk ttX5_turnOf 4 rfl rfl) (Nat.le_refl _) (Nat.le_refl _) ⟨0, rfl, rfl, by omega⟩

abbrev tX8_turnInto : List (Nat × Instr × Nat) := [(0, .iload_n 2, 1), (1, .ifCond .eq 7, 3), (4, .iload_n 3, 1), (5, .ifCond .ne 11, 3), (8, .iload_n 2, 1), (9, .iload_n 3, 1), (10, .invokestatic 37, 3), (13, .goto 8, 3), (16, .iload_n 2, 1), (17, .iload_n 3, 1), (18, .invokestatic 27, 3), (21, .istore 5, 2), (23, .iload 5, 2), (25, .ifCond .le 10, 3), (28, .iload 5, 2), (30, .bipush 32, 2), (32, .if_icmp .lt 4, 3), (35, .return_, 1), (36, .iconst 0, 1), (37, .iload_n 2, 1), (38, .iload 5, 2), (40, .isub, 1), (41, .invokestatic 37, 3), (44, .istore 6, 2), (46, .iconst 0, 1), (47, .iload_n 3, 1), (48, .iload 5, 2), (50, .isub, 1), (51, .invokestatic 37, 3), (54, .istore 7, 2), (56, .iload 6, 2), (58, .ifCond .ne 8, 3), (61, .iload 7, 2), (63, .goto 8, 3), (66, .bipush 31, 2), (68, .iload 6, 2), (70, .iadd, 1), (71, .istore 8, 2), (73, .iload_n 1, 1), (74, .iload 5, 2), (76, .iadd, 1), (77, .bipush 32, 2), (79, .irem, 1), (80, .bipush 62, 2), (82, .imul, 1), (83, .iload 8, 2), (85, .iadd, 1), (86, .istore 9, 2), (88, .iload 8, 2), (90, .bipush 62, 2), (92, .if_icmp .ge 22, 3), (95, .aload_n 0, 1), (96, .getfield 24, 3), (99, .iload 9, 2), (101, .aload_n 0, 1), (102, .getfield 24, 3), (105, .iload 9, 2), (107, .iaload, 1), (108, .iload 4, 2), (110, .invokestatic 27, 3), (113, .iastore, 1), (114, .return_, 1)]
theorem ttX8_turnInto : zdt cX8_turnInto tX8_turnInto = true := by decide +kernel
abbrev q_X8_turnInto (h : zM) (p1 : Int) (p2 : Int) (p3 : Int) (p4 : Int) : Option zV → zM → Prop := zqv fun h' => okC h'
set_option maxRecDepth 100000 in
set_option maxHeartbeats 4000000 in
theorem s_X8_turnInto (l : Launch) (h : zM) (p1 : Int) (p2 : Int) (p3 : Int) (p4 : Int) (s0 : okC h) (b_p1 : 0 ≤ p1 ∧ p1 ≤ 120) (b_p2 : (-30) ≤ p2 ∧ p2 ≤ 30) (b_p3 : (-30) ≤ p3 ∧ p3 ≤ 30) (b_p4 : (-2147483648) ≤ p4 ∧ p4 ≤ 2147483647) : zT shC l yX8_turnInto cX8_turnInto 10 none (rmL 2) 0 0 [.inr 108, .inl p1, .inl p2, .inl p3, .inl p4] h (q_X8_turnInto h p1 p2 p3 p4) := by
  refine zT_of (by decide +kernel) (L0 := [some (.inr 108), some (.inl p1), some (.inl p2), some (.inl p3), some (.inl p4), none, none, none, none, none]) rfl (Nat.le_of_ble_eq_true rfl) ?_
  refine zj_iload_n (zdk ttX8_turnInto 0 rfl rfl) rfl ?_
  have j7 : ∀ (y6 : Int), (-30 ≤ y6 ∧ y6 ≤ 30) → zJ shC l yX8_turnInto cX8_turnInto 10 none (rmL 2) 0 0 (q_X8_turnInto h p1 p2 p3 p4) 0 0 21 [some (.inr 108), some (.inl p1), some (.inl p2), some (.inl p3), some (.inl p4), none, none, none, none, none] [.inl y6] h := by
    intro y6 b8
    refine zj_istore (L' := [some (.inr 108), some (.inl p1), some (.inl p2), some (.inl p3), some (.inl p4), some (.inl y6), none, none, none, none]) (zdk ttX8_turnInto 11 rfl rfl) (by decide) rfl ?_
    refine zj_iload (zdk ttX8_turnInto 12 rfl rfl) rfl ?_
    refine zj_if_le (t := 35) (zdk ttX8_turnInto 13 rfl rfl) (by decide) (by omega) (fun c9 => ?_) (fun c9 => ?_)
    · exact zj_vret rfl (zdk ttX8_turnInto 17 rfl rfl) (Nat.le_refl _) (Nat.le_refl _) ⟨rfl, s0⟩
    · refine zj_iload (zdk ttX8_turnInto 14 rfl rfl) rfl ?_
      refine zj_bipush (zdk ttX8_turnInto 15 rfl rfl) (by decide) ?_
      refine zj_icmp_lt (t := 36) (zdk ttX8_turnInto 16 rfl rfl) (by decide) (by omega) (by decide) (fun c10 => ?_) (fun c10 => ?_)
      · refine zj_iconst (zdk ttX8_turnInto 18 rfl rfl) ?_
        refine zj_iload_n (zdk ttX8_turnInto 19 rfl rfl) rfl ?_
        refine zj_iload (zdk ttX8_turnInto 20 rfl rfl) rfl ?_
        refine zj_isub (zdk ttX8_turnInto 21 rfl rfl) ?_
        refine zj_max (zdk ttX8_turnInto 22 rfl rfl) mx_RX8_37 (by decide) (by omega) (Nat.le_of_ble_eq_true rfl) (rm_m (by decide)) ?_
        have b11 := zm_max_f 0 (p2 - y6)
        refine zj_istore (L' := [some (.inr 108), some (.inl p1), some (.inl p2), some (.inl p3), some (.inl p4), some (.inl y6), some (.inl (zm_max 0 (p2 - y6))), none, none, none]) (zdk ttX8_turnInto 23 rfl rfl) (by decide) rfl ?_
        refine zj_iconst (zdk ttX8_turnInto 24 rfl rfl) ?_
        refine zj_iload_n (zdk ttX8_turnInto 25 rfl rfl) rfl ?_
        refine zj_iload (zdk ttX8_turnInto 26 rfl rfl) rfl ?_
        refine zj_isub (zdk ttX8_turnInto 27 rfl rfl) ?_
        refine zj_max (zdk ttX8_turnInto 28 rfl rfl) mx_RX8_37 (by decide) (by omega) (Nat.le_of_ble_eq_true rfl) (rm_m (by decide)) ?_
        have b12 := zm_max_f 0 (p3 - y6)
        refine zj_istore (L' := [some (.inr 108), some (.inl p1), some (.inl p2), some (.inl p3), some (.inl p4), some (.inl y6), some (.inl (zm_max 0 (p2 - y6))), some (.inl (zm_max 0 (p3 - y6))), none, none]) (zdk ttX8_turnInto 29 rfl rfl) (by decide) rfl ?_
        refine zj_iload (zdk ttX8_turnInto 30 rfl rfl) rfl ?_
        have j15 : ∀ (y14 : Int), (0 ≤ y14 ∧ y14 ≤ 60) → zJ shC l yX8_turnInto cX8_turnInto 10 none (rmL 2) 0 0 (q_X8_turnInto h p1 p2 p3 p4) 0 0 71 [some (.inr 108), some (.inl p1), some (.inl p2), some (.inl p3), some (.inl p4), some (.inl y6), some (.inl (zm_max 0 (p2 - y6))), some (.inl (zm_max 0 (p3 - y6))), none, none] [.inl y14] h := by
          intro y14 b16
          refine zj_istore (L' := [some (.inr 108), some (.inl p1), some (.inl p2), some (.inl p3), some (.inl p4), some (.inl y6), some (.inl (zm_max 0 (p2 - y6))), some (.inl (zm_max 0 (p3 - y6))), some (.inl y14), none]) (zdk ttX8_turnInto 37 rfl rfl) (by decide) rfl ?_
          refine zj_iload_n (zdk ttX8_turnInto 38 rfl rfl) rfl ?_
          refine zj_iload (zdk ttX8_turnInto 39 rfl rfl) rfl ?_
          refine zj_iadd (zdk ttX8_turnInto 40 rfl rfl) ?_
          refine zj_bipush (zdk ttX8_turnInto 41 rfl rfl) (by decide) ?_
          refine zj_iremP (zdk ttX8_turnInto 42 rfl rfl) (by omega) (by omega) ?_
          refine zj_bipush (zdk ttX8_turnInto 43 rfl rfl) (by decide) ?_
          refine zj_imul (zdk ttX8_turnInto 44 rfl rfl) ?_
          refine zj_iload (zdk ttX8_turnInto 45 rfl rfl) rfl ?_
          refine zj_iadd (zdk ttX8_turnInto 46 rfl rfl) ?_
          refine zj_istore (L' := [some (.inr 108), some (.inl p1), some (.inl p2), some (.inl p3), some (.inl p4), some (.inl y6), some (.inl (zm_max 0 (p2 - y6))), some (.inl (zm_max 0 (p3 - y6))), some (.inl y14), some (.inl ((((p1 + y6) % 32) * 62) + y14))]) (zdk ttX8_turnInto 47 rfl rfl) (by decide) rfl ?_
          refine zj_iload (zdk ttX8_turnInto 48 rfl rfl) rfl ?_
          refine zj_bipush (zdk ttX8_turnInto 49 rfl rfl) (by decide) ?_
          refine zj_icmp_ge (t := 114) (zdk ttX8_turnInto 50 rfl rfl) (by decide) (by omega) (by decide) (fun c17 => ?_) (fun c17 => ?_)
          · exact absurd c17 (by omega)
          · refine zj_aload_n (zdk ttX8_turnInto 51 rfl rfl) rfl (by decide) ?_
            refine zj_getr (r := 113) (zdk ttX8_turnInto 52 rfl rfl) zf_RX8_24 rfl (k_L108 s0) (rf_L108_4 s0) ?_
            refine zj_iload (zdk ttX8_turnInto 53 rfl rfl) rfl ?_
            refine zj_aload_n (zdk ttX8_turnInto 54 rfl rfl) rfl (by decide) ?_
            refine zj_getr (r := 113) (zdk ttX8_turnInto 55 rfl rfl) zf_RX8_24 rfl (k_L108 s0) (rf_L108_4 s0) ?_
            refine zj_iload (zdk ttX8_turnInto 56 rfl rfl) rfl ?_
            have b18 : -2147483648 ≤ (h.2 113 ((((p1 + y6) % 32) * 62) + y14)) ∧ (h.2 113 ((((p1 + y6) % 32) * 62) + y14)) ≤ 2147483647 := ab_L108_4 s0 ((((p1 + y6) % 32) * 62) + y14)
            refine zj_iald (v := (h.2 113 ((((p1 + y6) % 32) * 62) + y14))) (zdk ttX8_turnInto 57 rfl rfl) (ka_L108_4 s0) (by decide) (by omega) rfl ?_
            refine zj_iload (zdk ttX8_turnInto 58 rfl rfl) rfl ?_
            refine zj_min (zdk ttX8_turnInto 59 rfl rfl) mx_RX8_27 (by omega) (by omega) (Nat.le_of_ble_eq_true rfl) (rm_m (by decide)) ?_
            have b19 := zm_min_f (h.2 113 ((((p1 + y6) % 32) * 62) + y14)) p4
            refine zj_iast (zdk ttX8_turnInto 60 rfl rfl) (ka_L108_4 s0) (by decide) (by omega) (fun h20 e21 => ?_)
            have s22 : okC h20 := aw_L108_4 s0 e21 (by omega)
            exact zj_vret rfl (zdk ttX8_turnInto 61 rfl rfl) (Nat.le_refl _) (Nat.le_refl _) ⟨rfl, s22⟩
        refine zj_if_ne (t := 66) (zdk ttX8_turnInto 31 rfl rfl) (by decide) (by omega) (fun c13 => ?_) (fun c13 => ?_)
        · refine zj_bipush (zdk ttX8_turnInto 34 rfl rfl) (by decide) ?_
          refine zj_iload (zdk ttX8_turnInto 35 rfl rfl) rfl ?_
          refine zj_iadd (zdk ttX8_turnInto 36 rfl rfl) ?_
          exact j15 (31 + (zm_max 0 (p2 - y6))) (by omega)
        · refine zj_iload (zdk ttX8_turnInto 32 rfl rfl) rfl ?_
          refine zj_goto (t := 71) (zdk ttX8_turnInto 33 rfl rfl) (by decide) ?_
          exact j15 (zm_max 0 (p3 - y6)) (by omega)
      · exact absurd c10 (by omega)
  refine zj_if_eq (t := 8) (zdk ttX8_turnInto 1 rfl rfl) (by decide) (by omega) (fun c1 => ?_) (fun c1 => ?_)
  · refine zj_iload_n (zdk ttX8_turnInto 4 rfl rfl) rfl ?_
    refine zj_iload_n (zdk ttX8_turnInto 5 rfl rfl) rfl ?_
    refine zj_max (zdk ttX8_turnInto 6 rfl rfl) mx_RX8_37 (by omega) (by omega) (Nat.le_of_ble_eq_true rfl) (rm_m (by decide)) ?_
    have b23 := zm_max_f p2 p3
    refine zj_goto (t := 21) (zdk ttX8_turnInto 7 rfl rfl) (by decide) ?_
    exact j7 (zm_max p2 p3) (by omega)
  · refine zj_iload_n (zdk ttX8_turnInto 2 rfl rfl) rfl ?_
    refine zj_if_ne (t := 16) (zdk ttX8_turnInto 3 rfl rfl) (by decide) (by omega) (fun c24 => ?_) (fun c24 => ?_)
    · refine zj_iload_n (zdk ttX8_turnInto 8 rfl rfl) rfl ?_
      refine zj_iload_n (zdk ttX8_turnInto 9 rfl rfl) rfl ?_
      refine zj_min (zdk ttX8_turnInto 10 rfl rfl) mx_RX8_27 (by omega) (by omega) (Nat.le_of_ble_eq_true rfl) (rm_m (by decide)) ?_
      have b25 := zm_min_f p2 p3
      exact j7 (zm_min p2 p3) (by omega)
    · refine zj_iload_n (zdk ttX8_turnInto 4 rfl rfl) rfl ?_
      refine zj_iload_n (zdk ttX8_turnInto 5 rfl rfl) rfl ?_
      refine zj_max (zdk ttX8_turnInto 6 rfl rfl) mx_RX8_37 (by omega) (by omega) (Nat.le_of_ble_eq_true rfl) (rm_m (by decide)) ?_
      have b26 := zm_max_f p2 p3
      refine zj_goto (t := 21) (zdk ttX8_turnInto 7 rfl rfl) (by decide) ?_
      exact j7 (zm_max p2 p3) (by omega)

abbrev tX8_fewestTurnings : List (Nat × Instr × Nat) := [(0, .aload_n 0, 1), (1, .getfield 24, 3), (4, .ldc 57, 2), (6, .invokestatic 40, 3), (9, .aload_n 0, 1), (10, .iconst 0, 1), (11, .iload_n 1, 1), (12, .iload_n 2, 1), (13, .iconst 0, 1), (14, .invokevirtual 58, 3), (17, .ldc 57, 2), (19, .istore 4, 2), (21, .iconst 1, 1), (22, .istore 5, 2), (24, .iload 5, 2), (26, .iload_n 3, 1), (27, .if_icmp .gt 182, 3), (30, .iload 5, 2), (32, .bipush 32, 2), (34, .irem, 1), (35, .bipush 62, 2), (37, .imul, 1), (38, .istore 6, 2), (40, .iconst 0, 1), (41, .istore 7, 2), (43, .iload 7, 2), (45, .bipush 62, 2), (47, .if_icmp .ge 156, 3), (50, .aload_n 0, 1), (51, .getfield 24, 3), (54, .iload 6, 2), (56, .iload 7, 2), (58, .iadd, 1), (59, .iaload, 1), (60, .istore 8, 2), (62, .iload 8, 2), (64, .ldc 57, 2), (66, .if_icmp .ne 6, 3), (69, .goto 128, 3), (72, .aload_n 0, 1), (73, .getfield 24, 3), (76, .iload 6, 2), (78, .iload 7, 2), (80, .iadd, 1), (81, .ldc 57, 2), (83, .iastore, 1), (84, .iload 5, 2), (86, .iload_n 3, 1), (87, .if_icmp .ne 15, 3), (90, .iload 4, 2), (92, .iload 8, 2), (94, .invokestatic 27, 3), (97, .istore 4, 2), (99, .goto 98, 3), (102, .iload 7, 2), (104, .bipush 31, 2), (106, .if_icmp .ge 7, 3), (109, .iconst 0, 1), (110, .goto 8, 3), (113, .iload 7, 2), (115, .bipush 31, 2), (117, .isub, 1), (118, .istore 9, 2), (120, .iload 7, 2), (122, .bipush 31, 2), (124, .if_icmp .ge 8, 3), (127, .iload 7, 2), (129, .goto 4, 3), (132, .iconst 0, 1), (133, .istore 10, 2), (135, .aload_n 0, 1), (136, .iload 5, 2), (138, .iload 9, 2), (140, .iload 10, 2), (142, .iload 8, 2), (144, .invokevirtual 58, 3), (147, .aload_n 0, 1), (148, .iload 5, 2), (150, .iload_n 1, 1), (151, .iload 9, 2), (153, .isub, 1), (154, .iload 10, 2), (156, .iload 8, 2), (158, .iconst 1, 1), (159, .iadd, 1), (160, .invokevirtual 58, 3), (163, .aload_n 0, 1), (164, .iload 5, 2), (166, .iload 9, 2), (168, .iload_n 2, 1), (169, .iload 10, 2), (171, .isub, 1), (172, .iload 8, 2), (174, .iconst 1, 1), (175, .iadd, 1), (176, .invokevirtual 58, 3), (179, .aload_n 0, 1), (180, .iload 5, 2), (182, .iload_n 1, 1), (183, .iload 9, 2), (185, .isub, 1), (186, .iload_n 2, 1), (187, .iload 10, 2), (189, .isub, 1), (190, .iload 8, 2), (192, .iconst 2, 1), (193, .iadd, 1), (194, .invokevirtual 58, 3), (197, .iinc 7 1, 3), (200, .goto (-157), 3), (203, .iinc 5 1, 3), (206, .goto (-182), 3), (209, .iload 4, 2), (211, .ldc 57, 2), (213, .if_icmp .ne 7, 3), (216, .iconst (-1), 1), (217, .goto 5, 3), (220, .iload 4, 2), (222, .ireturn, 1)]
theorem ttX8_fewestTurnings : zdt cX8_fewestTurnings tX8_fewestTurnings = true := by decide +kernel
abbrev q_X8_fewestTurnings (h : zM) (p1 : Int) (p2 : Int) (p3 : Int) : Option zV → zM → Prop := zqi fun v h' => ((-2147483648) ≤ v ∧ v ≤ 2147483647) ∧ okC h'
set_option maxRecDepth 100000 in
set_option maxHeartbeats 4000000 in
theorem s_X8_fewestTurnings (l : Launch) (h : zM) (p1 : Int) (p2 : Int) (p3 : Int) (s0 : okC h) (b_p1 : 1 ≤ p1 ∧ p1 ≤ 30) (b_p2 : 1 ≤ p2 ∧ p2 ≤ 30) (b_p3 : 1 ≤ p3 ∧ p3 ≤ 120) : zT shC l yX8_fewestTurnings cX8_fewestTurnings 11 (some .int) (rmL 3) 0 0 [.inr 108, .inl p1, .inl p2, .inl p3] h (q_X8_fewestTurnings h p1 p2 p3) := by
  refine zT_of (by decide +kernel) (L0 := [some (.inr 108), some (.inl p1), some (.inl p2), some (.inl p3), none, none, none, none, none, none, none]) rfl (Nat.le_of_ble_eq_true rfl) ?_
  refine zj_aload_n (zdk ttX8_fewestTurnings 0 rfl rfl) rfl (by decide) ?_
  refine zj_getr (r := 113) (zdk ttX8_fewestTurnings 1 rfl rfl) zf_RX8_24 rfl (k_L108 s0) (rf_L108_4 s0) ?_
  refine zj_ldc (z := 2147483647) (zdk ttX8_fewestTurnings 2 rfl rfl) wc_RX8_57 ?_
  refine zj_callS (av := [.inr 113, .inl 2147483647]) (st := []) (zdk ttX8_fewestTurnings 3 rfl rfl) mb_J7_fill_53178 ms_RX8_40 rfl rfl (Nat.le_of_ble_eq_true rfl) (s_J7_fill_53178 shC l h 113 2147483647 (ka_L108_4 s0) (by decide)) (rm_ok (by decide) (by decide)) (zq_v fun h1 e2 => ?_)
  refine zj_aload_n (zdk ttX8_fewestTurnings 4 rfl rfl) rfl (by decide) ?_
  refine zj_iconst (zdk ttX8_fewestTurnings 5 rfl rfl) ?_
  refine zj_iload_n (zdk ttX8_fewestTurnings 6 rfl rfl) rfl ?_
  refine zj_iload_n (zdk ttX8_fewestTurnings 7 rfl rfl) rfl ?_
  refine zj_iconst (zdk ttX8_fewestTurnings 8 rfl rfl) ?_
  have s3 : okC h1 := okC_fill s0 e2 (fun j => pa_L108_4 (v := 2147483647) (by omega) j) (na_L108_4).1 (na_L108_4).2
  refine zj_callV (av := [.inl 0, .inl p1, .inl p2, .inl 0]) (st := []) (zdk ttX8_fewestTurnings 9 rfl rfl) mb_X8_turnInto mv_RX8_58 (ci := 8) rfl rfl (k_L108 s3) rfl rfl (Nat.le_of_ble_eq_true rfl) (s_X8_turnInto l h1 0 p1 p2 0 s3 (by omega) (by omega) (by omega) (by omega)) (rm_ok (by decide) (by decide)) (zq_v fun h6 q4 => ?_)
  refine zj_ldc (z := 2147483647) (zdk ttX8_fewestTurnings 10 rfl rfl) wc_RX8_57 ?_
  refine zj_istore (L' := [some (.inr 108), some (.inl p1), some (.inl p2), some (.inl p3), some (.inl 2147483647), none, none, none, none, none, none]) (zdk ttX8_fewestTurnings 11 rfl rfl) (by decide) rfl ?_
  refine zj_iconst (zdk ttX8_fewestTurnings 12 rfl rfl) ?_
  refine zj_istore (L' := [some (.inr 108), some (.inl p1), some (.inl p2), some (.inl p3), some (.inl 2147483647), some (.inl 1), none, none, none, none, none]) (zdk ttX8_fewestTurnings 13 rfl rfl) (by decide) rfl ?_
  have lp4677 : ∀ (n : Nat) (x9 x10 : Int) (h11 : zM), (-2147483648 ≤ x9 ∧ x9 ≤ 2147483647) → (1 ≤ x10 ∧ x10 ≤ 121) → okC h11 → (122 - x10).toNat < n → zJ shC l yX8_fewestTurnings cX8_fewestTurnings 11 (some .int) (rmL 3) 0 0 (q_X8_fewestTurnings h p1 p2 p3) 0 0 24 [some (.inr 108), some (.inl p1), some (.inl p2), some (.inl p3), some (.inl x9), some (.inl x10), none, none, none, none, none] [] h11 := by
    intro n
    induction n with
    | zero => intro x9 x10 h11 b4678 b4679 s12 m4680; exact absurd m4680 (Nat.not_lt_zero _)
    | succ n ih4681 =>
      intro x9 x10 h11 b4678 b4679 s12 m4680
      refine zj_iload (zdk ttX8_fewestTurnings 14 rfl rfl) rfl ?_
      refine zj_iload_n (zdk ttX8_fewestTurnings 15 rfl rfl) rfl ?_
      refine zj_icmp_gt (t := 209) (zdk ttX8_fewestTurnings 16 rfl rfl) (by decide) (by omega) (by omega) (fun c4682 => ?_) (fun c4682 => ?_)
      · refine zj_iload (zdk ttX8_fewestTurnings 112 rfl rfl) rfl ?_
        refine zj_ldc (z := 2147483647) (zdk ttX8_fewestTurnings 113 rfl rfl) wc_RX8_57 ?_
        refine zj_icmp_ne (t := 220) (zdk ttX8_fewestTurnings 114 rfl rfl) (by decide) (by omega) (by decide) (fun c4683 => ?_) (fun c4683 => ?_)
        · refine zj_iload (zdk ttX8_fewestTurnings 117 rfl rfl) rfl ?_
          exact zj_iret rfl (zdk ttX8_fewestTurnings 118 rfl rfl) (Nat.le_refl _) (Nat.le_refl _) ⟨x9, rfl, by omega, s12⟩
        · refine zj_iconst (zdk ttX8_fewestTurnings 115 rfl rfl) ?_
          refine zj_goto (t := 222) (zdk ttX8_fewestTurnings 116 rfl rfl) (by decide) ?_
          exact zj_iret rfl (zdk ttX8_fewestTurnings 118 rfl rfl) (Nat.le_refl _) (Nat.le_refl _) ⟨(-1), rfl, by omega, s12⟩
      · refine zj_iload (zdk ttX8_fewestTurnings 17 rfl rfl) rfl ?_
        refine zj_bipush (zdk ttX8_fewestTurnings 18 rfl rfl) (by decide) ?_
        refine zj_iremP (zdk ttX8_fewestTurnings 19 rfl rfl) (by omega) (by omega) ?_
        refine zj_bipush (zdk ttX8_fewestTurnings 20 rfl rfl) (by decide) ?_
        refine zj_imul (zdk ttX8_fewestTurnings 21 rfl rfl) ?_
        refine zj_istore (L' := [some (.inr 108), some (.inl p1), some (.inl p2), some (.inl p3), some (.inl x9), some (.inl x10), some (.inl ((x10 % 32) * 62)), none, none, none, none]) (zdk ttX8_fewestTurnings 22 rfl rfl) (by decide) rfl ?_
        refine zj_iconst (zdk ttX8_fewestTurnings 23 rfl rfl) ?_
        refine zj_istore (L' := [some (.inr 108), some (.inl p1), some (.inl p2), some (.inl p3), some (.inl x9), some (.inl x10), some (.inl ((x10 % 32) * 62)), some (.inl 0), none, none, none]) (zdk ttX8_fewestTurnings 24 rfl rfl) (by decide) rfl ?_
        have lp5065 : ∀ (n : Nat) (x4684 x4685 : Int) (h4686 : zM), (-2147483648 ≤ x4684 ∧ x4684 ≤ 2147483647) → (0 ≤ x4685 ∧ x4685 ≤ 62) → okC h4686 → (63 - x4685).toNat < n → zJ shC l yX8_fewestTurnings cX8_fewestTurnings 11 (some .int) (rmL 3) 0 0 (q_X8_fewestTurnings h p1 p2 p3) 0 0 43 [some (.inr 108), some (.inl p1), some (.inl p2), some (.inl p3), some (.inl x4684), some (.inl x10), some (.inl ((x10 % 32) * 62)), some (.inl x4685), none, none, none] [] h4686 := by
          intro n
          induction n with
          | zero => intro x4684 x4685 h4686 b5066 b5067 s4687 m5068; exact absurd m5068 (Nat.not_lt_zero _)
          | succ n ih5069 =>
            intro x4684 x4685 h4686 b5066 b5067 s4687 m5068
            refine zj_iload (zdk ttX8_fewestTurnings 25 rfl rfl) rfl ?_
            refine zj_bipush (zdk ttX8_fewestTurnings 26 rfl rfl) (by decide) ?_
            refine zj_icmp_ge (t := 203) (zdk ttX8_fewestTurnings 27 rfl rfl) (by decide) (by omega) (by decide) (fun c5070 => ?_) (fun c5070 => ?_)
            · refine zj_iinc (L' := [some (.inr 108), some (.inl p1), some (.inl p2), some (.inl p3), some (.inl x4684), some (.inl (x10 + 1)), some (.inl ((x10 % 32) * 62)), some (.inl x4685), none, none, none]) (zdk ttX8_fewestTurnings 110 rfl rfl) rfl (by decide) rfl ?_
              refine zj_goto (t := 24) (zdk ttX8_fewestTurnings 111 rfl rfl) (by decide) ?_
              refine zj_kill (k := 6) (L' := [some (.inr 108), some (.inl p1), some (.inl p2), some (.inl p3), some (.inl x4684), some (.inl (x10 + 1)), none, some (.inl x4685), none, none, none]) rfl ?_
              refine zj_kill (k := 7) (L' := [some (.inr 108), some (.inl p1), some (.inl p2), some (.inl p3), some (.inl x4684), some (.inl (x10 + 1)), none, none, none, none, none]) rfl ?_
              exact ih4681  x4684 (x10 + 1) h4686 (by omega) (by omega) s4687 (by omega)
            · refine zj_aload_n (zdk ttX8_fewestTurnings 28 rfl rfl) rfl (by decide) ?_
              refine zj_getr (r := 113) (zdk ttX8_fewestTurnings 29 rfl rfl) zf_RX8_24 rfl (k_L108 s4687) (rf_L108_4 s4687) ?_
              refine zj_iload (zdk ttX8_fewestTurnings 30 rfl rfl) rfl ?_
              refine zj_iload (zdk ttX8_fewestTurnings 31 rfl rfl) rfl ?_
              refine zj_iadd (zdk ttX8_fewestTurnings 32 rfl rfl) ?_
              have b5071 : -2147483648 ≤ (h4686.2 113 (((x10 % 32) * 62) + x4685)) ∧ (h4686.2 113 (((x10 % 32) * 62) + x4685)) ≤ 2147483647 := ab_L108_4 s4687 (((x10 % 32) * 62) + x4685)
              refine zj_iald (v := (h4686.2 113 (((x10 % 32) * 62) + x4685))) (zdk ttX8_fewestTurnings 33 rfl rfl) (ka_L108_4 s4687) (by decide) (by omega) rfl ?_
              refine zj_istore (L' := [some (.inr 108), some (.inl p1), some (.inl p2), some (.inl p3), some (.inl x4684), some (.inl x10), some (.inl ((x10 % 32) * 62)), some (.inl x4685), some (.inl (h4686.2 113 (((x10 % 32) * 62) + x4685))), none, none]) (zdk ttX8_fewestTurnings 34 rfl rfl) (by decide) rfl ?_
              refine zj_iload (zdk ttX8_fewestTurnings 35 rfl rfl) rfl ?_
              refine zj_ldc (z := 2147483647) (zdk ttX8_fewestTurnings 36 rfl rfl) wc_RX8_57 ?_
              refine zj_icmp_ne (t := 72) (zdk ttX8_fewestTurnings 37 rfl rfl) (by decide) (by omega) (by decide) (fun c5072 => ?_) (fun c5072 => ?_)
              · refine zj_aload_n (zdk ttX8_fewestTurnings 39 rfl rfl) rfl (by decide) ?_
                refine zj_getr (r := 113) (zdk ttX8_fewestTurnings 40 rfl rfl) zf_RX8_24 rfl (k_L108 s4687) (rf_L108_4 s4687) ?_
                refine zj_iload (zdk ttX8_fewestTurnings 41 rfl rfl) rfl ?_
                refine zj_iload (zdk ttX8_fewestTurnings 42 rfl rfl) rfl ?_
                refine zj_iadd (zdk ttX8_fewestTurnings 43 rfl rfl) ?_
                refine zj_ldc (z := 2147483647) (zdk ttX8_fewestTurnings 44 rfl rfl) wc_RX8_57 ?_
                refine zj_iast (zdk ttX8_fewestTurnings 45 rfl rfl) (ka_L108_4 s4687) (by decide) (by omega) (fun h5073 e5074 => ?_)
                refine zj_iload (zdk ttX8_fewestTurnings 46 rfl rfl) rfl ?_
                refine zj_iload_n (zdk ttX8_fewestTurnings 47 rfl rfl) rfl ?_
                refine zj_icmp_ne (t := 102) (zdk ttX8_fewestTurnings 48 rfl rfl) (by decide) (by omega) (by omega) (fun c5075 => ?_) (fun c5075 => ?_)
                · refine zj_iload (zdk ttX8_fewestTurnings 54 rfl rfl) rfl ?_
                  refine zj_bipush (zdk ttX8_fewestTurnings 55 rfl rfl) (by decide) ?_
                  have j5078 : ∀ (y5077 : Int), (0 ≤ y5077 ∧ y5077 ≤ 30) → zJ shC l yX8_fewestTurnings cX8_fewestTurnings 11 (some .int) (rmL 3) 0 0 (q_X8_fewestTurnings h p1 p2 p3) 0 0 118 [some (.inr 108), some (.inl p1), some (.inl p2), some (.inl p3), some (.inl x4684), some (.inl x10), some (.inl ((x10 % 32) * 62)), some (.inl x4685), some (.inl (h4686.2 113 (((x10 % 32) * 62) + x4685))), none, none] [.inl y5077] h5073 := by
                    intro y5077 b5079
                    refine zj_istore (L' := [some (.inr 108), some (.inl p1), some (.inl p2), some (.inl p3), some (.inl x4684), some (.inl x10), some (.inl ((x10 % 32) * 62)), some (.inl x4685), some (.inl (h4686.2 113 (((x10 % 32) * 62) + x4685))), some (.inl y5077), none]) (zdk ttX8_fewestTurnings 62 rfl rfl) (by decide) rfl ?_
                    refine zj_iload (zdk ttX8_fewestTurnings 63 rfl rfl) rfl ?_
                    refine zj_bipush (zdk ttX8_fewestTurnings 64 rfl rfl) (by decide) ?_
                    have j5082 : ∀ (y5081 : Int), (0 ≤ y5081 ∧ y5081 ≤ 30) → zJ shC l yX8_fewestTurnings cX8_fewestTurnings 11 (some .int) (rmL 3) 0 0 (q_X8_fewestTurnings h p1 p2 p3) 0 0 133 [some (.inr 108), some (.inl p1), some (.inl p2), some (.inl p3), some (.inl x4684), some (.inl x10), some (.inl ((x10 % 32) * 62)), some (.inl x4685), some (.inl (h4686.2 113 (((x10 % 32) * 62) + x4685))), some (.inl y5077), none] [.inl y5081] h5073 := by
                      intro y5081 b5083
                      refine zj_istore (L' := [some (.inr 108), some (.inl p1), some (.inl p2), some (.inl p3), some (.inl x4684), some (.inl x10), some (.inl ((x10 % 32) * 62)), some (.inl x4685), some (.inl (h4686.2 113 (((x10 % 32) * 62) + x4685))), some (.inl y5077), some (.inl y5081)]) (zdk ttX8_fewestTurnings 69 rfl rfl) (by decide) rfl ?_
                      refine zj_aload_n (zdk ttX8_fewestTurnings 70 rfl rfl) rfl (by decide) ?_
                      refine zj_iload (zdk ttX8_fewestTurnings 71 rfl rfl) rfl ?_
                      refine zj_iload (zdk ttX8_fewestTurnings 72 rfl rfl) rfl ?_
                      refine zj_iload (zdk ttX8_fewestTurnings 73 rfl rfl) rfl ?_
                      refine zj_iload (zdk ttX8_fewestTurnings 74 rfl rfl) rfl ?_
                      have s5084 : okC h5073 := aw_L108_4 s4687 e5074 (by omega)
                      refine zj_callV (av := [.inl x10, .inl y5077, .inl y5081, .inl (h4686.2 113 (((x10 % 32) * 62) + x4685))]) (st := []) (zdk ttX8_fewestTurnings 75 rfl rfl) mb_X8_turnInto mv_RX8_58 (ci := 8) rfl rfl (k_L108 s5084) rfl rfl (Nat.le_of_ble_eq_true rfl) (s_X8_turnInto l h5073 x10 y5077 y5081 (h4686.2 113 (((x10 % 32) * 62) + x4685)) s5084 (by omega) (by omega) (by omega) (by omega)) (rm_ok (by decide) (by decide)) (zq_v fun h5087 q5085 => ?_)
                      refine zj_aload_n (zdk ttX8_fewestTurnings 76 rfl rfl) rfl (by decide) ?_
                      refine zj_iload (zdk ttX8_fewestTurnings 77 rfl rfl) rfl ?_
                      refine zj_iload_n (zdk ttX8_fewestTurnings 78 rfl rfl) rfl ?_
                      refine zj_iload (zdk ttX8_fewestTurnings 79 rfl rfl) rfl ?_
                      refine zj_isub (zdk ttX8_fewestTurnings 80 rfl rfl) ?_
                      refine zj_iload (zdk ttX8_fewestTurnings 81 rfl rfl) rfl ?_
                      refine zj_iload (zdk ttX8_fewestTurnings 82 rfl rfl) rfl ?_
                      refine zj_iconst (zdk ttX8_fewestTurnings 83 rfl rfl) ?_
                      refine zj_iadd (zdk ttX8_fewestTurnings 84 rfl rfl) ?_
                      refine zj_callV (av := [.inl x10, .inl (p1 - y5077), .inl y5081, .inl ((h4686.2 113 (((x10 % 32) * 62) + x4685)) + 1)]) (st := []) (zdk ttX8_fewestTurnings 85 rfl rfl) mb_X8_turnInto mv_RX8_58 (ci := 8) rfl rfl (k_L108 q5085) rfl rfl (Nat.le_of_ble_eq_true rfl) (s_X8_turnInto l h5087 x10 (p1 - y5077) y5081 ((h4686.2 113 (((x10 % 32) * 62) + x4685)) + 1) q5085 (by omega) (by omega) (by omega) (by omega)) (rm_ok (by decide) (by decide)) (zq_v fun h5092 q5090 => ?_)
                      refine zj_aload_n (zdk ttX8_fewestTurnings 86 rfl rfl) rfl (by decide) ?_
                      refine zj_iload (zdk ttX8_fewestTurnings 87 rfl rfl) rfl ?_
                      refine zj_iload (zdk ttX8_fewestTurnings 88 rfl rfl) rfl ?_
                      refine zj_iload_n (zdk ttX8_fewestTurnings 89 rfl rfl) rfl ?_
                      refine zj_iload (zdk ttX8_fewestTurnings 90 rfl rfl) rfl ?_
                      refine zj_isub (zdk ttX8_fewestTurnings 91 rfl rfl) ?_
                      refine zj_iload (zdk ttX8_fewestTurnings 92 rfl rfl) rfl ?_
                      refine zj_iconst (zdk ttX8_fewestTurnings 93 rfl rfl) ?_
                      refine zj_iadd (zdk ttX8_fewestTurnings 94 rfl rfl) ?_
                      refine zj_callV (av := [.inl x10, .inl y5077, .inl (p2 - y5081), .inl ((h4686.2 113 (((x10 % 32) * 62) + x4685)) + 1)]) (st := []) (zdk ttX8_fewestTurnings 95 rfl rfl) mb_X8_turnInto mv_RX8_58 (ci := 8) rfl rfl (k_L108 q5090) rfl rfl (Nat.le_of_ble_eq_true rfl) (s_X8_turnInto l h5092 x10 y5077 (p2 - y5081) ((h4686.2 113 (((x10 % 32) * 62) + x4685)) + 1) q5090 (by omega) (by omega) (by omega) (by omega)) (rm_ok (by decide) (by decide)) (zq_v fun h5097 q5095 => ?_)
                      refine zj_aload_n (zdk ttX8_fewestTurnings 96 rfl rfl) rfl (by decide) ?_
                      refine zj_iload (zdk ttX8_fewestTurnings 97 rfl rfl) rfl ?_
                      refine zj_iload_n (zdk ttX8_fewestTurnings 98 rfl rfl) rfl ?_
                      refine zj_iload (zdk ttX8_fewestTurnings 99 rfl rfl) rfl ?_
                      refine zj_isub (zdk ttX8_fewestTurnings 100 rfl rfl) ?_
                      refine zj_iload_n (zdk ttX8_fewestTurnings 101 rfl rfl) rfl ?_
                      refine zj_iload (zdk ttX8_fewestTurnings 102 rfl rfl) rfl ?_
                      refine zj_isub (zdk ttX8_fewestTurnings 103 rfl rfl) ?_
                      refine zj_iload (zdk ttX8_fewestTurnings 104 rfl rfl) rfl ?_
                      refine zj_iconst (zdk ttX8_fewestTurnings 105 rfl rfl) ?_
                      refine zj_iadd (zdk ttX8_fewestTurnings 106 rfl rfl) ?_
                      refine zj_wrap ?_
                      have b5100 := zwp_in ((h4686.2 113 (((x10 % 32) * 62) + x4685)) + 2)
                      refine zj_callV (av := [.inl x10, .inl (p1 - y5077), .inl (p2 - y5081), .inl (zwp ((h4686.2 113 (((x10 % 32) * 62) + x4685)) + 2))]) (st := []) (zdk ttX8_fewestTurnings 107 rfl rfl) mb_X8_turnInto mv_RX8_58 (ci := 8) rfl rfl (k_L108 q5095) rfl rfl (Nat.le_of_ble_eq_true rfl) (s_X8_turnInto l h5097 x10 (p1 - y5077) (p2 - y5081) (zwp ((h4686.2 113 (((x10 % 32) * 62) + x4685)) + 2)) q5095 (by omega) (by omega) (by omega) (by omega)) (rm_ok (by decide) (by decide)) (zq_v fun h5103 q5101 => ?_)
                      refine zj_iinc (L' := [some (.inr 108), some (.inl p1), some (.inl p2), some (.inl p3), some (.inl x4684), some (.inl x10), some (.inl ((x10 % 32) * 62)), some (.inl (x4685 + 1)), some (.inl (h4686.2 113 (((x10 % 32) * 62) + x4685))), some (.inl y5077), some (.inl y5081)]) (zdk ttX8_fewestTurnings 108 rfl rfl) rfl (by decide) rfl ?_
                      refine zj_goto (t := 43) (zdk ttX8_fewestTurnings 109 rfl rfl) (by decide) ?_
                      refine zj_kill (k := 8) (L' := [some (.inr 108), some (.inl p1), some (.inl p2), some (.inl p3), some (.inl x4684), some (.inl x10), some (.inl ((x10 % 32) * 62)), some (.inl (x4685 + 1)), none, some (.inl y5077), some (.inl y5081)]) rfl ?_
                      refine zj_kill (k := 9) (L' := [some (.inr 108), some (.inl p1), some (.inl p2), some (.inl p3), some (.inl x4684), some (.inl x10), some (.inl ((x10 % 32) * 62)), some (.inl (x4685 + 1)), none, none, some (.inl y5081)]) rfl ?_
                      refine zj_kill (k := 10) (L' := [some (.inr 108), some (.inl p1), some (.inl p2), some (.inl p3), some (.inl x4684), some (.inl x10), some (.inl ((x10 % 32) * 62)), some (.inl (x4685 + 1)), none, none, none]) rfl ?_
                      exact ih5069  x4684 (x4685 + 1) h5103 (by omega) (by omega) q5101 (by omega)
                    refine zj_icmp_ge (t := 132) (zdk ttX8_fewestTurnings 65 rfl rfl) (by decide) (by omega) (by decide) (fun c5080 => ?_) (fun c5080 => ?_)
                    · refine zj_iconst (zdk ttX8_fewestTurnings 68 rfl rfl) ?_
                      exact j5082 0 (by omega)
                    · refine zj_iload (zdk ttX8_fewestTurnings 66 rfl rfl) rfl ?_
                      refine zj_goto (t := 133) (zdk ttX8_fewestTurnings 67 rfl rfl) (by decide) ?_
                      exact j5082 x4685 (by omega)
                  refine zj_icmp_ge (t := 113) (zdk ttX8_fewestTurnings 56 rfl rfl) (by decide) (by omega) (by decide) (fun c5076 => ?_) (fun c5076 => ?_)
                  · refine zj_iload (zdk ttX8_fewestTurnings 59 rfl rfl) rfl ?_
                    refine zj_bipush (zdk ttX8_fewestTurnings 60 rfl rfl) (by decide) ?_
                    refine zj_isub (zdk ttX8_fewestTurnings 61 rfl rfl) ?_
                    exact j5078 (x4685 - 31) (by omega)
                  · refine zj_iconst (zdk ttX8_fewestTurnings 57 rfl rfl) ?_
                    refine zj_goto (t := 118) (zdk ttX8_fewestTurnings 58 rfl rfl) (by decide) ?_
                    exact j5078 0 (by omega)
                · refine zj_iload (zdk ttX8_fewestTurnings 49 rfl rfl) rfl ?_
                  refine zj_iload (zdk ttX8_fewestTurnings 50 rfl rfl) rfl ?_
                  refine zj_min (zdk ttX8_fewestTurnings 51 rfl rfl) mx_RX8_27 (by omega) (by omega) (Nat.le_of_ble_eq_true rfl) (rm_m (by decide)) ?_
                  have b5106 := zm_min_f x4684 (h4686.2 113 (((x10 % 32) * 62) + x4685))
                  refine zj_istore (L' := [some (.inr 108), some (.inl p1), some (.inl p2), some (.inl p3), some (.inl (zm_min x4684 (h4686.2 113 (((x10 % 32) * 62) + x4685)))), some (.inl x10), some (.inl ((x10 % 32) * 62)), some (.inl x4685), some (.inl (h4686.2 113 (((x10 % 32) * 62) + x4685))), none, none]) (zdk ttX8_fewestTurnings 52 rfl rfl) (by decide) rfl ?_
                  refine zj_goto (t := 197) (zdk ttX8_fewestTurnings 53 rfl rfl) (by decide) ?_
                  refine zj_iinc (L' := [some (.inr 108), some (.inl p1), some (.inl p2), some (.inl p3), some (.inl (zm_min x4684 (h4686.2 113 (((x10 % 32) * 62) + x4685)))), some (.inl x10), some (.inl ((x10 % 32) * 62)), some (.inl (x4685 + 1)), some (.inl (h4686.2 113 (((x10 % 32) * 62) + x4685))), none, none]) (zdk ttX8_fewestTurnings 108 rfl rfl) rfl (by decide) rfl ?_
                  refine zj_goto (t := 43) (zdk ttX8_fewestTurnings 109 rfl rfl) (by decide) ?_
                  refine zj_kill (k := 8) (L' := [some (.inr 108), some (.inl p1), some (.inl p2), some (.inl p3), some (.inl (zm_min x4684 (h4686.2 113 (((x10 % 32) * 62) + x4685)))), some (.inl x10), some (.inl ((x10 % 32) * 62)), some (.inl (x4685 + 1)), none, none, none]) rfl ?_
                  have s5107 : okC h5073 := aw_L108_4 s4687 e5074 (by omega)
                  exact ih5069  (zm_min x4684 (h4686.2 113 (((x10 % 32) * 62) + x4685))) (x4685 + 1) h5073 (by omega) (by omega) s5107 (by omega)
              · refine zj_goto (t := 197) (zdk ttX8_fewestTurnings 38 rfl rfl) (by decide) ?_
                refine zj_iinc (L' := [some (.inr 108), some (.inl p1), some (.inl p2), some (.inl p3), some (.inl x4684), some (.inl x10), some (.inl ((x10 % 32) * 62)), some (.inl (x4685 + 1)), some (.inl (h4686.2 113 (((x10 % 32) * 62) + x4685))), none, none]) (zdk ttX8_fewestTurnings 108 rfl rfl) rfl (by decide) rfl ?_
                refine zj_goto (t := 43) (zdk ttX8_fewestTurnings 109 rfl rfl) (by decide) ?_
                refine zj_kill (k := 8) (L' := [some (.inr 108), some (.inl p1), some (.inl p2), some (.inl p3), some (.inl x4684), some (.inl x10), some (.inl ((x10 % 32) * 62)), some (.inl (x4685 + 1)), none, none, none]) rfl ?_
                exact ih5069  x4684 (x4685 + 1) h4686 (by omega) (by omega) s4687 (by omega)
        exact lp5065 _ x9 0 h11 (by omega) (by omega) s12 (Nat.lt_succ_self _)
  exact lp4677 _ 2147483647 1 h6 (by omega) (by omega) q4 (Nat.lt_succ_self _)

abbrev tX8_fewestCrossings : List (Nat × Instr × Nat) := [(0, .iconst 1, 1), (1, .iload_n 2, 1), (2, .ishl, 1), (3, .iconst 1, 1), (4, .isub, 1), (5, .istore 4, 2), (7, .aload_n 0, 1), (8, .getfield 18, 3), (11, .iconst (-1), 1), (12, .invokestatic 40, 3), (15, .aload_n 0, 1), (16, .getfield 18, 3), (19, .iconst 0, 1), (20, .iconst 0, 1), (21, .iastore, 1), (22, .aload_n 0, 1), (23, .getfield 21, 3), (26, .iconst 0, 1), (27, .iconst 0, 1), (28, .iastore, 1), (29, .iconst 1, 1), (30, .istore 5, 2), (32, .iconst 0, 1), (33, .istore 6, 2), (35, .iload 6, 2), (37, .iload 5, 2), (39, .if_icmp .ge 224, 3), (42, .iload 6, 2), (44, .aload_n 0, 1), (45, .getfield 21, 3), (48, .arraylength, 1), (49, .if_icmp .ge 214, 3), (52, .aload_n 0, 1), (53, .getfield 21, 3), (56, .iload 6, 2), (58, .iaload, 1), (59, .istore 7, 2), (61, .iload 7, 2), (63, .bipush 64, 2), (65, .irem, 1), (66, .istore 8, 2), (68, .iload 8, 2), (70, .iload 4, 2), (72, .if_icmp .ne 11, 3), (75, .aload_n 0, 1), (76, .getfield 18, 3), (79, .iload 7, 2), (81, .iaload, 1), (82, .ireturn, 1), (83, .iload 7, 2), (85, .bipush 64, 2), (87, .if_icmp .lt 7, 3), (90, .iconst 1, 1), (91, .goto 4, 3), (94, .iconst 0, 1), (95, .istore 9, 2), (97, .iload 9, 2), (99, .ifCond .eq 8, 3), (102, .iload 8, 2), (104, .goto 10, 3), (107, .iload 4, 2), (109, .iload 8, 2), (111, .iconst (-1), 1), (112, .ixor, 1), (113, .iand, 1), (114, .istore 10, 2), (116, .iconst 0, 1), (117, .istore 11, 2), (119, .iload 11, 2), (121, .iload 4, 2), (123, .if_icmp .gt 134, 3), (126, .iload 11, 2), (128, .iload 10, 2), (130, .iconst (-1), 1), (131, .ixor, 1), (132, .iand, 1), (133, .ifCond .ne 16, 3), (136, .iload 11, 2), (138, .invokestatic 46, 3), (141, .iload_n 3, 1), (142, .if_icmp .gt 7, 3), (145, .iconst 1, 1), (146, .goto 4, 3), (149, .iconst 0, 1), (150, .istore 12, 2), (152, .iload 8, 2), (154, .iload 11, 2), (156, .ixor, 1), (157, .iload 9, 2), (159, .ifCond .eq 7, 3), (162, .iconst 0, 1), (163, .goto 5, 3), (166, .bipush 64, 2), (168, .iadd, 1), (169, .istore 13, 2), (171, .aload_n 0, 1), (172, .getfield 18, 3), (175, .iload 13, 2), (177, .iaload, 1), (178, .iconst (-1), 1), (179, .if_icmp .ne 17, 3), (182, .iload 5, 2), (184, .aload_n 0, 1), (185, .getfield 21, 3), (188, .arraylength, 1), (189, .if_icmp .ge 7, 3), (192, .iconst 1, 1), (193, .goto 4, 3), (196, .iconst 0, 1), (197, .istore 14, 2), (199, .iload 12, 2), (201, .ifCond .eq 50, 3), (204, .iload 14, 2), (206, .ifCond .eq 45, 3), (209, .aload_n 1, 1), (210, .iload 10, 2), (212, .iload 11, 2), (214, .iconst (-1), 1), (215, .ixor, 1), (216, .iand, 1), (217, .invokevirtual 51, 3), (220, .ifCond .eq 31, 3), (223, .aload_n 0, 1), (224, .getfield 18, 3), (227, .iload 13, 2), (229, .aload_n 0, 1), (230, .getfield 18, 3), (233, .iload 7, 2), (235, .iaload, 1), (236, .iconst 1, 1), (237, .iadd, 1), (238, .iastore, 1), (239, .aload_n 0, 1), (240, .getfield 21, 3), (243, .iload 5, 2), (245, .iinc 5 1, 3), (248, .iload 13, 2), (250, .iastore, 1), (251, .iinc 11 1, 3), (254, .goto (-135), 3), (257, .iinc 6 1, 3), (260, .goto (-225), 3), (263, .iconst (-1), 1), (264, .ireturn, 1)]
theorem ttX8_fewestCrossings : zdt cX8_fewestCrossings tX8_fewestCrossings = true := by decide +kernel
abbrev q_X8_fewestCrossings (h : zM) (p1 : Int) (p2 : Int) (p3 : Int) : Option zV → zM → Prop := zqi fun v h' => ((-2147483648) ≤ v ∧ v ≤ 2147483647) ∧ okC h'
set_option maxRecDepth 100000 in
set_option maxHeartbeats 4000000 in
theorem s_X8_fewestCrossings (l : Launch) (h : zM) (p1 : Int) (p2 : Int) (p3 : Int) (s0 : okC h) (r_p1 : zPu p1) (b_p2 : 1 ≤ p2 ∧ p2 ≤ 6) (b_p3 : 1 ≤ p3 ∧ p3 ≤ 3) : zT shC l yX8_fewestCrossings cX8_fewestCrossings 15 (some .int) (rmL 2) 0 0 [.inr 108, .inr p1, .inl p2, .inl p3] h (q_X8_fewestCrossings h p1 p2 p3) := by
  refine zT_of (by decide +kernel) (L0 := [some (.inr 108), some (.inr p1), some (.inl p2), some (.inl p3), none, none, none, none, none, none, none, none, none, none, none]) rfl (Nat.le_of_ble_eq_true rfl) ?_
  have b1 := zPu_b r_p1
  refine zj_iconst (zdk ttX8_fewestCrossings 0 rfl rfl) ?_
  refine zj_iload_n (zdk ttX8_fewestCrossings 1 rfl rfl) rfl ?_
  refine zj_ishl (zdk ttX8_fewestCrossings 2 rfl rfl) ?_
  have b2 := zshl_1 (n := p2) (a := 1) (b := 6) (lo := 2) (hi := 64) (by omega) (by decide) (by decide) (by decide)
  refine zj_iconst (zdk ttX8_fewestCrossings 3 rfl rfl) ?_
  refine zj_isub (zdk ttX8_fewestCrossings 4 rfl rfl) ?_
  refine zj_istore (L' := [some (.inr 108), some (.inr p1), some (.inl p2), some (.inl p3), some (.inl ((zshl 1 p2) - 1)), none, none, none, none, none, none, none, none, none, none]) (zdk ttX8_fewestCrossings 5 rfl rfl) (by decide) rfl ?_
  refine zj_aload_n (zdk ttX8_fewestCrossings 6 rfl rfl) rfl (by decide) ?_
  refine zj_getr (r := 111) (zdk ttX8_fewestCrossings 7 rfl rfl) zf_RX8_18 rfl (k_L108 s0) (rf_L108_2 s0) ?_
  refine zj_iconst (zdk ttX8_fewestCrossings 8 rfl rfl) ?_
  refine zj_callS (av := [.inr 111, .inl (-1)]) (st := []) (zdk ttX8_fewestCrossings 9 rfl rfl) mb_J7_fill_53178 ms_RX8_40 rfl rfl (Nat.le_of_ble_eq_true rfl) (s_J7_fill_53178 shC l h 111 (-1) (ka_L108_2 s0) (by decide)) (rm_ok (by decide) (by decide)) (zq_v fun h3 e4 => ?_)
  refine zj_aload_n (zdk ttX8_fewestCrossings 10 rfl rfl) rfl (by decide) ?_
  have s5 : okC h3 := okC_fill s0 e4 (fun j => pa_L108_2 (v := (-1)) (by omega) j) (na_L108_2).1 (na_L108_2).2
  refine zj_getr (r := 111) (zdk ttX8_fewestCrossings 11 rfl rfl) zf_RX8_18 rfl (k_L108 s5) (rf_L108_2 s5) ?_
  refine zj_iconst (zdk ttX8_fewestCrossings 12 rfl rfl) ?_
  refine zj_iconst (zdk ttX8_fewestCrossings 13 rfl rfl) ?_
  refine zj_iast (zdk ttX8_fewestCrossings 14 rfl rfl) (ka_L108_2 s5) (by decide) (by omega) (fun h6 e7 => ?_)
  refine zj_aload_n (zdk ttX8_fewestCrossings 15 rfl rfl) rfl (by decide) ?_
  have s8 : okC h6 := aw_L108_2 s5 e7 (by omega)
  refine zj_getr (r := 112) (zdk ttX8_fewestCrossings 16 rfl rfl) zf_RX8_21 rfl (k_L108 s8) (rf_L108_3 s8) ?_
  refine zj_iconst (zdk ttX8_fewestCrossings 17 rfl rfl) ?_
  refine zj_iconst (zdk ttX8_fewestCrossings 18 rfl rfl) ?_
  refine zj_iast (zdk ttX8_fewestCrossings 19 rfl rfl) (ka_L108_3 s8) (by decide) (by omega) (fun h9 e10 => ?_)
  refine zj_iconst (zdk ttX8_fewestCrossings 20 rfl rfl) ?_
  refine zj_istore (L' := [some (.inr 108), some (.inr p1), some (.inl p2), some (.inl p3), some (.inl ((zshl 1 p2) - 1)), some (.inl 1), none, none, none, none, none, none, none, none, none]) (zdk ttX8_fewestCrossings 21 rfl rfl) (by decide) rfl ?_
  refine zj_iconst (zdk ttX8_fewestCrossings 22 rfl rfl) ?_
  refine zj_istore (L' := [some (.inr 108), some (.inr p1), some (.inl p2), some (.inl p3), some (.inl ((zshl 1 p2) - 1)), some (.inl 1), some (.inl 0), none, none, none, none, none, none, none, none]) (zdk ttX8_fewestCrossings 23 rfl rfl) (by decide) rfl ?_
  have lp13266 : ∀ (n : Nat) (x11 x12 : Int) (h13 : zM), (1 ≤ x11 ∧ x11 ≤ 2147483647) → (0 ≤ x12 ∧ x12 ≤ 128) → okC h13 → (129 - x12).toNat < n → zJ shC l yX8_fewestCrossings cX8_fewestCrossings 15 (some .int) (rmL 2) 0 0 (q_X8_fewestCrossings h p1 p2 p3) 0 0 35 [some (.inr 108), some (.inr p1), some (.inl p2), some (.inl p3), some (.inl ((zshl 1 p2) - 1)), some (.inl x11), some (.inl x12), none, none, none, none, none, none, none, none] [] h13 := by
    intro n
    induction n with
    | zero => intro x11 x12 h13 b13267 b13268 s14 m13269; exact absurd m13269 (Nat.not_lt_zero _)
    | succ n ih13270 =>
      intro x11 x12 h13 b13267 b13268 s14 m13269
      refine zj_iload (zdk ttX8_fewestCrossings 24 rfl rfl) rfl ?_
      refine zj_iload (zdk ttX8_fewestCrossings 25 rfl rfl) rfl ?_
      refine zj_icmp_ge (t := 263) (zdk ttX8_fewestCrossings 26 rfl rfl) (by decide) (by omega) (by omega) (fun c13271 => ?_) (fun c13271 => ?_)
      · refine zj_iconst (zdk ttX8_fewestCrossings 142 rfl rfl) ?_
        exact zj_iret rfl (zdk ttX8_fewestCrossings 143 rfl rfl) (Nat.le_refl _) (Nat.le_refl _) ⟨(-1), rfl, by omega, s14⟩
      · refine zj_iload (zdk ttX8_fewestCrossings 27 rfl rfl) rfl ?_
        refine zj_aload_n (zdk ttX8_fewestCrossings 28 rfl rfl) rfl (by decide) ?_
        refine zj_getr (r := 112) (zdk ttX8_fewestCrossings 29 rfl rfl) zf_RX8_21 rfl (k_L108 s14) (rf_L108_3 s14) ?_
        refine zj_alen (zdk ttX8_fewestCrossings 30 rfl rfl) (ka_L108_3 s14) ?_
        refine zj_icmp_ge (t := 263) (zdk ttX8_fewestCrossings 31 rfl rfl) (by decide) (by omega) (by decide) (fun c13272 => ?_) (fun c13272 => ?_)
        · refine zj_iconst (zdk ttX8_fewestCrossings 142 rfl rfl) ?_
          exact zj_iret rfl (zdk ttX8_fewestCrossings 143 rfl rfl) (Nat.le_refl _) (Nat.le_refl _) ⟨(-1), rfl, by omega, s14⟩
        · refine zj_aload_n (zdk ttX8_fewestCrossings 32 rfl rfl) rfl (by decide) ?_
          refine zj_getr (r := 112) (zdk ttX8_fewestCrossings 33 rfl rfl) zf_RX8_21 rfl (k_L108 s14) (rf_L108_3 s14) ?_
          refine zj_iload (zdk ttX8_fewestCrossings 34 rfl rfl) rfl ?_
          have b13273 : 0 ≤ (h13.2 112 x12) ∧ (h13.2 112 x12) ≤ 127 := ab_L108_3 s14 x12
          refine zj_iald (v := (h13.2 112 x12)) (zdk ttX8_fewestCrossings 35 rfl rfl) (ka_L108_3 s14) (by decide) (by omega) rfl ?_
          refine zj_istore (L' := [some (.inr 108), some (.inr p1), some (.inl p2), some (.inl p3), some (.inl ((zshl 1 p2) - 1)), some (.inl x11), some (.inl x12), some (.inl (h13.2 112 x12)), none, none, none, none, none, none, none]) (zdk ttX8_fewestCrossings 36 rfl rfl) (by decide) rfl ?_
          refine zj_iload (zdk ttX8_fewestCrossings 37 rfl rfl) rfl ?_
          refine zj_bipush (zdk ttX8_fewestCrossings 38 rfl rfl) (by decide) ?_
          refine zj_iremP (zdk ttX8_fewestCrossings 39 rfl rfl) (by omega) (by omega) ?_
          refine zj_istore (L' := [some (.inr 108), some (.inr p1), some (.inl p2), some (.inl p3), some (.inl ((zshl 1 p2) - 1)), some (.inl x11), some (.inl x12), some (.inl (h13.2 112 x12)), some (.inl ((h13.2 112 x12) % 64)), none, none, none, none, none, none]) (zdk ttX8_fewestCrossings 40 rfl rfl) (by decide) rfl ?_
          refine zj_iload (zdk ttX8_fewestCrossings 41 rfl rfl) rfl ?_
          refine zj_iload (zdk ttX8_fewestCrossings 42 rfl rfl) rfl ?_
          refine zj_icmp_ne (t := 83) (zdk ttX8_fewestCrossings 43 rfl rfl) (by decide) (by omega) (by omega) (fun c13274 => ?_) (fun c13274 => ?_)
          · refine zj_iload (zdk ttX8_fewestCrossings 49 rfl rfl) rfl ?_
            refine zj_bipush (zdk ttX8_fewestCrossings 50 rfl rfl) (by decide) ?_
            refine zj_icmp_lt (t := 94) (zdk ttX8_fewestCrossings 51 rfl rfl) (by decide) (by omega) (by decide) (fun c13275 => ?_) (fun c13275 => ?_)
            · refine zj_iconst (zdk ttX8_fewestCrossings 54 rfl rfl) ?_
              refine zj_istore (L' := [some (.inr 108), some (.inr p1), some (.inl p2), some (.inl p3), some (.inl ((zshl 1 p2) - 1)), some (.inl x11), some (.inl x12), some (.inl (h13.2 112 x12)), some (.inl ((h13.2 112 x12) % 64)), some (.inl 0), none, none, none, none, none]) (zdk ttX8_fewestCrossings 55 rfl rfl) (by decide) rfl ?_
              refine zj_iload (zdk ttX8_fewestCrossings 56 rfl rfl) rfl ?_
              refine zj_if_eq (t := 107) (zdk ttX8_fewestCrossings 57 rfl rfl) (by decide) (by decide) (fun c13276 => ?_) (fun c13276 => ?_)
              · refine zj_iload (zdk ttX8_fewestCrossings 60 rfl rfl) rfl ?_
                refine zj_iload (zdk ttX8_fewestCrossings 61 rfl rfl) rfl ?_
                refine zj_iconst (zdk ttX8_fewestCrossings 62 rfl rfl) ?_
                refine zj_ixor (zdk ttX8_fewestCrossings 63 rfl rfl) ?_
                have b13277 := zxor_in ((h13.2 112 x12) % 64) (-1)
                refine zj_iand (zdk ttX8_fewestCrossings 64 rfl rfl) ?_
                have b13278 := zand_l (a := ((zshl 1 p2) - 1)) (by omega) (zxor ((h13.2 112 x12) % 64) (-1))
                refine zj_istore (L' := [some (.inr 108), some (.inr p1), some (.inl p2), some (.inl p3), some (.inl ((zshl 1 p2) - 1)), some (.inl x11), some (.inl x12), some (.inl (h13.2 112 x12)), some (.inl ((h13.2 112 x12) % 64)), some (.inl 0), some (.inl (zand ((zshl 1 p2) - 1) (zxor ((h13.2 112 x12) % 64) (-1)))), none, none, none, none]) (zdk ttX8_fewestCrossings 65 rfl rfl) (by decide) rfl ?_
                refine zj_iconst (zdk ttX8_fewestCrossings 66 rfl rfl) ?_
                refine zj_istore (L' := [some (.inr 108), some (.inr p1), some (.inl p2), some (.inl p3), some (.inl ((zshl 1 p2) - 1)), some (.inl x11), some (.inl x12), some (.inl (h13.2 112 x12)), some (.inl ((h13.2 112 x12) % 64)), some (.inl 0), some (.inl (zand ((zshl 1 p2) - 1) (zxor ((h13.2 112 x12) % 64) (-1)))), some (.inl 0), none, none, none]) (zdk ttX8_fewestCrossings 67 rfl rfl) (by decide) rfl ?_
                have lp13825 : ∀ (n : Nat) (x13279 x13280 : Int) (h13281 : zM), (1 ≤ x13279 ∧ x13279 ≤ 2147483647) → (0 ≤ x13280 ∧ x13280 ≤ 64) → okC h13281 → (65 - x13280).toNat < n → zJ shC l yX8_fewestCrossings cX8_fewestCrossings 15 (some .int) (rmL 2) 0 0 (q_X8_fewestCrossings h p1 p2 p3) 0 0 119 [some (.inr 108), some (.inr p1), some (.inl p2), some (.inl p3), some (.inl ((zshl 1 p2) - 1)), some (.inl x13279), some (.inl x12), some (.inl (h13.2 112 x12)), some (.inl ((h13.2 112 x12) % 64)), some (.inl 0), some (.inl (zand ((zshl 1 p2) - 1) (zxor ((h13.2 112 x12) % 64) (-1)))), some (.inl x13280), none, none, none] [] h13281 := by
                  intro n
                  induction n with
                  | zero => intro x13279 x13280 h13281 b13826 b13827 s13282 m13828; exact absurd m13828 (Nat.not_lt_zero _)
                  | succ n ih13829 =>
                    intro x13279 x13280 h13281 b13826 b13827 s13282 m13828
                    refine zj_iload (zdk ttX8_fewestCrossings 68 rfl rfl) rfl ?_
                    refine zj_iload (zdk ttX8_fewestCrossings 69 rfl rfl) rfl ?_
                    refine zj_icmp_gt (t := 257) (zdk ttX8_fewestCrossings 70 rfl rfl) (by decide) (by omega) (by omega) (fun c13830 => ?_) (fun c13830 => ?_)
                    · refine zj_iinc (L' := [some (.inr 108), some (.inr p1), some (.inl p2), some (.inl p3), some (.inl ((zshl 1 p2) - 1)), some (.inl x13279), some (.inl (x12 + 1)), some (.inl (h13.2 112 x12)), some (.inl ((h13.2 112 x12) % 64)), some (.inl 0), some (.inl (zand ((zshl 1 p2) - 1) (zxor ((h13.2 112 x12) % 64) (-1)))), some (.inl x13280), none, none, none]) (zdk ttX8_fewestCrossings 140 rfl rfl) rfl (by decide) rfl ?_
                      refine zj_goto (t := 35) (zdk ttX8_fewestCrossings 141 rfl rfl) (by decide) ?_
                      refine zj_kill (k := 7) (L' := [some (.inr 108), some (.inr p1), some (.inl p2), some (.inl p3), some (.inl ((zshl 1 p2) - 1)), some (.inl x13279), some (.inl (x12 + 1)), none, some (.inl ((h13.2 112 x12) % 64)), some (.inl 0), some (.inl (zand ((zshl 1 p2) - 1) (zxor ((h13.2 112 x12) % 64) (-1)))), some (.inl x13280), none, none, none]) rfl ?_
                      refine zj_kill (k := 8) (L' := [some (.inr 108), some (.inr p1), some (.inl p2), some (.inl p3), some (.inl ((zshl 1 p2) - 1)), some (.inl x13279), some (.inl (x12 + 1)), none, none, some (.inl 0), some (.inl (zand ((zshl 1 p2) - 1) (zxor ((h13.2 112 x12) % 64) (-1)))), some (.inl x13280), none, none, none]) rfl ?_
                      refine zj_kill (k := 9) (L' := [some (.inr 108), some (.inr p1), some (.inl p2), some (.inl p3), some (.inl ((zshl 1 p2) - 1)), some (.inl x13279), some (.inl (x12 + 1)), none, none, none, some (.inl (zand ((zshl 1 p2) - 1) (zxor ((h13.2 112 x12) % 64) (-1)))), some (.inl x13280), none, none, none]) rfl ?_
                      refine zj_kill (k := 10) (L' := [some (.inr 108), some (.inr p1), some (.inl p2), some (.inl p3), some (.inl ((zshl 1 p2) - 1)), some (.inl x13279), some (.inl (x12 + 1)), none, none, none, none, some (.inl x13280), none, none, none]) rfl ?_
                      refine zj_kill (k := 11) (L' := [some (.inr 108), some (.inr p1), some (.inl p2), some (.inl p3), some (.inl ((zshl 1 p2) - 1)), some (.inl x13279), some (.inl (x12 + 1)), none, none, none, none, none, none, none, none]) rfl ?_
                      exact ih13270  x13279 (x12 + 1) h13281 (by omega) (by omega) s13282 (by omega)
                    · refine zj_iload (zdk ttX8_fewestCrossings 71 rfl rfl) rfl ?_
                      refine zj_iload (zdk ttX8_fewestCrossings 72 rfl rfl) rfl ?_
                      refine zj_iconst (zdk ttX8_fewestCrossings 73 rfl rfl) ?_
                      refine zj_ixor (zdk ttX8_fewestCrossings 74 rfl rfl) ?_
                      have b13831 := zxor_in (zand ((zshl 1 p2) - 1) (zxor ((h13.2 112 x12) % 64) (-1))) (-1)
                      refine zj_iand (zdk ttX8_fewestCrossings 75 rfl rfl) ?_
                      have b13832 := zand_l (a := x13280) (by omega) (zxor (zand ((zshl 1 p2) - 1) (zxor ((h13.2 112 x12) % 64) (-1))) (-1))
                      refine zj_if_ne (t := 149) (zdk ttX8_fewestCrossings 76 rfl rfl) (by decide) (by omega) (fun c13833 => ?_) (fun c13833 => ?_)
                      · refine zj_iconst (zdk ttX8_fewestCrossings 83 rfl rfl) ?_
                        refine zj_istore (L' := [some (.inr 108), some (.inr p1), some (.inl p2), some (.inl p3), some (.inl ((zshl 1 p2) - 1)), some (.inl x13279), some (.inl x12), some (.inl (h13.2 112 x12)), some (.inl ((h13.2 112 x12) % 64)), some (.inl 0), some (.inl (zand ((zshl 1 p2) - 1) (zxor ((h13.2 112 x12) % 64) (-1)))), some (.inl x13280), some (.inl 0), none, none]) (zdk ttX8_fewestCrossings 84 rfl rfl) (by decide) rfl ?_
                        refine zj_iload (zdk ttX8_fewestCrossings 85 rfl rfl) rfl ?_
                        refine zj_iload (zdk ttX8_fewestCrossings 86 rfl rfl) rfl ?_
                        refine zj_ixor (zdk ttX8_fewestCrossings 87 rfl rfl) ?_
                        have b13834 := zxor_k (a := ((h13.2 112 x12) % 64)) (b := x13280) (K := 64) 6 (by decide) (by decide) (by omega) (by omega)
                        refine zj_iload (zdk ttX8_fewestCrossings 88 rfl rfl) rfl ?_
                        refine zj_if_eq (t := 166) (zdk ttX8_fewestCrossings 89 rfl rfl) (by decide) (by decide) (fun c13835 => ?_) (fun c13835 => ?_)
                        · refine zj_bipush (zdk ttX8_fewestCrossings 92 rfl rfl) (by decide) ?_
                          refine zj_iadd (zdk ttX8_fewestCrossings 93 rfl rfl) ?_
                          refine zj_istore (L' := [some (.inr 108), some (.inr p1), some (.inl p2), some (.inl p3), some (.inl ((zshl 1 p2) - 1)), some (.inl x13279), some (.inl x12), some (.inl (h13.2 112 x12)), some (.inl ((h13.2 112 x12) % 64)), some (.inl 0), some (.inl (zand ((zshl 1 p2) - 1) (zxor ((h13.2 112 x12) % 64) (-1)))), some (.inl x13280), some (.inl 0), some (.inl ((zxor ((h13.2 112 x12) % 64) x13280) + 64)), none]) (zdk ttX8_fewestCrossings 94 rfl rfl) (by decide) rfl ?_
                          refine zj_aload_n (zdk ttX8_fewestCrossings 95 rfl rfl) rfl (by decide) ?_
                          refine zj_getr (r := 111) (zdk ttX8_fewestCrossings 96 rfl rfl) zf_RX8_18 rfl (k_L108 s13282) (rf_L108_2 s13282) ?_
                          refine zj_iload (zdk ttX8_fewestCrossings 97 rfl rfl) rfl ?_
                          have b13836 : -2147483648 ≤ (h13281.2 111 ((zxor ((h13.2 112 x12) % 64) x13280) + 64)) ∧ (h13281.2 111 ((zxor ((h13.2 112 x12) % 64) x13280) + 64)) ≤ 2147483647 := ab_L108_2 s13282 ((zxor ((h13.2 112 x12) % 64) x13280) + 64)
                          refine zj_iald (v := (h13281.2 111 ((zxor ((h13.2 112 x12) % 64) x13280) + 64))) (zdk ttX8_fewestCrossings 98 rfl rfl) (ka_L108_2 s13282) (by decide) (by omega) rfl ?_
                          refine zj_iconst (zdk ttX8_fewestCrossings 99 rfl rfl) ?_
                          refine zj_icmp_ne (t := 196) (zdk ttX8_fewestCrossings 100 rfl rfl) (by decide) (by omega) (by decide) (fun c13837 => ?_) (fun c13837 => ?_)
                          · refine zj_iconst (zdk ttX8_fewestCrossings 108 rfl rfl) ?_
                            refine zj_istore (L' := [some (.inr 108), some (.inr p1), some (.inl p2), some (.inl p3), some (.inl ((zshl 1 p2) - 1)), some (.inl x13279), some (.inl x12), some (.inl (h13.2 112 x12)), some (.inl ((h13.2 112 x12) % 64)), some (.inl 0), some (.inl (zand ((zshl 1 p2) - 1) (zxor ((h13.2 112 x12) % 64) (-1)))), some (.inl x13280), some (.inl 0), some (.inl ((zxor ((h13.2 112 x12) % 64) x13280) + 64)), some (.inl 0)]) (zdk ttX8_fewestCrossings 109 rfl rfl) (by decide) rfl ?_
                            refine zj_iload (zdk ttX8_fewestCrossings 110 rfl rfl) rfl ?_
                            refine zj_if_eq (t := 251) (zdk ttX8_fewestCrossings 111 rfl rfl) (by decide) (by decide) (fun c13838 => ?_) (fun c13838 => ?_)
                            · refine zj_iinc (L' := [some (.inr 108), some (.inr p1), some (.inl p2), some (.inl p3), some (.inl ((zshl 1 p2) - 1)), some (.inl x13279), some (.inl x12), some (.inl (h13.2 112 x12)), some (.inl ((h13.2 112 x12) % 64)), some (.inl 0), some (.inl (zand ((zshl 1 p2) - 1) (zxor ((h13.2 112 x12) % 64) (-1)))), some (.inl (x13280 + 1)), some (.inl 0), some (.inl ((zxor ((h13.2 112 x12) % 64) x13280) + 64)), some (.inl 0)]) (zdk ttX8_fewestCrossings 138 rfl rfl) rfl (by decide) rfl ?_
                              refine zj_goto (t := 119) (zdk ttX8_fewestCrossings 139 rfl rfl) (by decide) ?_
                              refine zj_kill (k := 12) (L' := [some (.inr 108), some (.inr p1), some (.inl p2), some (.inl p3), some (.inl ((zshl 1 p2) - 1)), some (.inl x13279), some (.inl x12), some (.inl (h13.2 112 x12)), some (.inl ((h13.2 112 x12) % 64)), some (.inl 0), some (.inl (zand ((zshl 1 p2) - 1) (zxor ((h13.2 112 x12) % 64) (-1)))), some (.inl (x13280 + 1)), none, some (.inl ((zxor ((h13.2 112 x12) % 64) x13280) + 64)), some (.inl 0)]) rfl ?_
                              refine zj_kill (k := 13) (L' := [some (.inr 108), some (.inr p1), some (.inl p2), some (.inl p3), some (.inl ((zshl 1 p2) - 1)), some (.inl x13279), some (.inl x12), some (.inl (h13.2 112 x12)), some (.inl ((h13.2 112 x12) % 64)), some (.inl 0), some (.inl (zand ((zshl 1 p2) - 1) (zxor ((h13.2 112 x12) % 64) (-1)))), some (.inl (x13280 + 1)), none, none, some (.inl 0)]) rfl ?_
                              refine zj_kill (k := 14) (L' := [some (.inr 108), some (.inr p1), some (.inl p2), some (.inl p3), some (.inl ((zshl 1 p2) - 1)), some (.inl x13279), some (.inl x12), some (.inl (h13.2 112 x12)), some (.inl ((h13.2 112 x12) % 64)), some (.inl 0), some (.inl (zand ((zshl 1 p2) - 1) (zxor ((h13.2 112 x12) % 64) (-1)))), some (.inl (x13280 + 1)), none, none, none]) rfl ?_
                              exact ih13829  x13279 (x13280 + 1) h13281 (by omega) (by omega) s13282 (by omega)
                            · exact absurd c13838 (by omega)
                          · refine zj_iload (zdk ttX8_fewestCrossings 101 rfl rfl) rfl ?_
                            refine zj_aload_n (zdk ttX8_fewestCrossings 102 rfl rfl) rfl (by decide) ?_
                            refine zj_getr (r := 112) (zdk ttX8_fewestCrossings 103 rfl rfl) zf_RX8_21 rfl (k_L108 s13282) (rf_L108_3 s13282) ?_
                            refine zj_alen (zdk ttX8_fewestCrossings 104 rfl rfl) (ka_L108_3 s13282) ?_
                            refine zj_icmp_ge (t := 196) (zdk ttX8_fewestCrossings 105 rfl rfl) (by decide) (by omega) (by decide) (fun c13839 => ?_) (fun c13839 => ?_)
                            · refine zj_iconst (zdk ttX8_fewestCrossings 108 rfl rfl) ?_
                              refine zj_istore (L' := [some (.inr 108), some (.inr p1), some (.inl p2), some (.inl p3), some (.inl ((zshl 1 p2) - 1)), some (.inl x13279), some (.inl x12), some (.inl (h13.2 112 x12)), some (.inl ((h13.2 112 x12) % 64)), some (.inl 0), some (.inl (zand ((zshl 1 p2) - 1) (zxor ((h13.2 112 x12) % 64) (-1)))), some (.inl x13280), some (.inl 0), some (.inl ((zxor ((h13.2 112 x12) % 64) x13280) + 64)), some (.inl 0)]) (zdk ttX8_fewestCrossings 109 rfl rfl) (by decide) rfl ?_
                              refine zj_iload (zdk ttX8_fewestCrossings 110 rfl rfl) rfl ?_
                              refine zj_if_eq (t := 251) (zdk ttX8_fewestCrossings 111 rfl rfl) (by decide) (by decide) (fun c13840 => ?_) (fun c13840 => ?_)
                              · refine zj_iinc (L' := [some (.inr 108), some (.inr p1), some (.inl p2), some (.inl p3), some (.inl ((zshl 1 p2) - 1)), some (.inl x13279), some (.inl x12), some (.inl (h13.2 112 x12)), some (.inl ((h13.2 112 x12) % 64)), some (.inl 0), some (.inl (zand ((zshl 1 p2) - 1) (zxor ((h13.2 112 x12) % 64) (-1)))), some (.inl (x13280 + 1)), some (.inl 0), some (.inl ((zxor ((h13.2 112 x12) % 64) x13280) + 64)), some (.inl 0)]) (zdk ttX8_fewestCrossings 138 rfl rfl) rfl (by decide) rfl ?_
                                refine zj_goto (t := 119) (zdk ttX8_fewestCrossings 139 rfl rfl) (by decide) ?_
                                refine zj_kill (k := 12) (L' := [some (.inr 108), some (.inr p1), some (.inl p2), some (.inl p3), some (.inl ((zshl 1 p2) - 1)), some (.inl x13279), some (.inl x12), some (.inl (h13.2 112 x12)), some (.inl ((h13.2 112 x12) % 64)), some (.inl 0), some (.inl (zand ((zshl 1 p2) - 1) (zxor ((h13.2 112 x12) % 64) (-1)))), some (.inl (x13280 + 1)), none, some (.inl ((zxor ((h13.2 112 x12) % 64) x13280) + 64)), some (.inl 0)]) rfl ?_
                                refine zj_kill (k := 13) (L' := [some (.inr 108), some (.inr p1), some (.inl p2), some (.inl p3), some (.inl ((zshl 1 p2) - 1)), some (.inl x13279), some (.inl x12), some (.inl (h13.2 112 x12)), some (.inl ((h13.2 112 x12) % 64)), some (.inl 0), some (.inl (zand ((zshl 1 p2) - 1) (zxor ((h13.2 112 x12) % 64) (-1)))), some (.inl (x13280 + 1)), none, none, some (.inl 0)]) rfl ?_
                                refine zj_kill (k := 14) (L' := [some (.inr 108), some (.inr p1), some (.inl p2), some (.inl p3), some (.inl ((zshl 1 p2) - 1)), some (.inl x13279), some (.inl x12), some (.inl (h13.2 112 x12)), some (.inl ((h13.2 112 x12) % 64)), some (.inl 0), some (.inl (zand ((zshl 1 p2) - 1) (zxor ((h13.2 112 x12) % 64) (-1)))), some (.inl (x13280 + 1)), none, none, none]) rfl ?_
                                exact ih13829  x13279 (x13280 + 1) h13281 (by omega) (by omega) s13282 (by omega)
                              · exact absurd c13840 (by omega)
                            · refine zj_iconst (zdk ttX8_fewestCrossings 106 rfl rfl) ?_
                              refine zj_goto (t := 197) (zdk ttX8_fewestCrossings 107 rfl rfl) (by decide) ?_
                              refine zj_istore (L' := [some (.inr 108), some (.inr p1), some (.inl p2), some (.inl p3), some (.inl ((zshl 1 p2) - 1)), some (.inl x13279), some (.inl x12), some (.inl (h13.2 112 x12)), some (.inl ((h13.2 112 x12) % 64)), some (.inl 0), some (.inl (zand ((zshl 1 p2) - 1) (zxor ((h13.2 112 x12) % 64) (-1)))), some (.inl x13280), some (.inl 0), some (.inl ((zxor ((h13.2 112 x12) % 64) x13280) + 64)), some (.inl 1)]) (zdk ttX8_fewestCrossings 109 rfl rfl) (by decide) rfl ?_
                              refine zj_iload (zdk ttX8_fewestCrossings 110 rfl rfl) rfl ?_
                              refine zj_if_eq (t := 251) (zdk ttX8_fewestCrossings 111 rfl rfl) (by decide) (by decide) (fun c13841 => ?_) (fun c13841 => ?_)
                              · refine zj_iinc (L' := [some (.inr 108), some (.inr p1), some (.inl p2), some (.inl p3), some (.inl ((zshl 1 p2) - 1)), some (.inl x13279), some (.inl x12), some (.inl (h13.2 112 x12)), some (.inl ((h13.2 112 x12) % 64)), some (.inl 0), some (.inl (zand ((zshl 1 p2) - 1) (zxor ((h13.2 112 x12) % 64) (-1)))), some (.inl (x13280 + 1)), some (.inl 0), some (.inl ((zxor ((h13.2 112 x12) % 64) x13280) + 64)), some (.inl 1)]) (zdk ttX8_fewestCrossings 138 rfl rfl) rfl (by decide) rfl ?_
                                refine zj_goto (t := 119) (zdk ttX8_fewestCrossings 139 rfl rfl) (by decide) ?_
                                refine zj_kill (k := 12) (L' := [some (.inr 108), some (.inr p1), some (.inl p2), some (.inl p3), some (.inl ((zshl 1 p2) - 1)), some (.inl x13279), some (.inl x12), some (.inl (h13.2 112 x12)), some (.inl ((h13.2 112 x12) % 64)), some (.inl 0), some (.inl (zand ((zshl 1 p2) - 1) (zxor ((h13.2 112 x12) % 64) (-1)))), some (.inl (x13280 + 1)), none, some (.inl ((zxor ((h13.2 112 x12) % 64) x13280) + 64)), some (.inl 1)]) rfl ?_
                                refine zj_kill (k := 13) (L' := [some (.inr 108), some (.inr p1), some (.inl p2), some (.inl p3), some (.inl ((zshl 1 p2) - 1)), some (.inl x13279), some (.inl x12), some (.inl (h13.2 112 x12)), some (.inl ((h13.2 112 x12) % 64)), some (.inl 0), some (.inl (zand ((zshl 1 p2) - 1) (zxor ((h13.2 112 x12) % 64) (-1)))), some (.inl (x13280 + 1)), none, none, some (.inl 1)]) rfl ?_
                                refine zj_kill (k := 14) (L' := [some (.inr 108), some (.inr p1), some (.inl p2), some (.inl p3), some (.inl ((zshl 1 p2) - 1)), some (.inl x13279), some (.inl x12), some (.inl (h13.2 112 x12)), some (.inl ((h13.2 112 x12) % 64)), some (.inl 0), some (.inl (zand ((zshl 1 p2) - 1) (zxor ((h13.2 112 x12) % 64) (-1)))), some (.inl (x13280 + 1)), none, none, none]) rfl ?_
                                exact ih13829  x13279 (x13280 + 1) h13281 (by omega) (by omega) s13282 (by omega)
                              · exact absurd c13841 (by omega)
                        · exact absurd c13835 (by omega)
                      · refine zj_iload (zdk ttX8_fewestCrossings 77 rfl rfl) rfl ?_
                        refine zj_callS (av := [.inl x13280]) (st := []) (zdk ttX8_fewestCrossings 78 rfl rfl) mb_J6_bitCount_0f7a4 ms_RX8_46 rfl rfl (Nat.le_of_ble_eq_true rfl) (s_J6_bitCount_0f7a4 shC l h13281 x13280) (rm_ok (by decide) (by decide)) (zq_i fun v13842 h13843 q13844 => ?_)
                        obtain ⟨rfl, b13845⟩ := q13844
                        refine zj_iload_n (zdk ttX8_fewestCrossings 79 rfl rfl) rfl ?_
                        refine zj_icmp_gt (t := 149) (zdk ttX8_fewestCrossings 80 rfl rfl) (by decide) (by omega) (by omega) (fun c13846 => ?_) (fun c13846 => ?_)
                        · refine zj_iconst (zdk ttX8_fewestCrossings 83 rfl rfl) ?_
                          refine zj_istore (L' := [some (.inr 108), some (.inr p1), some (.inl p2), some (.inl p3), some (.inl ((zshl 1 p2) - 1)), some (.inl x13279), some (.inl x12), some (.inl (h13.2 112 x12)), some (.inl ((h13.2 112 x12) % 64)), some (.inl 0), some (.inl (zand ((zshl 1 p2) - 1) (zxor ((h13.2 112 x12) % 64) (-1)))), some (.inl x13280), some (.inl 0), none, none]) (zdk ttX8_fewestCrossings 84 rfl rfl) (by decide) rfl ?_
                          refine zj_iload (zdk ttX8_fewestCrossings 85 rfl rfl) rfl ?_
                          refine zj_iload (zdk ttX8_fewestCrossings 86 rfl rfl) rfl ?_
                          refine zj_ixor (zdk ttX8_fewestCrossings 87 rfl rfl) ?_
                          have b13847 := zxor_k (a := ((h13.2 112 x12) % 64)) (b := x13280) (K := 64) 6 (by decide) (by decide) (by omega) (by omega)
                          refine zj_iload (zdk ttX8_fewestCrossings 88 rfl rfl) rfl ?_
                          refine zj_if_eq (t := 166) (zdk ttX8_fewestCrossings 89 rfl rfl) (by decide) (by decide) (fun c13848 => ?_) (fun c13848 => ?_)
                          · refine zj_bipush (zdk ttX8_fewestCrossings 92 rfl rfl) (by decide) ?_
                            refine zj_iadd (zdk ttX8_fewestCrossings 93 rfl rfl) ?_
                            refine zj_istore (L' := [some (.inr 108), some (.inr p1), some (.inl p2), some (.inl p3), some (.inl ((zshl 1 p2) - 1)), some (.inl x13279), some (.inl x12), some (.inl (h13.2 112 x12)), some (.inl ((h13.2 112 x12) % 64)), some (.inl 0), some (.inl (zand ((zshl 1 p2) - 1) (zxor ((h13.2 112 x12) % 64) (-1)))), some (.inl x13280), some (.inl 0), some (.inl ((zxor ((h13.2 112 x12) % 64) x13280) + 64)), none]) (zdk ttX8_fewestCrossings 94 rfl rfl) (by decide) rfl ?_
                            refine zj_aload_n (zdk ttX8_fewestCrossings 95 rfl rfl) rfl (by decide) ?_
                            refine zj_getr (r := 111) (zdk ttX8_fewestCrossings 96 rfl rfl) zf_RX8_18 rfl (k_L108 s13282) (rf_L108_2 s13282) ?_
                            refine zj_iload (zdk ttX8_fewestCrossings 97 rfl rfl) rfl ?_
                            have b13849 : -2147483648 ≤ (h13281.2 111 ((zxor ((h13.2 112 x12) % 64) x13280) + 64)) ∧ (h13281.2 111 ((zxor ((h13.2 112 x12) % 64) x13280) + 64)) ≤ 2147483647 := ab_L108_2 s13282 ((zxor ((h13.2 112 x12) % 64) x13280) + 64)
                            refine zj_iald (v := (h13281.2 111 ((zxor ((h13.2 112 x12) % 64) x13280) + 64))) (zdk ttX8_fewestCrossings 98 rfl rfl) (ka_L108_2 s13282) (by decide) (by omega) rfl ?_
                            refine zj_iconst (zdk ttX8_fewestCrossings 99 rfl rfl) ?_
                            refine zj_icmp_ne (t := 196) (zdk ttX8_fewestCrossings 100 rfl rfl) (by decide) (by omega) (by decide) (fun c13850 => ?_) (fun c13850 => ?_)
                            · refine zj_iconst (zdk ttX8_fewestCrossings 108 rfl rfl) ?_
                              refine zj_istore (L' := [some (.inr 108), some (.inr p1), some (.inl p2), some (.inl p3), some (.inl ((zshl 1 p2) - 1)), some (.inl x13279), some (.inl x12), some (.inl (h13.2 112 x12)), some (.inl ((h13.2 112 x12) % 64)), some (.inl 0), some (.inl (zand ((zshl 1 p2) - 1) (zxor ((h13.2 112 x12) % 64) (-1)))), some (.inl x13280), some (.inl 0), some (.inl ((zxor ((h13.2 112 x12) % 64) x13280) + 64)), some (.inl 0)]) (zdk ttX8_fewestCrossings 109 rfl rfl) (by decide) rfl ?_
                              refine zj_iload (zdk ttX8_fewestCrossings 110 rfl rfl) rfl ?_
                              refine zj_if_eq (t := 251) (zdk ttX8_fewestCrossings 111 rfl rfl) (by decide) (by decide) (fun c13851 => ?_) (fun c13851 => ?_)
                              · refine zj_iinc (L' := [some (.inr 108), some (.inr p1), some (.inl p2), some (.inl p3), some (.inl ((zshl 1 p2) - 1)), some (.inl x13279), some (.inl x12), some (.inl (h13.2 112 x12)), some (.inl ((h13.2 112 x12) % 64)), some (.inl 0), some (.inl (zand ((zshl 1 p2) - 1) (zxor ((h13.2 112 x12) % 64) (-1)))), some (.inl (x13280 + 1)), some (.inl 0), some (.inl ((zxor ((h13.2 112 x12) % 64) x13280) + 64)), some (.inl 0)]) (zdk ttX8_fewestCrossings 138 rfl rfl) rfl (by decide) rfl ?_
                                refine zj_goto (t := 119) (zdk ttX8_fewestCrossings 139 rfl rfl) (by decide) ?_
                                refine zj_kill (k := 12) (L' := [some (.inr 108), some (.inr p1), some (.inl p2), some (.inl p3), some (.inl ((zshl 1 p2) - 1)), some (.inl x13279), some (.inl x12), some (.inl (h13.2 112 x12)), some (.inl ((h13.2 112 x12) % 64)), some (.inl 0), some (.inl (zand ((zshl 1 p2) - 1) (zxor ((h13.2 112 x12) % 64) (-1)))), some (.inl (x13280 + 1)), none, some (.inl ((zxor ((h13.2 112 x12) % 64) x13280) + 64)), some (.inl 0)]) rfl ?_
                                refine zj_kill (k := 13) (L' := [some (.inr 108), some (.inr p1), some (.inl p2), some (.inl p3), some (.inl ((zshl 1 p2) - 1)), some (.inl x13279), some (.inl x12), some (.inl (h13.2 112 x12)), some (.inl ((h13.2 112 x12) % 64)), some (.inl 0), some (.inl (zand ((zshl 1 p2) - 1) (zxor ((h13.2 112 x12) % 64) (-1)))), some (.inl (x13280 + 1)), none, none, some (.inl 0)]) rfl ?_
                                refine zj_kill (k := 14) (L' := [some (.inr 108), some (.inr p1), some (.inl p2), some (.inl p3), some (.inl ((zshl 1 p2) - 1)), some (.inl x13279), some (.inl x12), some (.inl (h13.2 112 x12)), some (.inl ((h13.2 112 x12) % 64)), some (.inl 0), some (.inl (zand ((zshl 1 p2) - 1) (zxor ((h13.2 112 x12) % 64) (-1)))), some (.inl (x13280 + 1)), none, none, none]) rfl ?_
                                exact ih13829  x13279 (x13280 + 1) h13281 (by omega) (by omega) s13282 (by omega)
                              · exact absurd c13851 (by omega)
                            · refine zj_iload (zdk ttX8_fewestCrossings 101 rfl rfl) rfl ?_
                              refine zj_aload_n (zdk ttX8_fewestCrossings 102 rfl rfl) rfl (by decide) ?_
                              refine zj_getr (r := 112) (zdk ttX8_fewestCrossings 103 rfl rfl) zf_RX8_21 rfl (k_L108 s13282) (rf_L108_3 s13282) ?_
                              refine zj_alen (zdk ttX8_fewestCrossings 104 rfl rfl) (ka_L108_3 s13282) ?_
                              refine zj_icmp_ge (t := 196) (zdk ttX8_fewestCrossings 105 rfl rfl) (by decide) (by omega) (by decide) (fun c13852 => ?_) (fun c13852 => ?_)
                              · refine zj_iconst (zdk ttX8_fewestCrossings 108 rfl rfl) ?_
                                refine zj_istore (L' := [some (.inr 108), some (.inr p1), some (.inl p2), some (.inl p3), some (.inl ((zshl 1 p2) - 1)), some (.inl x13279), some (.inl x12), some (.inl (h13.2 112 x12)), some (.inl ((h13.2 112 x12) % 64)), some (.inl 0), some (.inl (zand ((zshl 1 p2) - 1) (zxor ((h13.2 112 x12) % 64) (-1)))), some (.inl x13280), some (.inl 0), some (.inl ((zxor ((h13.2 112 x12) % 64) x13280) + 64)), some (.inl 0)]) (zdk ttX8_fewestCrossings 109 rfl rfl) (by decide) rfl ?_
                                refine zj_iload (zdk ttX8_fewestCrossings 110 rfl rfl) rfl ?_
                                refine zj_if_eq (t := 251) (zdk ttX8_fewestCrossings 111 rfl rfl) (by decide) (by decide) (fun c13853 => ?_) (fun c13853 => ?_)
                                · refine zj_iinc (L' := [some (.inr 108), some (.inr p1), some (.inl p2), some (.inl p3), some (.inl ((zshl 1 p2) - 1)), some (.inl x13279), some (.inl x12), some (.inl (h13.2 112 x12)), some (.inl ((h13.2 112 x12) % 64)), some (.inl 0), some (.inl (zand ((zshl 1 p2) - 1) (zxor ((h13.2 112 x12) % 64) (-1)))), some (.inl (x13280 + 1)), some (.inl 0), some (.inl ((zxor ((h13.2 112 x12) % 64) x13280) + 64)), some (.inl 0)]) (zdk ttX8_fewestCrossings 138 rfl rfl) rfl (by decide) rfl ?_
                                  refine zj_goto (t := 119) (zdk ttX8_fewestCrossings 139 rfl rfl) (by decide) ?_
                                  refine zj_kill (k := 12) (L' := [some (.inr 108), some (.inr p1), some (.inl p2), some (.inl p3), some (.inl ((zshl 1 p2) - 1)), some (.inl x13279), some (.inl x12), some (.inl (h13.2 112 x12)), some (.inl ((h13.2 112 x12) % 64)), some (.inl 0), some (.inl (zand ((zshl 1 p2) - 1) (zxor ((h13.2 112 x12) % 64) (-1)))), some (.inl (x13280 + 1)), none, some (.inl ((zxor ((h13.2 112 x12) % 64) x13280) + 64)), some (.inl 0)]) rfl ?_
                                  refine zj_kill (k := 13) (L' := [some (.inr 108), some (.inr p1), some (.inl p2), some (.inl p3), some (.inl ((zshl 1 p2) - 1)), some (.inl x13279), some (.inl x12), some (.inl (h13.2 112 x12)), some (.inl ((h13.2 112 x12) % 64)), some (.inl 0), some (.inl (zand ((zshl 1 p2) - 1) (zxor ((h13.2 112 x12) % 64) (-1)))), some (.inl (x13280 + 1)), none, none, some (.inl 0)]) rfl ?_
                                  refine zj_kill (k := 14) (L' := [some (.inr 108), some (.inr p1), some (.inl p2), some (.inl p3), some (.inl ((zshl 1 p2) - 1)), some (.inl x13279), some (.inl x12), some (.inl (h13.2 112 x12)), some (.inl ((h13.2 112 x12) % 64)), some (.inl 0), some (.inl (zand ((zshl 1 p2) - 1) (zxor ((h13.2 112 x12) % 64) (-1)))), some (.inl (x13280 + 1)), none, none, none]) rfl ?_
                                  exact ih13829  x13279 (x13280 + 1) h13281 (by omega) (by omega) s13282 (by omega)
                                · exact absurd c13853 (by omega)
                              · refine zj_iconst (zdk ttX8_fewestCrossings 106 rfl rfl) ?_
                                refine zj_goto (t := 197) (zdk ttX8_fewestCrossings 107 rfl rfl) (by decide) ?_
                                refine zj_istore (L' := [some (.inr 108), some (.inr p1), some (.inl p2), some (.inl p3), some (.inl ((zshl 1 p2) - 1)), some (.inl x13279), some (.inl x12), some (.inl (h13.2 112 x12)), some (.inl ((h13.2 112 x12) % 64)), some (.inl 0), some (.inl (zand ((zshl 1 p2) - 1) (zxor ((h13.2 112 x12) % 64) (-1)))), some (.inl x13280), some (.inl 0), some (.inl ((zxor ((h13.2 112 x12) % 64) x13280) + 64)), some (.inl 1)]) (zdk ttX8_fewestCrossings 109 rfl rfl) (by decide) rfl ?_
                                refine zj_iload (zdk ttX8_fewestCrossings 110 rfl rfl) rfl ?_
                                refine zj_if_eq (t := 251) (zdk ttX8_fewestCrossings 111 rfl rfl) (by decide) (by decide) (fun c13854 => ?_) (fun c13854 => ?_)
                                · refine zj_iinc (L' := [some (.inr 108), some (.inr p1), some (.inl p2), some (.inl p3), some (.inl ((zshl 1 p2) - 1)), some (.inl x13279), some (.inl x12), some (.inl (h13.2 112 x12)), some (.inl ((h13.2 112 x12) % 64)), some (.inl 0), some (.inl (zand ((zshl 1 p2) - 1) (zxor ((h13.2 112 x12) % 64) (-1)))), some (.inl (x13280 + 1)), some (.inl 0), some (.inl ((zxor ((h13.2 112 x12) % 64) x13280) + 64)), some (.inl 1)]) (zdk ttX8_fewestCrossings 138 rfl rfl) rfl (by decide) rfl ?_
                                  refine zj_goto (t := 119) (zdk ttX8_fewestCrossings 139 rfl rfl) (by decide) ?_
                                  refine zj_kill (k := 12) (L' := [some (.inr 108), some (.inr p1), some (.inl p2), some (.inl p3), some (.inl ((zshl 1 p2) - 1)), some (.inl x13279), some (.inl x12), some (.inl (h13.2 112 x12)), some (.inl ((h13.2 112 x12) % 64)), some (.inl 0), some (.inl (zand ((zshl 1 p2) - 1) (zxor ((h13.2 112 x12) % 64) (-1)))), some (.inl (x13280 + 1)), none, some (.inl ((zxor ((h13.2 112 x12) % 64) x13280) + 64)), some (.inl 1)]) rfl ?_
                                  refine zj_kill (k := 13) (L' := [some (.inr 108), some (.inr p1), some (.inl p2), some (.inl p3), some (.inl ((zshl 1 p2) - 1)), some (.inl x13279), some (.inl x12), some (.inl (h13.2 112 x12)), some (.inl ((h13.2 112 x12) % 64)), some (.inl 0), some (.inl (zand ((zshl 1 p2) - 1) (zxor ((h13.2 112 x12) % 64) (-1)))), some (.inl (x13280 + 1)), none, none, some (.inl 1)]) rfl ?_
                                  refine zj_kill (k := 14) (L' := [some (.inr 108), some (.inr p1), some (.inl p2), some (.inl p3), some (.inl ((zshl 1 p2) - 1)), some (.inl x13279), some (.inl x12), some (.inl (h13.2 112 x12)), some (.inl ((h13.2 112 x12) % 64)), some (.inl 0), some (.inl (zand ((zshl 1 p2) - 1) (zxor ((h13.2 112 x12) % 64) (-1)))), some (.inl (x13280 + 1)), none, none, none]) rfl ?_
                                  exact ih13829  x13279 (x13280 + 1) h13281 (by omega) (by omega) s13282 (by omega)
                                · exact absurd c13854 (by omega)
                          · exact absurd c13848 (by omega)
                        · refine zj_iconst (zdk ttX8_fewestCrossings 81 rfl rfl) ?_
                          refine zj_goto (t := 150) (zdk ttX8_fewestCrossings 82 rfl rfl) (by decide) ?_
                          refine zj_istore (L' := [some (.inr 108), some (.inr p1), some (.inl p2), some (.inl p3), some (.inl ((zshl 1 p2) - 1)), some (.inl x13279), some (.inl x12), some (.inl (h13.2 112 x12)), some (.inl ((h13.2 112 x12) % 64)), some (.inl 0), some (.inl (zand ((zshl 1 p2) - 1) (zxor ((h13.2 112 x12) % 64) (-1)))), some (.inl x13280), some (.inl 1), none, none]) (zdk ttX8_fewestCrossings 84 rfl rfl) (by decide) rfl ?_
                          refine zj_iload (zdk ttX8_fewestCrossings 85 rfl rfl) rfl ?_
                          refine zj_iload (zdk ttX8_fewestCrossings 86 rfl rfl) rfl ?_
                          refine zj_ixor (zdk ttX8_fewestCrossings 87 rfl rfl) ?_
                          have b13855 := zxor_k (a := ((h13.2 112 x12) % 64)) (b := x13280) (K := 64) 6 (by decide) (by decide) (by omega) (by omega)
                          refine zj_iload (zdk ttX8_fewestCrossings 88 rfl rfl) rfl ?_
                          refine zj_if_eq (t := 166) (zdk ttX8_fewestCrossings 89 rfl rfl) (by decide) (by decide) (fun c13856 => ?_) (fun c13856 => ?_)
                          · refine zj_bipush (zdk ttX8_fewestCrossings 92 rfl rfl) (by decide) ?_
                            refine zj_iadd (zdk ttX8_fewestCrossings 93 rfl rfl) ?_
                            refine zj_istore (L' := [some (.inr 108), some (.inr p1), some (.inl p2), some (.inl p3), some (.inl ((zshl 1 p2) - 1)), some (.inl x13279), some (.inl x12), some (.inl (h13.2 112 x12)), some (.inl ((h13.2 112 x12) % 64)), some (.inl 0), some (.inl (zand ((zshl 1 p2) - 1) (zxor ((h13.2 112 x12) % 64) (-1)))), some (.inl x13280), some (.inl 1), some (.inl ((zxor ((h13.2 112 x12) % 64) x13280) + 64)), none]) (zdk ttX8_fewestCrossings 94 rfl rfl) (by decide) rfl ?_
                            refine zj_aload_n (zdk ttX8_fewestCrossings 95 rfl rfl) rfl (by decide) ?_
                            refine zj_getr (r := 111) (zdk ttX8_fewestCrossings 96 rfl rfl) zf_RX8_18 rfl (k_L108 s13282) (rf_L108_2 s13282) ?_
                            refine zj_iload (zdk ttX8_fewestCrossings 97 rfl rfl) rfl ?_
                            have b13857 : -2147483648 ≤ (h13281.2 111 ((zxor ((h13.2 112 x12) % 64) x13280) + 64)) ∧ (h13281.2 111 ((zxor ((h13.2 112 x12) % 64) x13280) + 64)) ≤ 2147483647 := ab_L108_2 s13282 ((zxor ((h13.2 112 x12) % 64) x13280) + 64)
                            refine zj_iald (v := (h13281.2 111 ((zxor ((h13.2 112 x12) % 64) x13280) + 64))) (zdk ttX8_fewestCrossings 98 rfl rfl) (ka_L108_2 s13282) (by decide) (by omega) rfl ?_
                            refine zj_iconst (zdk ttX8_fewestCrossings 99 rfl rfl) ?_
                            refine zj_icmp_ne (t := 196) (zdk ttX8_fewestCrossings 100 rfl rfl) (by decide) (by omega) (by decide) (fun c13858 => ?_) (fun c13858 => ?_)
                            · refine zj_iconst (zdk ttX8_fewestCrossings 108 rfl rfl) ?_
                              refine zj_istore (L' := [some (.inr 108), some (.inr p1), some (.inl p2), some (.inl p3), some (.inl ((zshl 1 p2) - 1)), some (.inl x13279), some (.inl x12), some (.inl (h13.2 112 x12)), some (.inl ((h13.2 112 x12) % 64)), some (.inl 0), some (.inl (zand ((zshl 1 p2) - 1) (zxor ((h13.2 112 x12) % 64) (-1)))), some (.inl x13280), some (.inl 1), some (.inl ((zxor ((h13.2 112 x12) % 64) x13280) + 64)), some (.inl 0)]) (zdk ttX8_fewestCrossings 109 rfl rfl) (by decide) rfl ?_
                              refine zj_iload (zdk ttX8_fewestCrossings 110 rfl rfl) rfl ?_
                              refine zj_if_eq (t := 251) (zdk ttX8_fewestCrossings 111 rfl rfl) (by decide) (by decide) (fun c13859 => ?_) (fun c13859 => ?_)
                              · exact absurd c13859 (by omega)
                              · refine zj_iload (zdk ttX8_fewestCrossings 112 rfl rfl) rfl ?_
                                refine zj_if_eq (t := 251) (zdk ttX8_fewestCrossings 113 rfl rfl) (by decide) (by decide) (fun c13860 => ?_) (fun c13860 => ?_)
                                · refine zj_iinc (L' := [some (.inr 108), some (.inr p1), some (.inl p2), some (.inl p3), some (.inl ((zshl 1 p2) - 1)), some (.inl x13279), some (.inl x12), some (.inl (h13.2 112 x12)), some (.inl ((h13.2 112 x12) % 64)), some (.inl 0), some (.inl (zand ((zshl 1 p2) - 1) (zxor ((h13.2 112 x12) % 64) (-1)))), some (.inl (x13280 + 1)), some (.inl 1), some (.inl ((zxor ((h13.2 112 x12) % 64) x13280) + 64)), some (.inl 0)]) (zdk ttX8_fewestCrossings 138 rfl rfl) rfl (by decide) rfl ?_
                                  refine zj_goto (t := 119) (zdk ttX8_fewestCrossings 139 rfl rfl) (by decide) ?_
                                  refine zj_kill (k := 12) (L' := [some (.inr 108), some (.inr p1), some (.inl p2), some (.inl p3), some (.inl ((zshl 1 p2) - 1)), some (.inl x13279), some (.inl x12), some (.inl (h13.2 112 x12)), some (.inl ((h13.2 112 x12) % 64)), some (.inl 0), some (.inl (zand ((zshl 1 p2) - 1) (zxor ((h13.2 112 x12) % 64) (-1)))), some (.inl (x13280 + 1)), none, some (.inl ((zxor ((h13.2 112 x12) % 64) x13280) + 64)), some (.inl 0)]) rfl ?_
                                  refine zj_kill (k := 13) (L' := [some (.inr 108), some (.inr p1), some (.inl p2), some (.inl p3), some (.inl ((zshl 1 p2) - 1)), some (.inl x13279), some (.inl x12), some (.inl (h13.2 112 x12)), some (.inl ((h13.2 112 x12) % 64)), some (.inl 0), some (.inl (zand ((zshl 1 p2) - 1) (zxor ((h13.2 112 x12) % 64) (-1)))), some (.inl (x13280 + 1)), none, none, some (.inl 0)]) rfl ?_
                                  refine zj_kill (k := 14) (L' := [some (.inr 108), some (.inr p1), some (.inl p2), some (.inl p3), some (.inl ((zshl 1 p2) - 1)), some (.inl x13279), some (.inl x12), some (.inl (h13.2 112 x12)), some (.inl ((h13.2 112 x12) % 64)), some (.inl 0), some (.inl (zand ((zshl 1 p2) - 1) (zxor ((h13.2 112 x12) % 64) (-1)))), some (.inl (x13280 + 1)), none, none, none]) rfl ?_
                                  exact ih13829  x13279 (x13280 + 1) h13281 (by omega) (by omega) s13282 (by omega)
                                · exact absurd c13860 (by omega)
                            · refine zj_iload (zdk ttX8_fewestCrossings 101 rfl rfl) rfl ?_
                              refine zj_aload_n (zdk ttX8_fewestCrossings 102 rfl rfl) rfl (by decide) ?_
                              refine zj_getr (r := 112) (zdk ttX8_fewestCrossings 103 rfl rfl) zf_RX8_21 rfl (k_L108 s13282) (rf_L108_3 s13282) ?_
                              refine zj_alen (zdk ttX8_fewestCrossings 104 rfl rfl) (ka_L108_3 s13282) ?_
                              refine zj_icmp_ge (t := 196) (zdk ttX8_fewestCrossings 105 rfl rfl) (by decide) (by omega) (by decide) (fun c13861 => ?_) (fun c13861 => ?_)
                              · refine zj_iconst (zdk ttX8_fewestCrossings 108 rfl rfl) ?_
                                refine zj_istore (L' := [some (.inr 108), some (.inr p1), some (.inl p2), some (.inl p3), some (.inl ((zshl 1 p2) - 1)), some (.inl x13279), some (.inl x12), some (.inl (h13.2 112 x12)), some (.inl ((h13.2 112 x12) % 64)), some (.inl 0), some (.inl (zand ((zshl 1 p2) - 1) (zxor ((h13.2 112 x12) % 64) (-1)))), some (.inl x13280), some (.inl 1), some (.inl ((zxor ((h13.2 112 x12) % 64) x13280) + 64)), some (.inl 0)]) (zdk ttX8_fewestCrossings 109 rfl rfl) (by decide) rfl ?_
                                refine zj_iload (zdk ttX8_fewestCrossings 110 rfl rfl) rfl ?_
                                refine zj_if_eq (t := 251) (zdk ttX8_fewestCrossings 111 rfl rfl) (by decide) (by decide) (fun c13862 => ?_) (fun c13862 => ?_)
                                · exact absurd c13862 (by omega)
                                · refine zj_iload (zdk ttX8_fewestCrossings 112 rfl rfl) rfl ?_
                                  refine zj_if_eq (t := 251) (zdk ttX8_fewestCrossings 113 rfl rfl) (by decide) (by decide) (fun c13863 => ?_) (fun c13863 => ?_)
                                  · refine zj_iinc (L' := [some (.inr 108), some (.inr p1), some (.inl p2), some (.inl p3), some (.inl ((zshl 1 p2) - 1)), some (.inl x13279), some (.inl x12), some (.inl (h13.2 112 x12)), some (.inl ((h13.2 112 x12) % 64)), some (.inl 0), some (.inl (zand ((zshl 1 p2) - 1) (zxor ((h13.2 112 x12) % 64) (-1)))), some (.inl (x13280 + 1)), some (.inl 1), some (.inl ((zxor ((h13.2 112 x12) % 64) x13280) + 64)), some (.inl 0)]) (zdk ttX8_fewestCrossings 138 rfl rfl) rfl (by decide) rfl ?_
                                    refine zj_goto (t := 119) (zdk ttX8_fewestCrossings 139 rfl rfl) (by decide) ?_
                                    refine zj_kill (k := 12) (L' := [some (.inr 108), some (.inr p1), some (.inl p2), some (.inl p3), some (.inl ((zshl 1 p2) - 1)), some (.inl x13279), some (.inl x12), some (.inl (h13.2 112 x12)), some (.inl ((h13.2 112 x12) % 64)), some (.inl 0), some (.inl (zand ((zshl 1 p2) - 1) (zxor ((h13.2 112 x12) % 64) (-1)))), some (.inl (x13280 + 1)), none, some (.inl ((zxor ((h13.2 112 x12) % 64) x13280) + 64)), some (.inl 0)]) rfl ?_
                                    refine zj_kill (k := 13) (L' := [some (.inr 108), some (.inr p1), some (.inl p2), some (.inl p3), some (.inl ((zshl 1 p2) - 1)), some (.inl x13279), some (.inl x12), some (.inl (h13.2 112 x12)), some (.inl ((h13.2 112 x12) % 64)), some (.inl 0), some (.inl (zand ((zshl 1 p2) - 1) (zxor ((h13.2 112 x12) % 64) (-1)))), some (.inl (x13280 + 1)), none, none, some (.inl 0)]) rfl ?_
                                    refine zj_kill (k := 14) (L' := [some (.inr 108), some (.inr p1), some (.inl p2), some (.inl p3), some (.inl ((zshl 1 p2) - 1)), some (.inl x13279), some (.inl x12), some (.inl (h13.2 112 x12)), some (.inl ((h13.2 112 x12) % 64)), some (.inl 0), some (.inl (zand ((zshl 1 p2) - 1) (zxor ((h13.2 112 x12) % 64) (-1)))), some (.inl (x13280 + 1)), none, none, none]) rfl ?_
                                    exact ih13829  x13279 (x13280 + 1) h13281 (by omega) (by omega) s13282 (by omega)
                                  · exact absurd c13863 (by omega)
                              · refine zj_iconst (zdk ttX8_fewestCrossings 106 rfl rfl) ?_
                                refine zj_goto (t := 197) (zdk ttX8_fewestCrossings 107 rfl rfl) (by decide) ?_
                                refine zj_istore (L' := [some (.inr 108), some (.inr p1), some (.inl p2), some (.inl p3), some (.inl ((zshl 1 p2) - 1)), some (.inl x13279), some (.inl x12), some (.inl (h13.2 112 x12)), some (.inl ((h13.2 112 x12) % 64)), some (.inl 0), some (.inl (zand ((zshl 1 p2) - 1) (zxor ((h13.2 112 x12) % 64) (-1)))), some (.inl x13280), some (.inl 1), some (.inl ((zxor ((h13.2 112 x12) % 64) x13280) + 64)), some (.inl 1)]) (zdk ttX8_fewestCrossings 109 rfl rfl) (by decide) rfl ?_
                                refine zj_iload (zdk ttX8_fewestCrossings 110 rfl rfl) rfl ?_
                                refine zj_if_eq (t := 251) (zdk ttX8_fewestCrossings 111 rfl rfl) (by decide) (by decide) (fun c13864 => ?_) (fun c13864 => ?_)
                                · exact absurd c13864 (by omega)
                                · refine zj_iload (zdk ttX8_fewestCrossings 112 rfl rfl) rfl ?_
                                  refine zj_if_eq (t := 251) (zdk ttX8_fewestCrossings 113 rfl rfl) (by decide) (by decide) (fun c13865 => ?_) (fun c13865 => ?_)
                                  · exact absurd c13865 (by omega)
                                  · refine zj_aload_n (zdk ttX8_fewestCrossings 114 rfl rfl) rfl (by omega) ?_
                                    refine zj_iload (zdk ttX8_fewestCrossings 115 rfl rfl) rfl ?_
                                    refine zj_iload (zdk ttX8_fewestCrossings 116 rfl rfl) rfl ?_
                                    refine zj_iconst (zdk ttX8_fewestCrossings 117 rfl rfl) ?_
                                    refine zj_ixor (zdk ttX8_fewestCrossings 118 rfl rfl) ?_
                                    have b13866 := zxor_in x13280 (-1)
                                    refine zj_iand (zdk ttX8_fewestCrossings 119 rfl rfl) ?_
                                    have b13867 := zand_l (a := (zand ((zshl 1 p2) - 1) (zxor ((h13.2 112 x12) % 64) (-1)))) (by omega) (zxor x13280 (-1))
                                    refine zj_callV (av := [.inl (zand (zand ((zshl 1 p2) - 1) (zxor ((h13.2 112 x12) % 64) (-1))) (zxor x13280 (-1)))]) (st := []) (zdk ttX8_fewestCrossings 120 rfl rfl) mb_X5_isSafe mv_RX8_51 (ci := 5) rfl rfl (k_5_0 s13282 r_p1) rfl rfl (Nat.le_of_ble_eq_true rfl) (s_X5_isSafe l h13281 p1 (zand (zand ((zshl 1 p2) - 1) (zxor ((h13.2 112 x12) % 64) (-1))) (zxor x13280 (-1))) s13282 r_p1 (by omega)) (rm_ok (by decide) (by decide)) (zq_i fun v13869 h13870 q13868 => ?_)
                                    obtain ⟨rfl, b13871⟩ := q13868
                                    refine zj_if_eq (t := 251) (zdk ttX8_fewestCrossings 121 rfl rfl) (by decide) (by omega) (fun c13872 => ?_) (fun c13872 => ?_)
                                    · refine zj_iinc (L' := [some (.inr 108), some (.inr p1), some (.inl p2), some (.inl p3), some (.inl ((zshl 1 p2) - 1)), some (.inl x13279), some (.inl x12), some (.inl (h13.2 112 x12)), some (.inl ((h13.2 112 x12) % 64)), some (.inl 0), some (.inl (zand ((zshl 1 p2) - 1) (zxor ((h13.2 112 x12) % 64) (-1)))), some (.inl (x13280 + 1)), some (.inl 1), some (.inl ((zxor ((h13.2 112 x12) % 64) x13280) + 64)), some (.inl 1)]) (zdk ttX8_fewestCrossings 138 rfl rfl) rfl (by decide) rfl ?_
                                      refine zj_goto (t := 119) (zdk ttX8_fewestCrossings 139 rfl rfl) (by decide) ?_
                                      refine zj_kill (k := 12) (L' := [some (.inr 108), some (.inr p1), some (.inl p2), some (.inl p3), some (.inl ((zshl 1 p2) - 1)), some (.inl x13279), some (.inl x12), some (.inl (h13.2 112 x12)), some (.inl ((h13.2 112 x12) % 64)), some (.inl 0), some (.inl (zand ((zshl 1 p2) - 1) (zxor ((h13.2 112 x12) % 64) (-1)))), some (.inl (x13280 + 1)), none, some (.inl ((zxor ((h13.2 112 x12) % 64) x13280) + 64)), some (.inl 1)]) rfl ?_
                                      refine zj_kill (k := 13) (L' := [some (.inr 108), some (.inr p1), some (.inl p2), some (.inl p3), some (.inl ((zshl 1 p2) - 1)), some (.inl x13279), some (.inl x12), some (.inl (h13.2 112 x12)), some (.inl ((h13.2 112 x12) % 64)), some (.inl 0), some (.inl (zand ((zshl 1 p2) - 1) (zxor ((h13.2 112 x12) % 64) (-1)))), some (.inl (x13280 + 1)), none, none, some (.inl 1)]) rfl ?_
                                      refine zj_kill (k := 14) (L' := [some (.inr 108), some (.inr p1), some (.inl p2), some (.inl p3), some (.inl ((zshl 1 p2) - 1)), some (.inl x13279), some (.inl x12), some (.inl (h13.2 112 x12)), some (.inl ((h13.2 112 x12) % 64)), some (.inl 0), some (.inl (zand ((zshl 1 p2) - 1) (zxor ((h13.2 112 x12) % 64) (-1)))), some (.inl (x13280 + 1)), none, none, none]) rfl ?_
                                      exact ih13829  x13279 (x13280 + 1) h13281 (by omega) (by omega) s13282 (by omega)
                                    · refine zj_aload_n (zdk ttX8_fewestCrossings 122 rfl rfl) rfl (by decide) ?_
                                      refine zj_getr (r := 111) (zdk ttX8_fewestCrossings 123 rfl rfl) zf_RX8_18 rfl (k_L108 s13282) (rf_L108_2 s13282) ?_
                                      refine zj_iload (zdk ttX8_fewestCrossings 124 rfl rfl) rfl ?_
                                      refine zj_aload_n (zdk ttX8_fewestCrossings 125 rfl rfl) rfl (by decide) ?_
                                      refine zj_getr (r := 111) (zdk ttX8_fewestCrossings 126 rfl rfl) zf_RX8_18 rfl (k_L108 s13282) (rf_L108_2 s13282) ?_
                                      refine zj_iload (zdk ttX8_fewestCrossings 127 rfl rfl) rfl ?_
                                      have b13873 : -2147483648 ≤ (h13281.2 111 (h13.2 112 x12)) ∧ (h13281.2 111 (h13.2 112 x12)) ≤ 2147483647 := ab_L108_2 s13282 (h13.2 112 x12)
                                      refine zj_iald (v := (h13281.2 111 (h13.2 112 x12))) (zdk ttX8_fewestCrossings 128 rfl rfl) (ka_L108_2 s13282) (by decide) (by omega) rfl ?_
                                      refine zj_iconst (zdk ttX8_fewestCrossings 129 rfl rfl) ?_
                                      refine zj_iadd (zdk ttX8_fewestCrossings 130 rfl rfl) ?_
                                      refine zj_wrap ?_
                                      have b13874 := zwp_in ((h13281.2 111 (h13.2 112 x12)) + 1)
                                      refine zj_iast (zdk ttX8_fewestCrossings 131 rfl rfl) (ka_L108_2 s13282) (by decide) (by omega) (fun h13875 e13876 => ?_)
                                      refine zj_aload_n (zdk ttX8_fewestCrossings 132 rfl rfl) rfl (by decide) ?_
                                      have s13877 : okC h13875 := aw_L108_2 s13282 e13876 (by omega)
                                      refine zj_getr (r := 112) (zdk ttX8_fewestCrossings 133 rfl rfl) zf_RX8_21 rfl (k_L108 s13877) (rf_L108_3 s13877) ?_
                                      refine zj_iload (zdk ttX8_fewestCrossings 134 rfl rfl) rfl ?_
                                      refine zj_iinc (L' := [some (.inr 108), some (.inr p1), some (.inl p2), some (.inl p3), some (.inl ((zshl 1 p2) - 1)), some (.inl (x13279 + 1)), some (.inl x12), some (.inl (h13.2 112 x12)), some (.inl ((h13.2 112 x12) % 64)), some (.inl 0), some (.inl (zand ((zshl 1 p2) - 1) (zxor ((h13.2 112 x12) % 64) (-1)))), some (.inl x13280), some (.inl 1), some (.inl ((zxor ((h13.2 112 x12) % 64) x13280) + 64)), some (.inl 1)]) (zdk ttX8_fewestCrossings 135 rfl rfl) rfl (by decide) rfl ?_
                                      refine zj_iload (zdk ttX8_fewestCrossings 136 rfl rfl) rfl ?_
                                      refine zj_iast (zdk ttX8_fewestCrossings 137 rfl rfl) (ka_L108_3 s13877) (by decide) (by omega) (fun h13878 e13879 => ?_)
                                      refine zj_iinc (L' := [some (.inr 108), some (.inr p1), some (.inl p2), some (.inl p3), some (.inl ((zshl 1 p2) - 1)), some (.inl (x13279 + 1)), some (.inl x12), some (.inl (h13.2 112 x12)), some (.inl ((h13.2 112 x12) % 64)), some (.inl 0), some (.inl (zand ((zshl 1 p2) - 1) (zxor ((h13.2 112 x12) % 64) (-1)))), some (.inl (x13280 + 1)), some (.inl 1), some (.inl ((zxor ((h13.2 112 x12) % 64) x13280) + 64)), some (.inl 1)]) (zdk ttX8_fewestCrossings 138 rfl rfl) rfl (by decide) rfl ?_
                                      refine zj_goto (t := 119) (zdk ttX8_fewestCrossings 139 rfl rfl) (by decide) ?_
                                      refine zj_kill (k := 12) (L' := [some (.inr 108), some (.inr p1), some (.inl p2), some (.inl p3), some (.inl ((zshl 1 p2) - 1)), some (.inl (x13279 + 1)), some (.inl x12), some (.inl (h13.2 112 x12)), some (.inl ((h13.2 112 x12) % 64)), some (.inl 0), some (.inl (zand ((zshl 1 p2) - 1) (zxor ((h13.2 112 x12) % 64) (-1)))), some (.inl (x13280 + 1)), none, some (.inl ((zxor ((h13.2 112 x12) % 64) x13280) + 64)), some (.inl 1)]) rfl ?_
                                      refine zj_kill (k := 13) (L' := [some (.inr 108), some (.inr p1), some (.inl p2), some (.inl p3), some (.inl ((zshl 1 p2) - 1)), some (.inl (x13279 + 1)), some (.inl x12), some (.inl (h13.2 112 x12)), some (.inl ((h13.2 112 x12) % 64)), some (.inl 0), some (.inl (zand ((zshl 1 p2) - 1) (zxor ((h13.2 112 x12) % 64) (-1)))), some (.inl (x13280 + 1)), none, none, some (.inl 1)]) rfl ?_
                                      refine zj_kill (k := 14) (L' := [some (.inr 108), some (.inr p1), some (.inl p2), some (.inl p3), some (.inl ((zshl 1 p2) - 1)), some (.inl (x13279 + 1)), some (.inl x12), some (.inl (h13.2 112 x12)), some (.inl ((h13.2 112 x12) % 64)), some (.inl 0), some (.inl (zand ((zshl 1 p2) - 1) (zxor ((h13.2 112 x12) % 64) (-1)))), some (.inl (x13280 + 1)), none, none, none]) rfl ?_
                                      have s13880 : okC h13878 := aw_L108_3 s13877 e13879 (by omega)
                                      exact ih13829  (x13279 + 1) (x13280 + 1) h13878 (by omega) (by omega) s13880 (by omega)
                          · exact absurd c13856 (by omega)
                exact lp13825 _ x11 0 h13 (by omega) (by omega) s14 (Nat.lt_succ_self _)
              · exact absurd c13276 (by omega)
            · refine zj_iconst (zdk ttX8_fewestCrossings 52 rfl rfl) ?_
              refine zj_goto (t := 95) (zdk ttX8_fewestCrossings 53 rfl rfl) (by decide) ?_
              refine zj_istore (L' := [some (.inr 108), some (.inr p1), some (.inl p2), some (.inl p3), some (.inl ((zshl 1 p2) - 1)), some (.inl x11), some (.inl x12), some (.inl (h13.2 112 x12)), some (.inl ((h13.2 112 x12) % 64)), some (.inl 1), none, none, none, none, none]) (zdk ttX8_fewestCrossings 55 rfl rfl) (by decide) rfl ?_
              refine zj_iload (zdk ttX8_fewestCrossings 56 rfl rfl) rfl ?_
              refine zj_if_eq (t := 107) (zdk ttX8_fewestCrossings 57 rfl rfl) (by decide) (by decide) (fun c13881 => ?_) (fun c13881 => ?_)
              · exact absurd c13881 (by omega)
              · refine zj_iload (zdk ttX8_fewestCrossings 58 rfl rfl) rfl ?_
                refine zj_goto (t := 114) (zdk ttX8_fewestCrossings 59 rfl rfl) (by decide) ?_
                refine zj_istore (L' := [some (.inr 108), some (.inr p1), some (.inl p2), some (.inl p3), some (.inl ((zshl 1 p2) - 1)), some (.inl x11), some (.inl x12), some (.inl (h13.2 112 x12)), some (.inl ((h13.2 112 x12) % 64)), some (.inl 1), some (.inl ((h13.2 112 x12) % 64)), none, none, none, none]) (zdk ttX8_fewestCrossings 65 rfl rfl) (by decide) rfl ?_
                refine zj_iconst (zdk ttX8_fewestCrossings 66 rfl rfl) ?_
                refine zj_istore (L' := [some (.inr 108), some (.inr p1), some (.inl p2), some (.inl p3), some (.inl ((zshl 1 p2) - 1)), some (.inl x11), some (.inl x12), some (.inl (h13.2 112 x12)), some (.inl ((h13.2 112 x12) % 64)), some (.inl 1), some (.inl ((h13.2 112 x12) % 64)), some (.inl 0), none, none, none]) (zdk ttX8_fewestCrossings 67 rfl rfl) (by decide) rfl ?_
                have lp14428 : ∀ (n : Nat) (x13882 x13883 : Int) (h13884 : zM), (1 ≤ x13882 ∧ x13882 ≤ 2147483647) → (0 ≤ x13883 ∧ x13883 ≤ 64) → okC h13884 → (65 - x13883).toNat < n → zJ shC l yX8_fewestCrossings cX8_fewestCrossings 15 (some .int) (rmL 2) 0 0 (q_X8_fewestCrossings h p1 p2 p3) 0 0 119 [some (.inr 108), some (.inr p1), some (.inl p2), some (.inl p3), some (.inl ((zshl 1 p2) - 1)), some (.inl x13882), some (.inl x12), some (.inl (h13.2 112 x12)), some (.inl ((h13.2 112 x12) % 64)), some (.inl 1), some (.inl ((h13.2 112 x12) % 64)), some (.inl x13883), none, none, none] [] h13884 := by
                  intro n
                  induction n with
                  | zero => intro x13882 x13883 h13884 b14429 b14430 s13885 m14431; exact absurd m14431 (Nat.not_lt_zero _)
                  | succ n ih14432 =>
                    intro x13882 x13883 h13884 b14429 b14430 s13885 m14431
                    refine zj_iload (zdk ttX8_fewestCrossings 68 rfl rfl) rfl ?_
                    refine zj_iload (zdk ttX8_fewestCrossings 69 rfl rfl) rfl ?_
                    refine zj_icmp_gt (t := 257) (zdk ttX8_fewestCrossings 70 rfl rfl) (by decide) (by omega) (by omega) (fun c14433 => ?_) (fun c14433 => ?_)
                    · refine zj_iinc (L' := [some (.inr 108), some (.inr p1), some (.inl p2), some (.inl p3), some (.inl ((zshl 1 p2) - 1)), some (.inl x13882), some (.inl (x12 + 1)), some (.inl (h13.2 112 x12)), some (.inl ((h13.2 112 x12) % 64)), some (.inl 1), some (.inl ((h13.2 112 x12) % 64)), some (.inl x13883), none, none, none]) (zdk ttX8_fewestCrossings 140 rfl rfl) rfl (by decide) rfl ?_
                      refine zj_goto (t := 35) (zdk ttX8_fewestCrossings 141 rfl rfl) (by decide) ?_
                      refine zj_kill (k := 7) (L' := [some (.inr 108), some (.inr p1), some (.inl p2), some (.inl p3), some (.inl ((zshl 1 p2) - 1)), some (.inl x13882), some (.inl (x12 + 1)), none, some (.inl ((h13.2 112 x12) % 64)), some (.inl 1), some (.inl ((h13.2 112 x12) % 64)), some (.inl x13883), none, none, none]) rfl ?_
                      refine zj_kill (k := 8) (L' := [some (.inr 108), some (.inr p1), some (.inl p2), some (.inl p3), some (.inl ((zshl 1 p2) - 1)), some (.inl x13882), some (.inl (x12 + 1)), none, none, some (.inl 1), some (.inl ((h13.2 112 x12) % 64)), some (.inl x13883), none, none, none]) rfl ?_
                      refine zj_kill (k := 9) (L' := [some (.inr 108), some (.inr p1), some (.inl p2), some (.inl p3), some (.inl ((zshl 1 p2) - 1)), some (.inl x13882), some (.inl (x12 + 1)), none, none, none, some (.inl ((h13.2 112 x12) % 64)), some (.inl x13883), none, none, none]) rfl ?_
                      refine zj_kill (k := 10) (L' := [some (.inr 108), some (.inr p1), some (.inl p2), some (.inl p3), some (.inl ((zshl 1 p2) - 1)), some (.inl x13882), some (.inl (x12 + 1)), none, none, none, none, some (.inl x13883), none, none, none]) rfl ?_
                      refine zj_kill (k := 11) (L' := [some (.inr 108), some (.inr p1), some (.inl p2), some (.inl p3), some (.inl ((zshl 1 p2) - 1)), some (.inl x13882), some (.inl (x12 + 1)), none, none, none, none, none, none, none, none]) rfl ?_
                      exact ih13270  x13882 (x12 + 1) h13884 (by omega) (by omega) s13885 (by omega)
                    · refine zj_iload (zdk ttX8_fewestCrossings 71 rfl rfl) rfl ?_
                      refine zj_iload (zdk ttX8_fewestCrossings 72 rfl rfl) rfl ?_
                      refine zj_iconst (zdk ttX8_fewestCrossings 73 rfl rfl) ?_
                      refine zj_ixor (zdk ttX8_fewestCrossings 74 rfl rfl) ?_
                      have b14434 := zxor_in ((h13.2 112 x12) % 64) (-1)
                      refine zj_iand (zdk ttX8_fewestCrossings 75 rfl rfl) ?_
                      have b14435 := zand_l (a := x13883) (by omega) (zxor ((h13.2 112 x12) % 64) (-1))
                      refine zj_if_ne (t := 149) (zdk ttX8_fewestCrossings 76 rfl rfl) (by decide) (by omega) (fun c14436 => ?_) (fun c14436 => ?_)
                      · refine zj_iconst (zdk ttX8_fewestCrossings 83 rfl rfl) ?_
                        refine zj_istore (L' := [some (.inr 108), some (.inr p1), some (.inl p2), some (.inl p3), some (.inl ((zshl 1 p2) - 1)), some (.inl x13882), some (.inl x12), some (.inl (h13.2 112 x12)), some (.inl ((h13.2 112 x12) % 64)), some (.inl 1), some (.inl ((h13.2 112 x12) % 64)), some (.inl x13883), some (.inl 0), none, none]) (zdk ttX8_fewestCrossings 84 rfl rfl) (by decide) rfl ?_
                        refine zj_iload (zdk ttX8_fewestCrossings 85 rfl rfl) rfl ?_
                        refine zj_iload (zdk ttX8_fewestCrossings 86 rfl rfl) rfl ?_
                        refine zj_ixor (zdk ttX8_fewestCrossings 87 rfl rfl) ?_
                        have b14437 := zxor_k (a := ((h13.2 112 x12) % 64)) (b := x13883) (K := 64) 6 (by decide) (by decide) (by omega) (by omega)
                        refine zj_iload (zdk ttX8_fewestCrossings 88 rfl rfl) rfl ?_
                        refine zj_if_eq (t := 166) (zdk ttX8_fewestCrossings 89 rfl rfl) (by decide) (by decide) (fun c14438 => ?_) (fun c14438 => ?_)
                        · exact absurd c14438 (by omega)
                        · refine zj_iconst (zdk ttX8_fewestCrossings 90 rfl rfl) ?_
                          refine zj_goto (t := 168) (zdk ttX8_fewestCrossings 91 rfl rfl) (by decide) ?_
                          refine zj_iadd (zdk ttX8_fewestCrossings 93 rfl rfl) ?_
                          refine zj_istore (L' := [some (.inr 108), some (.inr p1), some (.inl p2), some (.inl p3), some (.inl ((zshl 1 p2) - 1)), some (.inl x13882), some (.inl x12), some (.inl (h13.2 112 x12)), some (.inl ((h13.2 112 x12) % 64)), some (.inl 1), some (.inl ((h13.2 112 x12) % 64)), some (.inl x13883), some (.inl 0), some (.inl ((zxor ((h13.2 112 x12) % 64) x13883) + 0)), none]) (zdk ttX8_fewestCrossings 94 rfl rfl) (by decide) rfl ?_
                          refine zj_aload_n (zdk ttX8_fewestCrossings 95 rfl rfl) rfl (by decide) ?_
                          refine zj_getr (r := 111) (zdk ttX8_fewestCrossings 96 rfl rfl) zf_RX8_18 rfl (k_L108 s13885) (rf_L108_2 s13885) ?_
                          refine zj_iload (zdk ttX8_fewestCrossings 97 rfl rfl) rfl ?_
                          have b14439 : -2147483648 ≤ (h13884.2 111 ((zxor ((h13.2 112 x12) % 64) x13883) + 0)) ∧ (h13884.2 111 ((zxor ((h13.2 112 x12) % 64) x13883) + 0)) ≤ 2147483647 := ab_L108_2 s13885 ((zxor ((h13.2 112 x12) % 64) x13883) + 0)
                          refine zj_iald (v := (h13884.2 111 ((zxor ((h13.2 112 x12) % 64) x13883) + 0))) (zdk ttX8_fewestCrossings 98 rfl rfl) (ka_L108_2 s13885) (by decide) (by omega) rfl ?_
                          refine zj_iconst (zdk ttX8_fewestCrossings 99 rfl rfl) ?_
                          refine zj_icmp_ne (t := 196) (zdk ttX8_fewestCrossings 100 rfl rfl) (by decide) (by omega) (by decide) (fun c14440 => ?_) (fun c14440 => ?_)
                          · refine zj_iconst (zdk ttX8_fewestCrossings 108 rfl rfl) ?_
                            refine zj_istore (L' := [some (.inr 108), some (.inr p1), some (.inl p2), some (.inl p3), some (.inl ((zshl 1 p2) - 1)), some (.inl x13882), some (.inl x12), some (.inl (h13.2 112 x12)), some (.inl ((h13.2 112 x12) % 64)), some (.inl 1), some (.inl ((h13.2 112 x12) % 64)), some (.inl x13883), some (.inl 0), some (.inl ((zxor ((h13.2 112 x12) % 64) x13883) + 0)), some (.inl 0)]) (zdk ttX8_fewestCrossings 109 rfl rfl) (by decide) rfl ?_
                            refine zj_iload (zdk ttX8_fewestCrossings 110 rfl rfl) rfl ?_
                            refine zj_if_eq (t := 251) (zdk ttX8_fewestCrossings 111 rfl rfl) (by decide) (by decide) (fun c14441 => ?_) (fun c14441 => ?_)
                            · refine zj_iinc (L' := [some (.inr 108), some (.inr p1), some (.inl p2), some (.inl p3), some (.inl ((zshl 1 p2) - 1)), some (.inl x13882), some (.inl x12), some (.inl (h13.2 112 x12)), some (.inl ((h13.2 112 x12) % 64)), some (.inl 1), some (.inl ((h13.2 112 x12) % 64)), some (.inl (x13883 + 1)), some (.inl 0), some (.inl ((zxor ((h13.2 112 x12) % 64) x13883) + 0)), some (.inl 0)]) (zdk ttX8_fewestCrossings 138 rfl rfl) rfl (by decide) rfl ?_
                              refine zj_goto (t := 119) (zdk ttX8_fewestCrossings 139 rfl rfl) (by decide) ?_
                              refine zj_kill (k := 12) (L' := [some (.inr 108), some (.inr p1), some (.inl p2), some (.inl p3), some (.inl ((zshl 1 p2) - 1)), some (.inl x13882), some (.inl x12), some (.inl (h13.2 112 x12)), some (.inl ((h13.2 112 x12) % 64)), some (.inl 1), some (.inl ((h13.2 112 x12) % 64)), some (.inl (x13883 + 1)), none, some (.inl ((zxor ((h13.2 112 x12) % 64) x13883) + 0)), some (.inl 0)]) rfl ?_
                              refine zj_kill (k := 13) (L' := [some (.inr 108), some (.inr p1), some (.inl p2), some (.inl p3), some (.inl ((zshl 1 p2) - 1)), some (.inl x13882), some (.inl x12), some (.inl (h13.2 112 x12)), some (.inl ((h13.2 112 x12) % 64)), some (.inl 1), some (.inl ((h13.2 112 x12) % 64)), some (.inl (x13883 + 1)), none, none, some (.inl 0)]) rfl ?_
                              refine zj_kill (k := 14) (L' := [some (.inr 108), some (.inr p1), some (.inl p2), some (.inl p3), some (.inl ((zshl 1 p2) - 1)), some (.inl x13882), some (.inl x12), some (.inl (h13.2 112 x12)), some (.inl ((h13.2 112 x12) % 64)), some (.inl 1), some (.inl ((h13.2 112 x12) % 64)), some (.inl (x13883 + 1)), none, none, none]) rfl ?_
                              exact ih14432  x13882 (x13883 + 1) h13884 (by omega) (by omega) s13885 (by omega)
                            · exact absurd c14441 (by omega)
                          · refine zj_iload (zdk ttX8_fewestCrossings 101 rfl rfl) rfl ?_
                            refine zj_aload_n (zdk ttX8_fewestCrossings 102 rfl rfl) rfl (by decide) ?_
                            refine zj_getr (r := 112) (zdk ttX8_fewestCrossings 103 rfl rfl) zf_RX8_21 rfl (k_L108 s13885) (rf_L108_3 s13885) ?_
                            refine zj_alen (zdk ttX8_fewestCrossings 104 rfl rfl) (ka_L108_3 s13885) ?_
                            refine zj_icmp_ge (t := 196) (zdk ttX8_fewestCrossings 105 rfl rfl) (by decide) (by omega) (by decide) (fun c14442 => ?_) (fun c14442 => ?_)
                            · refine zj_iconst (zdk ttX8_fewestCrossings 108 rfl rfl) ?_
                              refine zj_istore (L' := [some (.inr 108), some (.inr p1), some (.inl p2), some (.inl p3), some (.inl ((zshl 1 p2) - 1)), some (.inl x13882), some (.inl x12), some (.inl (h13.2 112 x12)), some (.inl ((h13.2 112 x12) % 64)), some (.inl 1), some (.inl ((h13.2 112 x12) % 64)), some (.inl x13883), some (.inl 0), some (.inl ((zxor ((h13.2 112 x12) % 64) x13883) + 0)), some (.inl 0)]) (zdk ttX8_fewestCrossings 109 rfl rfl) (by decide) rfl ?_
                              refine zj_iload (zdk ttX8_fewestCrossings 110 rfl rfl) rfl ?_
                              refine zj_if_eq (t := 251) (zdk ttX8_fewestCrossings 111 rfl rfl) (by decide) (by decide) (fun c14443 => ?_) (fun c14443 => ?_)
                              · refine zj_iinc (L' := [some (.inr 108), some (.inr p1), some (.inl p2), some (.inl p3), some (.inl ((zshl 1 p2) - 1)), some (.inl x13882), some (.inl x12), some (.inl (h13.2 112 x12)), some (.inl ((h13.2 112 x12) % 64)), some (.inl 1), some (.inl ((h13.2 112 x12) % 64)), some (.inl (x13883 + 1)), some (.inl 0), some (.inl ((zxor ((h13.2 112 x12) % 64) x13883) + 0)), some (.inl 0)]) (zdk ttX8_fewestCrossings 138 rfl rfl) rfl (by decide) rfl ?_
                                refine zj_goto (t := 119) (zdk ttX8_fewestCrossings 139 rfl rfl) (by decide) ?_
                                refine zj_kill (k := 12) (L' := [some (.inr 108), some (.inr p1), some (.inl p2), some (.inl p3), some (.inl ((zshl 1 p2) - 1)), some (.inl x13882), some (.inl x12), some (.inl (h13.2 112 x12)), some (.inl ((h13.2 112 x12) % 64)), some (.inl 1), some (.inl ((h13.2 112 x12) % 64)), some (.inl (x13883 + 1)), none, some (.inl ((zxor ((h13.2 112 x12) % 64) x13883) + 0)), some (.inl 0)]) rfl ?_
                                refine zj_kill (k := 13) (L' := [some (.inr 108), some (.inr p1), some (.inl p2), some (.inl p3), some (.inl ((zshl 1 p2) - 1)), some (.inl x13882), some (.inl x12), some (.inl (h13.2 112 x12)), some (.inl ((h13.2 112 x12) % 64)), some (.inl 1), some (.inl ((h13.2 112 x12) % 64)), some (.inl (x13883 + 1)), none, none, some (.inl 0)]) rfl ?_
                                refine zj_kill (k := 14) (L' := [some (.inr 108), some (.inr p1), some (.inl p2), some (.inl p3), some (.inl ((zshl 1 p2) - 1)), some (.inl x13882), some (.inl x12), some (.inl (h13.2 112 x12)), some (.inl ((h13.2 112 x12) % 64)), some (.inl 1), some (.inl ((h13.2 112 x12) % 64)), some (.inl (x13883 + 1)), none, none, none]) rfl ?_
                                exact ih14432  x13882 (x13883 + 1) h13884 (by omega) (by omega) s13885 (by omega)
                              · exact absurd c14443 (by omega)
                            · refine zj_iconst (zdk ttX8_fewestCrossings 106 rfl rfl) ?_
                              refine zj_goto (t := 197) (zdk ttX8_fewestCrossings 107 rfl rfl) (by decide) ?_
                              refine zj_istore (L' := [some (.inr 108), some (.inr p1), some (.inl p2), some (.inl p3), some (.inl ((zshl 1 p2) - 1)), some (.inl x13882), some (.inl x12), some (.inl (h13.2 112 x12)), some (.inl ((h13.2 112 x12) % 64)), some (.inl 1), some (.inl ((h13.2 112 x12) % 64)), some (.inl x13883), some (.inl 0), some (.inl ((zxor ((h13.2 112 x12) % 64) x13883) + 0)), some (.inl 1)]) (zdk ttX8_fewestCrossings 109 rfl rfl) (by decide) rfl ?_
                              refine zj_iload (zdk ttX8_fewestCrossings 110 rfl rfl) rfl ?_
                              refine zj_if_eq (t := 251) (zdk ttX8_fewestCrossings 111 rfl rfl) (by decide) (by decide) (fun c14444 => ?_) (fun c14444 => ?_)
                              · refine zj_iinc (L' := [some (.inr 108), some (.inr p1), some (.inl p2), some (.inl p3), some (.inl ((zshl 1 p2) - 1)), some (.inl x13882), some (.inl x12), some (.inl (h13.2 112 x12)), some (.inl ((h13.2 112 x12) % 64)), some (.inl 1), some (.inl ((h13.2 112 x12) % 64)), some (.inl (x13883 + 1)), some (.inl 0), some (.inl ((zxor ((h13.2 112 x12) % 64) x13883) + 0)), some (.inl 1)]) (zdk ttX8_fewestCrossings 138 rfl rfl) rfl (by decide) rfl ?_
                                refine zj_goto (t := 119) (zdk ttX8_fewestCrossings 139 rfl rfl) (by decide) ?_
                                refine zj_kill (k := 12) (L' := [some (.inr 108), some (.inr p1), some (.inl p2), some (.inl p3), some (.inl ((zshl 1 p2) - 1)), some (.inl x13882), some (.inl x12), some (.inl (h13.2 112 x12)), some (.inl ((h13.2 112 x12) % 64)), some (.inl 1), some (.inl ((h13.2 112 x12) % 64)), some (.inl (x13883 + 1)), none, some (.inl ((zxor ((h13.2 112 x12) % 64) x13883) + 0)), some (.inl 1)]) rfl ?_
                                refine zj_kill (k := 13) (L' := [some (.inr 108), some (.inr p1), some (.inl p2), some (.inl p3), some (.inl ((zshl 1 p2) - 1)), some (.inl x13882), some (.inl x12), some (.inl (h13.2 112 x12)), some (.inl ((h13.2 112 x12) % 64)), some (.inl 1), some (.inl ((h13.2 112 x12) % 64)), some (.inl (x13883 + 1)), none, none, some (.inl 1)]) rfl ?_
                                refine zj_kill (k := 14) (L' := [some (.inr 108), some (.inr p1), some (.inl p2), some (.inl p3), some (.inl ((zshl 1 p2) - 1)), some (.inl x13882), some (.inl x12), some (.inl (h13.2 112 x12)), some (.inl ((h13.2 112 x12) % 64)), some (.inl 1), some (.inl ((h13.2 112 x12) % 64)), some (.inl (x13883 + 1)), none, none, none]) rfl ?_
                                exact ih14432  x13882 (x13883 + 1) h13884 (by omega) (by omega) s13885 (by omega)
                              · exact absurd c14444 (by omega)
                      · refine zj_iload (zdk ttX8_fewestCrossings 77 rfl rfl) rfl ?_
                        refine zj_callS (av := [.inl x13883]) (st := []) (zdk ttX8_fewestCrossings 78 rfl rfl) mb_J6_bitCount_0f7a4 ms_RX8_46 rfl rfl (Nat.le_of_ble_eq_true rfl) (s_J6_bitCount_0f7a4 shC l h13884 x13883) (rm_ok (by decide) (by decide)) (zq_i fun v14445 h14446 q14447 => ?_)
                        obtain ⟨rfl, b14448⟩ := q14447
                        refine zj_iload_n (zdk ttX8_fewestCrossings 79 rfl rfl) rfl ?_
                        refine zj_icmp_gt (t := 149) (zdk ttX8_fewestCrossings 80 rfl rfl) (by decide) (by omega) (by omega) (fun c14449 => ?_) (fun c14449 => ?_)
                        · refine zj_iconst (zdk ttX8_fewestCrossings 83 rfl rfl) ?_
                          refine zj_istore (L' := [some (.inr 108), some (.inr p1), some (.inl p2), some (.inl p3), some (.inl ((zshl 1 p2) - 1)), some (.inl x13882), some (.inl x12), some (.inl (h13.2 112 x12)), some (.inl ((h13.2 112 x12) % 64)), some (.inl 1), some (.inl ((h13.2 112 x12) % 64)), some (.inl x13883), some (.inl 0), none, none]) (zdk ttX8_fewestCrossings 84 rfl rfl) (by decide) rfl ?_
                          refine zj_iload (zdk ttX8_fewestCrossings 85 rfl rfl) rfl ?_
                          refine zj_iload (zdk ttX8_fewestCrossings 86 rfl rfl) rfl ?_
                          refine zj_ixor (zdk ttX8_fewestCrossings 87 rfl rfl) ?_
                          have b14450 := zxor_k (a := ((h13.2 112 x12) % 64)) (b := x13883) (K := 64) 6 (by decide) (by decide) (by omega) (by omega)
                          refine zj_iload (zdk ttX8_fewestCrossings 88 rfl rfl) rfl ?_
                          refine zj_if_eq (t := 166) (zdk ttX8_fewestCrossings 89 rfl rfl) (by decide) (by decide) (fun c14451 => ?_) (fun c14451 => ?_)
                          · exact absurd c14451 (by omega)
                          · refine zj_iconst (zdk ttX8_fewestCrossings 90 rfl rfl) ?_
                            refine zj_goto (t := 168) (zdk ttX8_fewestCrossings 91 rfl rfl) (by decide) ?_
                            refine zj_iadd (zdk ttX8_fewestCrossings 93 rfl rfl) ?_
                            refine zj_istore (L' := [some (.inr 108), some (.inr p1), some (.inl p2), some (.inl p3), some (.inl ((zshl 1 p2) - 1)), some (.inl x13882), some (.inl x12), some (.inl (h13.2 112 x12)), some (.inl ((h13.2 112 x12) % 64)), some (.inl 1), some (.inl ((h13.2 112 x12) % 64)), some (.inl x13883), some (.inl 0), some (.inl ((zxor ((h13.2 112 x12) % 64) x13883) + 0)), none]) (zdk ttX8_fewestCrossings 94 rfl rfl) (by decide) rfl ?_
                            refine zj_aload_n (zdk ttX8_fewestCrossings 95 rfl rfl) rfl (by decide) ?_
                            refine zj_getr (r := 111) (zdk ttX8_fewestCrossings 96 rfl rfl) zf_RX8_18 rfl (k_L108 s13885) (rf_L108_2 s13885) ?_
                            refine zj_iload (zdk ttX8_fewestCrossings 97 rfl rfl) rfl ?_
                            have b14452 : -2147483648 ≤ (h13884.2 111 ((zxor ((h13.2 112 x12) % 64) x13883) + 0)) ∧ (h13884.2 111 ((zxor ((h13.2 112 x12) % 64) x13883) + 0)) ≤ 2147483647 := ab_L108_2 s13885 ((zxor ((h13.2 112 x12) % 64) x13883) + 0)
                            refine zj_iald (v := (h13884.2 111 ((zxor ((h13.2 112 x12) % 64) x13883) + 0))) (zdk ttX8_fewestCrossings 98 rfl rfl) (ka_L108_2 s13885) (by decide) (by omega) rfl ?_
                            refine zj_iconst (zdk ttX8_fewestCrossings 99 rfl rfl) ?_
                            refine zj_icmp_ne (t := 196) (zdk ttX8_fewestCrossings 100 rfl rfl) (by decide) (by omega) (by decide) (fun c14453 => ?_) (fun c14453 => ?_)
                            · refine zj_iconst (zdk ttX8_fewestCrossings 108 rfl rfl) ?_
                              refine zj_istore (L' := [some (.inr 108), some (.inr p1), some (.inl p2), some (.inl p3), some (.inl ((zshl 1 p2) - 1)), some (.inl x13882), some (.inl x12), some (.inl (h13.2 112 x12)), some (.inl ((h13.2 112 x12) % 64)), some (.inl 1), some (.inl ((h13.2 112 x12) % 64)), some (.inl x13883), some (.inl 0), some (.inl ((zxor ((h13.2 112 x12) % 64) x13883) + 0)), some (.inl 0)]) (zdk ttX8_fewestCrossings 109 rfl rfl) (by decide) rfl ?_
                              refine zj_iload (zdk ttX8_fewestCrossings 110 rfl rfl) rfl ?_
                              refine zj_if_eq (t := 251) (zdk ttX8_fewestCrossings 111 rfl rfl) (by decide) (by decide) (fun c14454 => ?_) (fun c14454 => ?_)
                              · refine zj_iinc (L' := [some (.inr 108), some (.inr p1), some (.inl p2), some (.inl p3), some (.inl ((zshl 1 p2) - 1)), some (.inl x13882), some (.inl x12), some (.inl (h13.2 112 x12)), some (.inl ((h13.2 112 x12) % 64)), some (.inl 1), some (.inl ((h13.2 112 x12) % 64)), some (.inl (x13883 + 1)), some (.inl 0), some (.inl ((zxor ((h13.2 112 x12) % 64) x13883) + 0)), some (.inl 0)]) (zdk ttX8_fewestCrossings 138 rfl rfl) rfl (by decide) rfl ?_
                                refine zj_goto (t := 119) (zdk ttX8_fewestCrossings 139 rfl rfl) (by decide) ?_
                                refine zj_kill (k := 12) (L' := [some (.inr 108), some (.inr p1), some (.inl p2), some (.inl p3), some (.inl ((zshl 1 p2) - 1)), some (.inl x13882), some (.inl x12), some (.inl (h13.2 112 x12)), some (.inl ((h13.2 112 x12) % 64)), some (.inl 1), some (.inl ((h13.2 112 x12) % 64)), some (.inl (x13883 + 1)), none, some (.inl ((zxor ((h13.2 112 x12) % 64) x13883) + 0)), some (.inl 0)]) rfl ?_
                                refine zj_kill (k := 13) (L' := [some (.inr 108), some (.inr p1), some (.inl p2), some (.inl p3), some (.inl ((zshl 1 p2) - 1)), some (.inl x13882), some (.inl x12), some (.inl (h13.2 112 x12)), some (.inl ((h13.2 112 x12) % 64)), some (.inl 1), some (.inl ((h13.2 112 x12) % 64)), some (.inl (x13883 + 1)), none, none, some (.inl 0)]) rfl ?_
                                refine zj_kill (k := 14) (L' := [some (.inr 108), some (.inr p1), some (.inl p2), some (.inl p3), some (.inl ((zshl 1 p2) - 1)), some (.inl x13882), some (.inl x12), some (.inl (h13.2 112 x12)), some (.inl ((h13.2 112 x12) % 64)), some (.inl 1), some (.inl ((h13.2 112 x12) % 64)), some (.inl (x13883 + 1)), none, none, none]) rfl ?_
                                exact ih14432  x13882 (x13883 + 1) h13884 (by omega) (by omega) s13885 (by omega)
                              · exact absurd c14454 (by omega)
                            · refine zj_iload (zdk ttX8_fewestCrossings 101 rfl rfl) rfl ?_
                              refine zj_aload_n (zdk ttX8_fewestCrossings 102 rfl rfl) rfl (by decide) ?_
                              refine zj_getr (r := 112) (zdk ttX8_fewestCrossings 103 rfl rfl) zf_RX8_21 rfl (k_L108 s13885) (rf_L108_3 s13885) ?_
                              refine zj_alen (zdk ttX8_fewestCrossings 104 rfl rfl) (ka_L108_3 s13885) ?_
                              refine zj_icmp_ge (t := 196) (zdk ttX8_fewestCrossings 105 rfl rfl) (by decide) (by omega) (by decide) (fun c14455 => ?_) (fun c14455 => ?_)
                              · refine zj_iconst (zdk ttX8_fewestCrossings 108 rfl rfl) ?_
                                refine zj_istore (L' := [some (.inr 108), some (.inr p1), some (.inl p2), some (.inl p3), some (.inl ((zshl 1 p2) - 1)), some (.inl x13882), some (.inl x12), some (.inl (h13.2 112 x12)), some (.inl ((h13.2 112 x12) % 64)), some (.inl 1), some (.inl ((h13.2 112 x12) % 64)), some (.inl x13883), some (.inl 0), some (.inl ((zxor ((h13.2 112 x12) % 64) x13883) + 0)), some (.inl 0)]) (zdk ttX8_fewestCrossings 109 rfl rfl) (by decide) rfl ?_
                                refine zj_iload (zdk ttX8_fewestCrossings 110 rfl rfl) rfl ?_
                                refine zj_if_eq (t := 251) (zdk ttX8_fewestCrossings 111 rfl rfl) (by decide) (by decide) (fun c14456 => ?_) (fun c14456 => ?_)
                                · refine zj_iinc (L' := [some (.inr 108), some (.inr p1), some (.inl p2), some (.inl p3), some (.inl ((zshl 1 p2) - 1)), some (.inl x13882), some (.inl x12), some (.inl (h13.2 112 x12)), some (.inl ((h13.2 112 x12) % 64)), some (.inl 1), some (.inl ((h13.2 112 x12) % 64)), some (.inl (x13883 + 1)), some (.inl 0), some (.inl ((zxor ((h13.2 112 x12) % 64) x13883) + 0)), some (.inl 0)]) (zdk ttX8_fewestCrossings 138 rfl rfl) rfl (by decide) rfl ?_
                                  refine zj_goto (t := 119) (zdk ttX8_fewestCrossings 139 rfl rfl) (by decide) ?_
                                  refine zj_kill (k := 12) (L' := [some (.inr 108), some (.inr p1), some (.inl p2), some (.inl p3), some (.inl ((zshl 1 p2) - 1)), some (.inl x13882), some (.inl x12), some (.inl (h13.2 112 x12)), some (.inl ((h13.2 112 x12) % 64)), some (.inl 1), some (.inl ((h13.2 112 x12) % 64)), some (.inl (x13883 + 1)), none, some (.inl ((zxor ((h13.2 112 x12) % 64) x13883) + 0)), some (.inl 0)]) rfl ?_
                                  refine zj_kill (k := 13) (L' := [some (.inr 108), some (.inr p1), some (.inl p2), some (.inl p3), some (.inl ((zshl 1 p2) - 1)), some (.inl x13882), some (.inl x12), some (.inl (h13.2 112 x12)), some (.inl ((h13.2 112 x12) % 64)), some (.inl 1), some (.inl ((h13.2 112 x12) % 64)), some (.inl (x13883 + 1)), none, none, some (.inl 0)]) rfl ?_
                                  refine zj_kill (k := 14) (L' := [some (.inr 108), some (.inr p1), some (.inl p2), some (.inl p3), some (.inl ((zshl 1 p2) - 1)), some (.inl x13882), some (.inl x12), some (.inl (h13.2 112 x12)), some (.inl ((h13.2 112 x12) % 64)), some (.inl 1), some (.inl ((h13.2 112 x12) % 64)), some (.inl (x13883 + 1)), none, none, none]) rfl ?_
                                  exact ih14432  x13882 (x13883 + 1) h13884 (by omega) (by omega) s13885 (by omega)
                                · exact absurd c14456 (by omega)
                              · refine zj_iconst (zdk ttX8_fewestCrossings 106 rfl rfl) ?_
                                refine zj_goto (t := 197) (zdk ttX8_fewestCrossings 107 rfl rfl) (by decide) ?_
                                refine zj_istore (L' := [some (.inr 108), some (.inr p1), some (.inl p2), some (.inl p3), some (.inl ((zshl 1 p2) - 1)), some (.inl x13882), some (.inl x12), some (.inl (h13.2 112 x12)), some (.inl ((h13.2 112 x12) % 64)), some (.inl 1), some (.inl ((h13.2 112 x12) % 64)), some (.inl x13883), some (.inl 0), some (.inl ((zxor ((h13.2 112 x12) % 64) x13883) + 0)), some (.inl 1)]) (zdk ttX8_fewestCrossings 109 rfl rfl) (by decide) rfl ?_
                                refine zj_iload (zdk ttX8_fewestCrossings 110 rfl rfl) rfl ?_
                                refine zj_if_eq (t := 251) (zdk ttX8_fewestCrossings 111 rfl rfl) (by decide) (by decide) (fun c14457 => ?_) (fun c14457 => ?_)
                                · refine zj_iinc (L' := [some (.inr 108), some (.inr p1), some (.inl p2), some (.inl p3), some (.inl ((zshl 1 p2) - 1)), some (.inl x13882), some (.inl x12), some (.inl (h13.2 112 x12)), some (.inl ((h13.2 112 x12) % 64)), some (.inl 1), some (.inl ((h13.2 112 x12) % 64)), some (.inl (x13883 + 1)), some (.inl 0), some (.inl ((zxor ((h13.2 112 x12) % 64) x13883) + 0)), some (.inl 1)]) (zdk ttX8_fewestCrossings 138 rfl rfl) rfl (by decide) rfl ?_
                                  refine zj_goto (t := 119) (zdk ttX8_fewestCrossings 139 rfl rfl) (by decide) ?_
                                  refine zj_kill (k := 12) (L' := [some (.inr 108), some (.inr p1), some (.inl p2), some (.inl p3), some (.inl ((zshl 1 p2) - 1)), some (.inl x13882), some (.inl x12), some (.inl (h13.2 112 x12)), some (.inl ((h13.2 112 x12) % 64)), some (.inl 1), some (.inl ((h13.2 112 x12) % 64)), some (.inl (x13883 + 1)), none, some (.inl ((zxor ((h13.2 112 x12) % 64) x13883) + 0)), some (.inl 1)]) rfl ?_
                                  refine zj_kill (k := 13) (L' := [some (.inr 108), some (.inr p1), some (.inl p2), some (.inl p3), some (.inl ((zshl 1 p2) - 1)), some (.inl x13882), some (.inl x12), some (.inl (h13.2 112 x12)), some (.inl ((h13.2 112 x12) % 64)), some (.inl 1), some (.inl ((h13.2 112 x12) % 64)), some (.inl (x13883 + 1)), none, none, some (.inl 1)]) rfl ?_
                                  refine zj_kill (k := 14) (L' := [some (.inr 108), some (.inr p1), some (.inl p2), some (.inl p3), some (.inl ((zshl 1 p2) - 1)), some (.inl x13882), some (.inl x12), some (.inl (h13.2 112 x12)), some (.inl ((h13.2 112 x12) % 64)), some (.inl 1), some (.inl ((h13.2 112 x12) % 64)), some (.inl (x13883 + 1)), none, none, none]) rfl ?_
                                  exact ih14432  x13882 (x13883 + 1) h13884 (by omega) (by omega) s13885 (by omega)
                                · exact absurd c14457 (by omega)
                        · refine zj_iconst (zdk ttX8_fewestCrossings 81 rfl rfl) ?_
                          refine zj_goto (t := 150) (zdk ttX8_fewestCrossings 82 rfl rfl) (by decide) ?_
                          refine zj_istore (L' := [some (.inr 108), some (.inr p1), some (.inl p2), some (.inl p3), some (.inl ((zshl 1 p2) - 1)), some (.inl x13882), some (.inl x12), some (.inl (h13.2 112 x12)), some (.inl ((h13.2 112 x12) % 64)), some (.inl 1), some (.inl ((h13.2 112 x12) % 64)), some (.inl x13883), some (.inl 1), none, none]) (zdk ttX8_fewestCrossings 84 rfl rfl) (by decide) rfl ?_
                          refine zj_iload (zdk ttX8_fewestCrossings 85 rfl rfl) rfl ?_
                          refine zj_iload (zdk ttX8_fewestCrossings 86 rfl rfl) rfl ?_
                          refine zj_ixor (zdk ttX8_fewestCrossings 87 rfl rfl) ?_
                          have b14458 := zxor_k (a := ((h13.2 112 x12) % 64)) (b := x13883) (K := 64) 6 (by decide) (by decide) (by omega) (by omega)
                          refine zj_iload (zdk ttX8_fewestCrossings 88 rfl rfl) rfl ?_
                          refine zj_if_eq (t := 166) (zdk ttX8_fewestCrossings 89 rfl rfl) (by decide) (by decide) (fun c14459 => ?_) (fun c14459 => ?_)
                          · exact absurd c14459 (by omega)
                          · refine zj_iconst (zdk ttX8_fewestCrossings 90 rfl rfl) ?_
                            refine zj_goto (t := 168) (zdk ttX8_fewestCrossings 91 rfl rfl) (by decide) ?_
                            refine zj_iadd (zdk ttX8_fewestCrossings 93 rfl rfl) ?_
                            refine zj_istore (L' := [some (.inr 108), some (.inr p1), some (.inl p2), some (.inl p3), some (.inl ((zshl 1 p2) - 1)), some (.inl x13882), some (.inl x12), some (.inl (h13.2 112 x12)), some (.inl ((h13.2 112 x12) % 64)), some (.inl 1), some (.inl ((h13.2 112 x12) % 64)), some (.inl x13883), some (.inl 1), some (.inl ((zxor ((h13.2 112 x12) % 64) x13883) + 0)), none]) (zdk ttX8_fewestCrossings 94 rfl rfl) (by decide) rfl ?_
                            refine zj_aload_n (zdk ttX8_fewestCrossings 95 rfl rfl) rfl (by decide) ?_
                            refine zj_getr (r := 111) (zdk ttX8_fewestCrossings 96 rfl rfl) zf_RX8_18 rfl (k_L108 s13885) (rf_L108_2 s13885) ?_
                            refine zj_iload (zdk ttX8_fewestCrossings 97 rfl rfl) rfl ?_
                            have b14460 : -2147483648 ≤ (h13884.2 111 ((zxor ((h13.2 112 x12) % 64) x13883) + 0)) ∧ (h13884.2 111 ((zxor ((h13.2 112 x12) % 64) x13883) + 0)) ≤ 2147483647 := ab_L108_2 s13885 ((zxor ((h13.2 112 x12) % 64) x13883) + 0)
                            refine zj_iald (v := (h13884.2 111 ((zxor ((h13.2 112 x12) % 64) x13883) + 0))) (zdk ttX8_fewestCrossings 98 rfl rfl) (ka_L108_2 s13885) (by decide) (by omega) rfl ?_
                            refine zj_iconst (zdk ttX8_fewestCrossings 99 rfl rfl) ?_
                            refine zj_icmp_ne (t := 196) (zdk ttX8_fewestCrossings 100 rfl rfl) (by decide) (by omega) (by decide) (fun c14461 => ?_) (fun c14461 => ?_)
                            · refine zj_iconst (zdk ttX8_fewestCrossings 108 rfl rfl) ?_
                              refine zj_istore (L' := [some (.inr 108), some (.inr p1), some (.inl p2), some (.inl p3), some (.inl ((zshl 1 p2) - 1)), some (.inl x13882), some (.inl x12), some (.inl (h13.2 112 x12)), some (.inl ((h13.2 112 x12) % 64)), some (.inl 1), some (.inl ((h13.2 112 x12) % 64)), some (.inl x13883), some (.inl 1), some (.inl ((zxor ((h13.2 112 x12) % 64) x13883) + 0)), some (.inl 0)]) (zdk ttX8_fewestCrossings 109 rfl rfl) (by decide) rfl ?_
                              refine zj_iload (zdk ttX8_fewestCrossings 110 rfl rfl) rfl ?_
                              refine zj_if_eq (t := 251) (zdk ttX8_fewestCrossings 111 rfl rfl) (by decide) (by decide) (fun c14462 => ?_) (fun c14462 => ?_)
                              · exact absurd c14462 (by omega)
                              · refine zj_iload (zdk ttX8_fewestCrossings 112 rfl rfl) rfl ?_
                                refine zj_if_eq (t := 251) (zdk ttX8_fewestCrossings 113 rfl rfl) (by decide) (by decide) (fun c14463 => ?_) (fun c14463 => ?_)
                                · refine zj_iinc (L' := [some (.inr 108), some (.inr p1), some (.inl p2), some (.inl p3), some (.inl ((zshl 1 p2) - 1)), some (.inl x13882), some (.inl x12), some (.inl (h13.2 112 x12)), some (.inl ((h13.2 112 x12) % 64)), some (.inl 1), some (.inl ((h13.2 112 x12) % 64)), some (.inl (x13883 + 1)), some (.inl 1), some (.inl ((zxor ((h13.2 112 x12) % 64) x13883) + 0)), some (.inl 0)]) (zdk ttX8_fewestCrossings 138 rfl rfl) rfl (by decide) rfl ?_
                                  refine zj_goto (t := 119) (zdk ttX8_fewestCrossings 139 rfl rfl) (by decide) ?_
                                  refine zj_kill (k := 12) (L' := [some (.inr 108), some (.inr p1), some (.inl p2), some (.inl p3), some (.inl ((zshl 1 p2) - 1)), some (.inl x13882), some (.inl x12), some (.inl (h13.2 112 x12)), some (.inl ((h13.2 112 x12) % 64)), some (.inl 1), some (.inl ((h13.2 112 x12) % 64)), some (.inl (x13883 + 1)), none, some (.inl ((zxor ((h13.2 112 x12) % 64) x13883) + 0)), some (.inl 0)]) rfl ?_
                                  refine zj_kill (k := 13) (L' := [some (.inr 108), some (.inr p1), some (.inl p2), some (.inl p3), some (.inl ((zshl 1 p2) - 1)), some (.inl x13882), some (.inl x12), some (.inl (h13.2 112 x12)), some (.inl ((h13.2 112 x12) % 64)), some (.inl 1), some (.inl ((h13.2 112 x12) % 64)), some (.inl (x13883 + 1)), none, none, some (.inl 0)]) rfl ?_
                                  refine zj_kill (k := 14) (L' := [some (.inr 108), some (.inr p1), some (.inl p2), some (.inl p3), some (.inl ((zshl 1 p2) - 1)), some (.inl x13882), some (.inl x12), some (.inl (h13.2 112 x12)), some (.inl ((h13.2 112 x12) % 64)), some (.inl 1), some (.inl ((h13.2 112 x12) % 64)), some (.inl (x13883 + 1)), none, none, none]) rfl ?_
                                  exact ih14432  x13882 (x13883 + 1) h13884 (by omega) (by omega) s13885 (by omega)
                                · exact absurd c14463 (by omega)
                            · refine zj_iload (zdk ttX8_fewestCrossings 101 rfl rfl) rfl ?_
                              refine zj_aload_n (zdk ttX8_fewestCrossings 102 rfl rfl) rfl (by decide) ?_
                              refine zj_getr (r := 112) (zdk ttX8_fewestCrossings 103 rfl rfl) zf_RX8_21 rfl (k_L108 s13885) (rf_L108_3 s13885) ?_
                              refine zj_alen (zdk ttX8_fewestCrossings 104 rfl rfl) (ka_L108_3 s13885) ?_
                              refine zj_icmp_ge (t := 196) (zdk ttX8_fewestCrossings 105 rfl rfl) (by decide) (by omega) (by decide) (fun c14464 => ?_) (fun c14464 => ?_)
                              · refine zj_iconst (zdk ttX8_fewestCrossings 108 rfl rfl) ?_
                                refine zj_istore (L' := [some (.inr 108), some (.inr p1), some (.inl p2), some (.inl p3), some (.inl ((zshl 1 p2) - 1)), some (.inl x13882), some (.inl x12), some (.inl (h13.2 112 x12)), some (.inl ((h13.2 112 x12) % 64)), some (.inl 1), some (.inl ((h13.2 112 x12) % 64)), some (.inl x13883), some (.inl 1), some (.inl ((zxor ((h13.2 112 x12) % 64) x13883) + 0)), some (.inl 0)]) (zdk ttX8_fewestCrossings 109 rfl rfl) (by decide) rfl ?_
                                refine zj_iload (zdk ttX8_fewestCrossings 110 rfl rfl) rfl ?_
                                refine zj_if_eq (t := 251) (zdk ttX8_fewestCrossings 111 rfl rfl) (by decide) (by decide) (fun c14465 => ?_) (fun c14465 => ?_)
                                · exact absurd c14465 (by omega)
                                · refine zj_iload (zdk ttX8_fewestCrossings 112 rfl rfl) rfl ?_
                                  refine zj_if_eq (t := 251) (zdk ttX8_fewestCrossings 113 rfl rfl) (by decide) (by decide) (fun c14466 => ?_) (fun c14466 => ?_)
                                  · refine zj_iinc (L' := [some (.inr 108), some (.inr p1), some (.inl p2), some (.inl p3), some (.inl ((zshl 1 p2) - 1)), some (.inl x13882), some (.inl x12), some (.inl (h13.2 112 x12)), some (.inl ((h13.2 112 x12) % 64)), some (.inl 1), some (.inl ((h13.2 112 x12) % 64)), some (.inl (x13883 + 1)), some (.inl 1), some (.inl ((zxor ((h13.2 112 x12) % 64) x13883) + 0)), some (.inl 0)]) (zdk ttX8_fewestCrossings 138 rfl rfl) rfl (by decide) rfl ?_
                                    refine zj_goto (t := 119) (zdk ttX8_fewestCrossings 139 rfl rfl) (by decide) ?_
                                    refine zj_kill (k := 12) (L' := [some (.inr 108), some (.inr p1), some (.inl p2), some (.inl p3), some (.inl ((zshl 1 p2) - 1)), some (.inl x13882), some (.inl x12), some (.inl (h13.2 112 x12)), some (.inl ((h13.2 112 x12) % 64)), some (.inl 1), some (.inl ((h13.2 112 x12) % 64)), some (.inl (x13883 + 1)), none, some (.inl ((zxor ((h13.2 112 x12) % 64) x13883) + 0)), some (.inl 0)]) rfl ?_
                                    refine zj_kill (k := 13) (L' := [some (.inr 108), some (.inr p1), some (.inl p2), some (.inl p3), some (.inl ((zshl 1 p2) - 1)), some (.inl x13882), some (.inl x12), some (.inl (h13.2 112 x12)), some (.inl ((h13.2 112 x12) % 64)), some (.inl 1), some (.inl ((h13.2 112 x12) % 64)), some (.inl (x13883 + 1)), none, none, some (.inl 0)]) rfl ?_
                                    refine zj_kill (k := 14) (L' := [some (.inr 108), some (.inr p1), some (.inl p2), some (.inl p3), some (.inl ((zshl 1 p2) - 1)), some (.inl x13882), some (.inl x12), some (.inl (h13.2 112 x12)), some (.inl ((h13.2 112 x12) % 64)), some (.inl 1), some (.inl ((h13.2 112 x12) % 64)), some (.inl (x13883 + 1)), none, none, none]) rfl ?_
                                    exact ih14432  x13882 (x13883 + 1) h13884 (by omega) (by omega) s13885 (by omega)
                                  · exact absurd c14466 (by omega)
                              · refine zj_iconst (zdk ttX8_fewestCrossings 106 rfl rfl) ?_
                                refine zj_goto (t := 197) (zdk ttX8_fewestCrossings 107 rfl rfl) (by decide) ?_
                                refine zj_istore (L' := [some (.inr 108), some (.inr p1), some (.inl p2), some (.inl p3), some (.inl ((zshl 1 p2) - 1)), some (.inl x13882), some (.inl x12), some (.inl (h13.2 112 x12)), some (.inl ((h13.2 112 x12) % 64)), some (.inl 1), some (.inl ((h13.2 112 x12) % 64)), some (.inl x13883), some (.inl 1), some (.inl ((zxor ((h13.2 112 x12) % 64) x13883) + 0)), some (.inl 1)]) (zdk ttX8_fewestCrossings 109 rfl rfl) (by decide) rfl ?_
                                refine zj_iload (zdk ttX8_fewestCrossings 110 rfl rfl) rfl ?_
                                refine zj_if_eq (t := 251) (zdk ttX8_fewestCrossings 111 rfl rfl) (by decide) (by decide) (fun c14467 => ?_) (fun c14467 => ?_)
                                · exact absurd c14467 (by omega)
                                · refine zj_iload (zdk ttX8_fewestCrossings 112 rfl rfl) rfl ?_
                                  refine zj_if_eq (t := 251) (zdk ttX8_fewestCrossings 113 rfl rfl) (by decide) (by decide) (fun c14468 => ?_) (fun c14468 => ?_)
                                  · exact absurd c14468 (by omega)
                                  · refine zj_aload_n (zdk ttX8_fewestCrossings 114 rfl rfl) rfl (by omega) ?_
                                    refine zj_iload (zdk ttX8_fewestCrossings 115 rfl rfl) rfl ?_
                                    refine zj_iload (zdk ttX8_fewestCrossings 116 rfl rfl) rfl ?_
                                    refine zj_iconst (zdk ttX8_fewestCrossings 117 rfl rfl) ?_
                                    refine zj_ixor (zdk ttX8_fewestCrossings 118 rfl rfl) ?_
                                    have b14469 := zxor_in x13883 (-1)
                                    refine zj_iand (zdk ttX8_fewestCrossings 119 rfl rfl) ?_
                                    have b14470 := zand_l (a := ((h13.2 112 x12) % 64)) (by omega) (zxor x13883 (-1))
                                    refine zj_callV (av := [.inl (zand ((h13.2 112 x12) % 64) (zxor x13883 (-1)))]) (st := []) (zdk ttX8_fewestCrossings 120 rfl rfl) mb_X5_isSafe mv_RX8_51 (ci := 5) rfl rfl (k_5_0 s13885 r_p1) rfl rfl (Nat.le_of_ble_eq_true rfl) (s_X5_isSafe l h13884 p1 (zand ((h13.2 112 x12) % 64) (zxor x13883 (-1))) s13885 r_p1 (by omega)) (rm_ok (by decide) (by decide)) (zq_i fun v14472 h14473 q14471 => ?_)
                                    obtain ⟨rfl, b14474⟩ := q14471
                                    refine zj_if_eq (t := 251) (zdk ttX8_fewestCrossings 121 rfl rfl) (by decide) (by omega) (fun c14475 => ?_) (fun c14475 => ?_)
                                    · refine zj_iinc (L' := [some (.inr 108), some (.inr p1), some (.inl p2), some (.inl p3), some (.inl ((zshl 1 p2) - 1)), some (.inl x13882), some (.inl x12), some (.inl (h13.2 112 x12)), some (.inl ((h13.2 112 x12) % 64)), some (.inl 1), some (.inl ((h13.2 112 x12) % 64)), some (.inl (x13883 + 1)), some (.inl 1), some (.inl ((zxor ((h13.2 112 x12) % 64) x13883) + 0)), some (.inl 1)]) (zdk ttX8_fewestCrossings 138 rfl rfl) rfl (by decide) rfl ?_
                                      refine zj_goto (t := 119) (zdk ttX8_fewestCrossings 139 rfl rfl) (by decide) ?_
                                      refine zj_kill (k := 12) (L' := [some (.inr 108), some (.inr p1), some (.inl p2), some (.inl p3), some (.inl ((zshl 1 p2) - 1)), some (.inl x13882), some (.inl x12), some (.inl (h13.2 112 x12)), some (.inl ((h13.2 112 x12) % 64)), some (.inl 1), some (.inl ((h13.2 112 x12) % 64)), some (.inl (x13883 + 1)), none, some (.inl ((zxor ((h13.2 112 x12) % 64) x13883) + 0)), some (.inl 1)]) rfl ?_
                                      refine zj_kill (k := 13) (L' := [some (.inr 108), some (.inr p1), some (.inl p2), some (.inl p3), some (.inl ((zshl 1 p2) - 1)), some (.inl x13882), some (.inl x12), some (.inl (h13.2 112 x12)), some (.inl ((h13.2 112 x12) % 64)), some (.inl 1), some (.inl ((h13.2 112 x12) % 64)), some (.inl (x13883 + 1)), none, none, some (.inl 1)]) rfl ?_
                                      refine zj_kill (k := 14) (L' := [some (.inr 108), some (.inr p1), some (.inl p2), some (.inl p3), some (.inl ((zshl 1 p2) - 1)), some (.inl x13882), some (.inl x12), some (.inl (h13.2 112 x12)), some (.inl ((h13.2 112 x12) % 64)), some (.inl 1), some (.inl ((h13.2 112 x12) % 64)), some (.inl (x13883 + 1)), none, none, none]) rfl ?_
                                      exact ih14432  x13882 (x13883 + 1) h13884 (by omega) (by omega) s13885 (by omega)
                                    · refine zj_aload_n (zdk ttX8_fewestCrossings 122 rfl rfl) rfl (by decide) ?_
                                      refine zj_getr (r := 111) (zdk ttX8_fewestCrossings 123 rfl rfl) zf_RX8_18 rfl (k_L108 s13885) (rf_L108_2 s13885) ?_
                                      refine zj_iload (zdk ttX8_fewestCrossings 124 rfl rfl) rfl ?_
                                      refine zj_aload_n (zdk ttX8_fewestCrossings 125 rfl rfl) rfl (by decide) ?_
                                      refine zj_getr (r := 111) (zdk ttX8_fewestCrossings 126 rfl rfl) zf_RX8_18 rfl (k_L108 s13885) (rf_L108_2 s13885) ?_
                                      refine zj_iload (zdk ttX8_fewestCrossings 127 rfl rfl) rfl ?_
                                      have b14476 : -2147483648 ≤ (h13884.2 111 (h13.2 112 x12)) ∧ (h13884.2 111 (h13.2 112 x12)) ≤ 2147483647 := ab_L108_2 s13885 (h13.2 112 x12)
                                      refine zj_iald (v := (h13884.2 111 (h13.2 112 x12))) (zdk ttX8_fewestCrossings 128 rfl rfl) (ka_L108_2 s13885) (by decide) (by omega) rfl ?_
                                      refine zj_iconst (zdk ttX8_fewestCrossings 129 rfl rfl) ?_
                                      refine zj_iadd (zdk ttX8_fewestCrossings 130 rfl rfl) ?_
                                      refine zj_wrap ?_
                                      have b14477 := zwp_in ((h13884.2 111 (h13.2 112 x12)) + 1)
                                      refine zj_iast (zdk ttX8_fewestCrossings 131 rfl rfl) (ka_L108_2 s13885) (by decide) (by omega) (fun h14478 e14479 => ?_)
                                      refine zj_aload_n (zdk ttX8_fewestCrossings 132 rfl rfl) rfl (by decide) ?_
                                      have s14480 : okC h14478 := aw_L108_2 s13885 e14479 (by omega)
                                      refine zj_getr (r := 112) (zdk ttX8_fewestCrossings 133 rfl rfl) zf_RX8_21 rfl (k_L108 s14480) (rf_L108_3 s14480) ?_
                                      refine zj_iload (zdk ttX8_fewestCrossings 134 rfl rfl) rfl ?_
                                      refine zj_iinc (L' := [some (.inr 108), some (.inr p1), some (.inl p2), some (.inl p3), some (.inl ((zshl 1 p2) - 1)), some (.inl (x13882 + 1)), some (.inl x12), some (.inl (h13.2 112 x12)), some (.inl ((h13.2 112 x12) % 64)), some (.inl 1), some (.inl ((h13.2 112 x12) % 64)), some (.inl x13883), some (.inl 1), some (.inl ((zxor ((h13.2 112 x12) % 64) x13883) + 0)), some (.inl 1)]) (zdk ttX8_fewestCrossings 135 rfl rfl) rfl (by decide) rfl ?_
                                      refine zj_iload (zdk ttX8_fewestCrossings 136 rfl rfl) rfl ?_
                                      refine zj_iast (zdk ttX8_fewestCrossings 137 rfl rfl) (ka_L108_3 s14480) (by decide) (by omega) (fun h14481 e14482 => ?_)
                                      refine zj_iinc (L' := [some (.inr 108), some (.inr p1), some (.inl p2), some (.inl p3), some (.inl ((zshl 1 p2) - 1)), some (.inl (x13882 + 1)), some (.inl x12), some (.inl (h13.2 112 x12)), some (.inl ((h13.2 112 x12) % 64)), some (.inl 1), some (.inl ((h13.2 112 x12) % 64)), some (.inl (x13883 + 1)), some (.inl 1), some (.inl ((zxor ((h13.2 112 x12) % 64) x13883) + 0)), some (.inl 1)]) (zdk ttX8_fewestCrossings 138 rfl rfl) rfl (by decide) rfl ?_
                                      refine zj_goto (t := 119) (zdk ttX8_fewestCrossings 139 rfl rfl) (by decide) ?_
                                      refine zj_kill (k := 12) (L' := [some (.inr 108), some (.inr p1), some (.inl p2), some (.inl p3), some (.inl ((zshl 1 p2) - 1)), some (.inl (x13882 + 1)), some (.inl x12), some (.inl (h13.2 112 x12)), some (.inl ((h13.2 112 x12) % 64)), some (.inl 1), some (.inl ((h13.2 112 x12) % 64)), some (.inl (x13883 + 1)), none, some (.inl ((zxor ((h13.2 112 x12) % 64) x13883) + 0)), some (.inl 1)]) rfl ?_
                                      refine zj_kill (k := 13) (L' := [some (.inr 108), some (.inr p1), some (.inl p2), some (.inl p3), some (.inl ((zshl 1 p2) - 1)), some (.inl (x13882 + 1)), some (.inl x12), some (.inl (h13.2 112 x12)), some (.inl ((h13.2 112 x12) % 64)), some (.inl 1), some (.inl ((h13.2 112 x12) % 64)), some (.inl (x13883 + 1)), none, none, some (.inl 1)]) rfl ?_
                                      refine zj_kill (k := 14) (L' := [some (.inr 108), some (.inr p1), some (.inl p2), some (.inl p3), some (.inl ((zshl 1 p2) - 1)), some (.inl (x13882 + 1)), some (.inl x12), some (.inl (h13.2 112 x12)), some (.inl ((h13.2 112 x12) % 64)), some (.inl 1), some (.inl ((h13.2 112 x12) % 64)), some (.inl (x13883 + 1)), none, none, none]) rfl ?_
                                      have s14483 : okC h14481 := aw_L108_3 s14480 e14482 (by omega)
                                      exact ih14432  (x13882 + 1) (x13883 + 1) h14481 (by omega) (by omega) s14483 (by omega)
                exact lp14428 _ x11 0 h13 (by omega) (by omega) s14 (Nat.lt_succ_self _)
          · refine zj_aload_n (zdk ttX8_fewestCrossings 44 rfl rfl) rfl (by decide) ?_
            refine zj_getr (r := 111) (zdk ttX8_fewestCrossings 45 rfl rfl) zf_RX8_18 rfl (k_L108 s14) (rf_L108_2 s14) ?_
            refine zj_iload (zdk ttX8_fewestCrossings 46 rfl rfl) rfl ?_
            have b14484 : -2147483648 ≤ (h13.2 111 (h13.2 112 x12)) ∧ (h13.2 111 (h13.2 112 x12)) ≤ 2147483647 := ab_L108_2 s14 (h13.2 112 x12)
            refine zj_iald (v := (h13.2 111 (h13.2 112 x12))) (zdk ttX8_fewestCrossings 47 rfl rfl) (ka_L108_2 s14) (by decide) (by omega) rfl ?_
            exact zj_iret rfl (zdk ttX8_fewestCrossings 48 rfl rfl) (Nat.le_refl _) (Nat.le_refl _) ⟨(h13.2 111 (h13.2 112 x12)), rfl, by omega, s14⟩
  have s14485 : okC h9 := aw_L108_3 s8 e10 (by omega)
  exact lp13266 _ 1 0 h9 (by omega) (by omega) s14485 (Nat.lt_succ_self _)

abbrev tX8_ringInOrder : List (Nat × Instr × Nat) := [(0, .iconst 0, 1), (1, .istore_n 2, 1), (2, .iload_n 2, 1), (3, .iload_n 1, 1), (4, .if_icmp .ge 16, 3), (7, .aload_n 0, 1), (8, .getfield 15, 3), (11, .iload_n 2, 1), (12, .iload_n 2, 1), (13, .iastore, 1), (14, .iinc 2 1, 3), (17, .goto (-15), 3), (20, .return_, 1)]
theorem ttX8_ringInOrder : zdt cX8_ringInOrder tX8_ringInOrder = true := by decide +kernel
abbrev q_X8_ringInOrder (h : zM) (p1 : Int) : Option zV → zM → Prop := zqv fun h' => okC h'
set_option maxRecDepth 100000 in
set_option maxHeartbeats 4000000 in
theorem s_X8_ringInOrder (l : Launch) (h : zM) (p1 : Int) (s0 : okC h) (b_p1 : 3 ≤ p1 ∧ p1 ≤ 8) : zT shC l yX8_ringInOrder cX8_ringInOrder 3 none (rmL 1) 0 0 [.inr 108, .inl p1] h (q_X8_ringInOrder h p1) := by
  refine zT_of (by decide +kernel) (L0 := [some (.inr 108), some (.inl p1), none]) rfl (Nat.le_of_ble_eq_true rfl) ?_
  refine zj_iconst (zdk ttX8_ringInOrder 0 rfl rfl) ?_
  refine zj_istore_n (L' := [some (.inr 108), some (.inl p1), some (.inl 0)]) (zdk ttX8_ringInOrder 1 rfl rfl) (by decide) rfl ?_
  have lp19 : ∀ (n : Nat) (x1 : Int) (h2 : zM), (0 ≤ x1 ∧ x1 ≤ 8) → okC h2 → (9 - x1).toNat < n → zJ shC l yX8_ringInOrder cX8_ringInOrder 3 none (rmL 1) 0 0 (q_X8_ringInOrder h p1) 0 0 2 [some (.inr 108), some (.inl p1), some (.inl x1)] [] h2 := by
    intro n
    induction n with
    | zero => intro x1 h2 b20 s3 m21; exact absurd m21 (Nat.not_lt_zero _)
    | succ n ih22 =>
      intro x1 h2 b20 s3 m21
      refine zj_iload_n (zdk ttX8_ringInOrder 2 rfl rfl) rfl ?_
      refine zj_iload_n (zdk ttX8_ringInOrder 3 rfl rfl) rfl ?_
      refine zj_icmp_ge (t := 20) (zdk ttX8_ringInOrder 4 rfl rfl) (by decide) (by omega) (by omega) (fun c23 => ?_) (fun c23 => ?_)
      · exact zj_vret rfl (zdk ttX8_ringInOrder 12 rfl rfl) (Nat.le_refl _) (Nat.le_refl _) ⟨rfl, s3⟩
      · refine zj_aload_n (zdk ttX8_ringInOrder 5 rfl rfl) rfl (by decide) ?_
        refine zj_getr (r := 110) (zdk ttX8_ringInOrder 6 rfl rfl) zf_RX8_15 rfl (k_L108 s3) (rf_L108_1 s3) ?_
        refine zj_iload_n (zdk ttX8_ringInOrder 7 rfl rfl) rfl ?_
        refine zj_iload_n (zdk ttX8_ringInOrder 8 rfl rfl) rfl ?_
        refine zj_iast (zdk ttX8_ringInOrder 9 rfl rfl) (ka_L108_1 s3) (by decide) (by omega) (fun h24 e25 => ?_)
        refine zj_iinc (L' := [some (.inr 108), some (.inl p1), some (.inl (x1 + 1))]) (zdk ttX8_ringInOrder 10 rfl rfl) rfl (by decide) rfl ?_
        refine zj_goto (t := 2) (zdk ttX8_ringInOrder 11 rfl rfl) (by decide) ?_
        have s26 : okC h24 := aw_L108_1 s3 e25 (by omega)
        exact ih22  (x1 + 1) h24 (by omega) s26 (by omega)
  exact lp19 _ 0 h (by omega) s0 (Nat.lt_succ_self _)

abbrev tX8_change : List (Nat × Instr × Nat) := [(0, .iload_n 2, 1), (1, .iconst 2, 1), (2, .irem, 1), (3, .istore_n 3, 1), (4, .iload_n 3, 1), (5, .iconst 1, 1), (6, .iadd, 1), (7, .iload_n 1, 1), (8, .if_icmp .ge 41, 3), (11, .aload_n 0, 1), (12, .getfield 15, 3), (15, .iload_n 3, 1), (16, .iaload, 1), (17, .istore 4, 2), (19, .aload_n 0, 1), (20, .getfield 15, 3), (23, .iload_n 3, 1), (24, .aload_n 0, 1), (25, .getfield 15, 3), (28, .iload_n 3, 1), (29, .iconst 1, 1), (30, .iadd, 1), (31, .iaload, 1), (32, .iastore, 1), (33, .aload_n 0, 1), (34, .getfield 15, 3), (37, .iload_n 3, 1), (38, .iconst 1, 1), (39, .iadd, 1), (40, .iload 4, 2), (42, .iastore, 1), (43, .iinc 3 2, 3), (46, .goto (-42), 3), (49, .return_, 1)]
theorem ttX8_change : zdt cX8_change tX8_change = true := by decide +kernel
abbrev q_X8_change (h : zM) (p1 : Int) (p2 : Int) : Option zV → zM → Prop := zqv fun h' => okC h'
set_option maxRecDepth 100000 in
set_option maxHeartbeats 4000000 in
theorem s_X8_change (l : Launch) (h : zM) (p1 : Int) (p2 : Int) (s0 : okC h) (b_p1 : 3 ≤ p1 ∧ p1 ≤ 8) (b_p2 : 0 ≤ p2 ∧ p2 ≤ 16) : zT shC l yX8_change cX8_change 5 none (rmL 1) 0 0 [.inr 108, .inl p1, .inl p2] h (q_X8_change h p1 p2) := by
  refine zT_of (by decide +kernel) (L0 := [some (.inr 108), some (.inl p1), some (.inl p2), none, none]) rfl (Nat.le_of_ble_eq_true rfl) ?_
  refine zj_iload_n (zdk ttX8_change 0 rfl rfl) rfl ?_
  refine zj_iconst (zdk ttX8_change 1 rfl rfl) ?_
  refine zj_iremP (zdk ttX8_change 2 rfl rfl) (by omega) (by omega) ?_
  refine zj_istore_n (L' := [some (.inr 108), some (.inl p1), some (.inl p2), some (.inl (p2 % 2)), none]) (zdk ttX8_change 3 rfl rfl) (by decide) rfl ?_
  have lp36 : ∀ (n : Nat) (x1 : Int) (h2 : zM), (0 ≤ x1 ∧ x1 ≤ 8) → okC h2 → (9 - x1).toNat < n → zJ shC l yX8_change cX8_change 5 none (rmL 1) 0 0 (q_X8_change h p1 p2) 0 0 4 [some (.inr 108), some (.inl p1), some (.inl p2), some (.inl x1), none] [] h2 := by
    intro n
    induction n with
    | zero => intro x1 h2 b37 s3 m38; exact absurd m38 (Nat.not_lt_zero _)
    | succ n ih39 =>
      intro x1 h2 b37 s3 m38
      refine zj_iload_n (zdk ttX8_change 4 rfl rfl) rfl ?_
      refine zj_iconst (zdk ttX8_change 5 rfl rfl) ?_
      refine zj_iadd (zdk ttX8_change 6 rfl rfl) ?_
      refine zj_iload_n (zdk ttX8_change 7 rfl rfl) rfl ?_
      refine zj_icmp_ge (t := 49) (zdk ttX8_change 8 rfl rfl) (by decide) (by omega) (by omega) (fun c40 => ?_) (fun c40 => ?_)
      · exact zj_vret rfl (zdk ttX8_change 33 rfl rfl) (Nat.le_refl _) (Nat.le_refl _) ⟨rfl, s3⟩
      · refine zj_aload_n (zdk ttX8_change 9 rfl rfl) rfl (by decide) ?_
        refine zj_getr (r := 110) (zdk ttX8_change 10 rfl rfl) zf_RX8_15 rfl (k_L108 s3) (rf_L108_1 s3) ?_
        refine zj_iload_n (zdk ttX8_change 11 rfl rfl) rfl ?_
        have b41 : -2147483648 ≤ (h2.2 110 x1) ∧ (h2.2 110 x1) ≤ 2147483647 := ab_L108_1 s3 x1
        refine zj_iald (v := (h2.2 110 x1)) (zdk ttX8_change 12 rfl rfl) (ka_L108_1 s3) (by decide) (by omega) rfl ?_
        refine zj_istore (L' := [some (.inr 108), some (.inl p1), some (.inl p2), some (.inl x1), some (.inl (h2.2 110 x1))]) (zdk ttX8_change 13 rfl rfl) (by decide) rfl ?_
        refine zj_aload_n (zdk ttX8_change 14 rfl rfl) rfl (by decide) ?_
        refine zj_getr (r := 110) (zdk ttX8_change 15 rfl rfl) zf_RX8_15 rfl (k_L108 s3) (rf_L108_1 s3) ?_
        refine zj_iload_n (zdk ttX8_change 16 rfl rfl) rfl ?_
        refine zj_aload_n (zdk ttX8_change 17 rfl rfl) rfl (by decide) ?_
        refine zj_getr (r := 110) (zdk ttX8_change 18 rfl rfl) zf_RX8_15 rfl (k_L108 s3) (rf_L108_1 s3) ?_
        refine zj_iload_n (zdk ttX8_change 19 rfl rfl) rfl ?_
        refine zj_iconst (zdk ttX8_change 20 rfl rfl) ?_
        refine zj_iadd (zdk ttX8_change 21 rfl rfl) ?_
        have b42 : -2147483648 ≤ (h2.2 110 (x1 + 1)) ∧ (h2.2 110 (x1 + 1)) ≤ 2147483647 := ab_L108_1 s3 (x1 + 1)
        refine zj_iald (v := (h2.2 110 (x1 + 1))) (zdk ttX8_change 22 rfl rfl) (ka_L108_1 s3) (by decide) (by omega) rfl ?_
        refine zj_iast (zdk ttX8_change 23 rfl rfl) (ka_L108_1 s3) (by decide) (by omega) (fun h43 e44 => ?_)
        refine zj_aload_n (zdk ttX8_change 24 rfl rfl) rfl (by decide) ?_
        have s45 : okC h43 := aw_L108_1 s3 e44 (by omega)
        refine zj_getr (r := 110) (zdk ttX8_change 25 rfl rfl) zf_RX8_15 rfl (k_L108 s45) (rf_L108_1 s45) ?_
        refine zj_iload_n (zdk ttX8_change 26 rfl rfl) rfl ?_
        refine zj_iconst (zdk ttX8_change 27 rfl rfl) ?_
        refine zj_iadd (zdk ttX8_change 28 rfl rfl) ?_
        refine zj_iload (zdk ttX8_change 29 rfl rfl) rfl ?_
        refine zj_iast (zdk ttX8_change 30 rfl rfl) (ka_L108_1 s45) (by decide) (by omega) (fun h46 e47 => ?_)
        refine zj_iinc (L' := [some (.inr 108), some (.inl p1), some (.inl p2), some (.inl (x1 + 2)), some (.inl (h2.2 110 x1))]) (zdk ttX8_change 31 rfl rfl) rfl (by decide) rfl ?_
        refine zj_goto (t := 4) (zdk ttX8_change 32 rfl rfl) (by decide) ?_
        refine zj_kill (k := 4) (L' := [some (.inr 108), some (.inl p1), some (.inl p2), some (.inl (x1 + 2)), none]) rfl ?_
        have s48 : okC h46 := aw_L108_1 s45 e47 (by omega)
        exact ih39  (x1 + 2) h46 (by omega) s48 (by omega)
  exact lp36 _ (p2 % 2) h (by omega) s0 (Nat.lt_succ_self _)

abbrev tX8_isInOrder : List (Nat × Instr × Nat) := [(0, .iconst 0, 1), (1, .istore_n 2, 1), (2, .iload_n 2, 1), (3, .iload_n 1, 1), (4, .if_icmp .ge 21, 3), (7, .aload_n 0, 1), (8, .getfield 15, 3), (11, .iload_n 2, 1), (12, .iaload, 1), (13, .iload_n 2, 1), (14, .if_icmp .eq 5, 3), (17, .iconst 0, 1), (18, .ireturn, 1), (19, .iinc 2 1, 3), (22, .goto (-20), 3), (25, .iconst 1, 1), (26, .ireturn, 1)]
theorem ttX8_isInOrder : zdt cX8_isInOrder tX8_isInOrder = true := by decide +kernel
abbrev q_X8_isInOrder (h : zM) (p1 : Int) : Option zV → zM → Prop := zqi fun v h' => h = h' ∧ (0 ≤ v ∧ v ≤ 1)
set_option maxRecDepth 100000 in
set_option maxHeartbeats 4000000 in
theorem s_X8_isInOrder (l : Launch) (h : zM) (p1 : Int) (s0 : okC h) (b_p1 : 3 ≤ p1 ∧ p1 ≤ 8) : zT shC l yX8_isInOrder cX8_isInOrder 3 (some .boolean) (rmL 1) 0 0 [.inr 108, .inl p1] h (q_X8_isInOrder h p1) := by
  refine zT_of (by decide +kernel) (L0 := [some (.inr 108), some (.inl p1), none]) rfl (Nat.le_of_ble_eq_true rfl) ?_
  refine zj_iconst (zdk ttX8_isInOrder 0 rfl rfl) ?_
  refine zj_istore_n (L' := [some (.inr 108), some (.inl p1), some (.inl 0)]) (zdk ttX8_isInOrder 1 rfl rfl) (by decide) rfl ?_
  have lp17 : ∀ (n : Nat) (x1 : Int), (0 ≤ x1 ∧ x1 ≤ 8) → (9 - x1).toNat < n → zJ shC l yX8_isInOrder cX8_isInOrder 3 (some .boolean) (rmL 1) 0 0 (q_X8_isInOrder h p1) 0 0 2 [some (.inr 108), some (.inl p1), some (.inl x1)] [] h := by
    intro n
    induction n with
    | zero => intro x1 b18 m19; exact absurd m19 (Nat.not_lt_zero _)
    | succ n ih20 =>
      intro x1 b18 m19
      refine zj_iload_n (zdk ttX8_isInOrder 2 rfl rfl) rfl ?_
      refine zj_iload_n (zdk ttX8_isInOrder 3 rfl rfl) rfl ?_
      refine zj_icmp_ge (t := 25) (zdk ttX8_isInOrder 4 rfl rfl) (by decide) (by omega) (by omega) (fun c21 => ?_) (fun c21 => ?_)
      · refine zj_iconst (zdk ttX8_isInOrder 15 rfl rfl) ?_
        exact zj_zret rfl (zdk ttX8_isInOrder 16 rfl rfl) (Nat.le_refl _) (Nat.le_refl _) (by omega) ⟨1, rfl, rfl, by omega⟩
      · refine zj_aload_n (zdk ttX8_isInOrder 5 rfl rfl) rfl (by decide) ?_
        refine zj_getr (r := 110) (zdk ttX8_isInOrder 6 rfl rfl) zf_RX8_15 rfl (k_L108 s0) (rf_L108_1 s0) ?_
        refine zj_iload_n (zdk ttX8_isInOrder 7 rfl rfl) rfl ?_
        have b22 : -2147483648 ≤ (h.2 110 x1) ∧ (h.2 110 x1) ≤ 2147483647 := ab_L108_1 s0 x1
        refine zj_iald (v := (h.2 110 x1)) (zdk ttX8_isInOrder 8 rfl rfl) (ka_L108_1 s0) (by decide) (by omega) rfl ?_
        refine zj_iload_n (zdk ttX8_isInOrder 9 rfl rfl) rfl ?_
        refine zj_icmp_eq (t := 19) (zdk ttX8_isInOrder 10 rfl rfl) (by decide) (by omega) (by omega) (fun c23 => ?_) (fun c23 => ?_)
        · refine zj_iinc (L' := [some (.inr 108), some (.inl p1), some (.inl (x1 + 1))]) (zdk ttX8_isInOrder 13 rfl rfl) rfl (by decide) rfl ?_
          refine zj_goto (t := 2) (zdk ttX8_isInOrder 14 rfl rfl) (by decide) ?_
          exact ih20  (x1 + 1) (by omega) (by omega)
        · refine zj_iconst (zdk ttX8_isInOrder 11 rfl rfl) ?_
          exact zj_zret rfl (zdk ttX8_isInOrder 12 rfl rfl) (Nat.le_refl _) (Nat.le_refl _) (by omega) ⟨0, rfl, rfl, by omega⟩
  exact lp17 _ 0 (by omega) (Nat.lt_succ_self _)

abbrev tX8_changesTillInOrder : List (Nat × Instr × Nat) := [(0, .aload_n 0, 1), (1, .iload_n 1, 1), (2, .invokevirtual 90, 3), (5, .iconst 0, 1), (6, .istore_n 2, 1), (7, .iload_n 2, 1), (8, .iconst 2, 1), (9, .iload_n 1, 1), (10, .imul, 1), (11, .if_icmp .ge 27, 3), (14, .aload_n 0, 1), (15, .iload_n 1, 1), (16, .iload_n 2, 1), (17, .invokevirtual 94, 3), (20, .aload_n 0, 1), (21, .iload_n 1, 1), (22, .invokevirtual 98, 3), (25, .ifCond .eq 7, 3), (28, .iload_n 2, 1), (29, .iconst 1, 1), (30, .iadd, 1), (31, .ireturn, 1), (32, .iinc 2 1, 3), (35, .goto (-28), 3), (38, .iconst 2, 1), (39, .iload_n 1, 1), (40, .imul, 1), (41, .ireturn, 1)]
theorem ttX8_changesTillInOrder : zdt cX8_changesTillInOrder tX8_changesTillInOrder = true := by decide +kernel
abbrev q_X8_changesTillInOrder (h : zM) (p1 : Int) : Option zV → zM → Prop := zqi fun v h' => ((-2147483648) ≤ v ∧ v ≤ 2147483647) ∧ okC h'
set_option maxRecDepth 100000 in
set_option maxHeartbeats 4000000 in
theorem s_X8_changesTillInOrder (l : Launch) (h : zM) (p1 : Int) (s0 : okC h) (b_p1 : 3 ≤ p1 ∧ p1 ≤ 8) : zT shC l yX8_changesTillInOrder cX8_changesTillInOrder 3 (some .int) (rmL 2) 0 0 [.inr 108, .inl p1] h (q_X8_changesTillInOrder h p1) := by
  refine zT_of (by decide +kernel) (L0 := [some (.inr 108), some (.inl p1), none]) rfl (Nat.le_of_ble_eq_true rfl) ?_
  refine zj_aload_n (zdk ttX8_changesTillInOrder 0 rfl rfl) rfl (by decide) ?_
  refine zj_iload_n (zdk ttX8_changesTillInOrder 1 rfl rfl) rfl ?_
  refine zj_callV (av := [.inl p1]) (st := []) (zdk ttX8_changesTillInOrder 2 rfl rfl) mb_X8_ringInOrder mv_RX8_90 (ci := 8) rfl rfl (k_L108 s0) rfl rfl (Nat.le_of_ble_eq_true rfl) (s_X8_ringInOrder l h p1 s0 (by omega)) (rm_ok (by decide) (by decide)) (zq_v fun h3 q1 => ?_)
  refine zj_iconst (zdk ttX8_changesTillInOrder 3 rfl rfl) ?_
  refine zj_istore_n (L' := [some (.inr 108), some (.inl p1), some (.inl 0)]) (zdk ttX8_changesTillInOrder 4 rfl rfl) (by decide) rfl ?_
  have lp97 : ∀ (n : Nat) (x6 : Int) (h7 : zM), (0 ≤ x6 ∧ x6 ≤ 16) → okC h7 → (17 - x6).toNat < n → zJ shC l yX8_changesTillInOrder cX8_changesTillInOrder 3 (some .int) (rmL 2) 0 0 (q_X8_changesTillInOrder h p1) 0 0 7 [some (.inr 108), some (.inl p1), some (.inl x6)] [] h7 := by
    intro n
    induction n with
    | zero => intro x6 h7 b98 s8 m99; exact absurd m99 (Nat.not_lt_zero _)
    | succ n ih100 =>
      intro x6 h7 b98 s8 m99
      refine zj_iload_n (zdk ttX8_changesTillInOrder 5 rfl rfl) rfl ?_
      refine zj_iconst (zdk ttX8_changesTillInOrder 6 rfl rfl) ?_
      refine zj_iload_n (zdk ttX8_changesTillInOrder 7 rfl rfl) rfl ?_
      refine zj_imul (zdk ttX8_changesTillInOrder 8 rfl rfl) ?_
      refine zj_icmp_ge (t := 38) (zdk ttX8_changesTillInOrder 9 rfl rfl) (by decide) (by omega) (by omega) (fun c101 => ?_) (fun c101 => ?_)
      · refine zj_iconst (zdk ttX8_changesTillInOrder 24 rfl rfl) ?_
        refine zj_iload_n (zdk ttX8_changesTillInOrder 25 rfl rfl) rfl ?_
        refine zj_imul (zdk ttX8_changesTillInOrder 26 rfl rfl) ?_
        exact zj_iret rfl (zdk ttX8_changesTillInOrder 27 rfl rfl) (Nat.le_refl _) (Nat.le_refl _) ⟨(2 * p1), rfl, by omega, s8⟩
      · refine zj_aload_n (zdk ttX8_changesTillInOrder 10 rfl rfl) rfl (by decide) ?_
        refine zj_iload_n (zdk ttX8_changesTillInOrder 11 rfl rfl) rfl ?_
        refine zj_iload_n (zdk ttX8_changesTillInOrder 12 rfl rfl) rfl ?_
        refine zj_callV (av := [.inl p1, .inl x6]) (st := []) (zdk ttX8_changesTillInOrder 13 rfl rfl) mb_X8_change mv_RX8_94 (ci := 8) rfl rfl (k_L108 s8) rfl rfl (Nat.le_of_ble_eq_true rfl) (s_X8_change l h7 p1 x6 s8 (by omega) (by omega)) (rm_ok (by decide) (by decide)) (zq_v fun h104 q102 => ?_)
        refine zj_aload_n (zdk ttX8_changesTillInOrder 14 rfl rfl) rfl (by decide) ?_
        refine zj_iload_n (zdk ttX8_changesTillInOrder 15 rfl rfl) rfl ?_
        refine zj_callV (av := [.inl p1]) (st := []) (zdk ttX8_changesTillInOrder 16 rfl rfl) mb_X8_isInOrder mv_RX8_98 (ci := 8) rfl rfl (k_L108 q102) rfl rfl (Nat.le_of_ble_eq_true rfl) (s_X8_isInOrder l h104 p1 q102 (by omega)) (rm_ok (by decide) (by decide)) (zq_i fun v108 h109 q107 => ?_)
        obtain ⟨rfl, b110⟩ := q107
        refine zj_if_eq (t := 32) (zdk ttX8_changesTillInOrder 17 rfl rfl) (by decide) (by omega) (fun c111 => ?_) (fun c111 => ?_)
        · refine zj_iinc (L' := [some (.inr 108), some (.inl p1), some (.inl (x6 + 1))]) (zdk ttX8_changesTillInOrder 22 rfl rfl) rfl (by decide) rfl ?_
          refine zj_goto (t := 7) (zdk ttX8_changesTillInOrder 23 rfl rfl) (by decide) ?_
          exact ih100  (x6 + 1) h104 (by omega) q102 (by omega)
        · refine zj_iload_n (zdk ttX8_changesTillInOrder 18 rfl rfl) rfl ?_
          refine zj_iconst (zdk ttX8_changesTillInOrder 19 rfl rfl) ?_
          refine zj_iadd (zdk ttX8_changesTillInOrder 20 rfl rfl) ?_
          exact zj_iret rfl (zdk ttX8_changesTillInOrder 21 rfl rfl) (Nat.le_refl _) (Nat.le_refl _) ⟨(x6 + 1), rfl, by omega, q102⟩
  exact lp97 _ 0 h3 (by omega) q1 (Nat.lt_succ_self _)

abbrev tX8_bellAt : List (Nat × Instr × Nat) := [(0, .iload_n 1, 1), (1, .ifCond .le 11, 3), (4, .iload_n 2, 1), (5, .iconst 2, 1), (6, .iload_n 1, 1), (7, .imul, 1), (8, .irem, 1), (9, .goto 4, 3), (12, .iconst 0, 1), (13, .istore 4, 2), (15, .aload_n 0, 1), (16, .iload_n 1, 1), (17, .invokevirtual 90, 3), (20, .iconst 0, 1), (21, .istore 5, 2), (23, .iload 5, 2), (25, .iload 4, 2), (27, .if_icmp .ge 16, 3), (30, .aload_n 0, 1), (31, .iload_n 1, 1), (32, .iload 5, 2), (34, .invokevirtual 94, 3), (37, .iinc 5 1, 3), (40, .goto (-17), 3), (43, .aload_n 0, 1), (44, .getfield 15, 3), (47, .iload_n 3, 1), (48, .iaload, 1), (49, .ireturn, 1)]
theorem ttX8_bellAt : zdt cX8_bellAt tX8_bellAt = true := by decide +kernel
abbrev q_X8_bellAt (h : zM) (p1 : Int) (p2 : Int) (p3 : Int) : Option zV → zM → Prop := zqi fun v h' => ((-2147483648) ≤ v ∧ v ≤ 2147483647) ∧ okC h'
set_option maxRecDepth 100000 in
set_option maxHeartbeats 4000000 in
theorem s_X8_bellAt (l : Launch) (h : zM) (p1 : Int) (p2 : Int) (p3 : Int) (s0 : okC h) (b_p1 : 3 ≤ p1 ∧ p1 ≤ 8) (b_p2 : 0 ≤ p2 ∧ p2 ≤ 1000000) (b_p3 : 0 ≤ p3 ∧ p3 ≤ 7) : zT shC l yX8_bellAt cX8_bellAt 6 (some .int) (rmL 2) 0 0 [.inr 108, .inl p1, .inl p2, .inl p3] h (q_X8_bellAt h p1 p2 p3) := by
  refine zT_of (by decide +kernel) (L0 := [some (.inr 108), some (.inl p1), some (.inl p2), some (.inl p3), none, none]) rfl (Nat.le_of_ble_eq_true rfl) ?_
  refine zj_iload_n (zdk ttX8_bellAt 0 rfl rfl) rfl ?_
  refine zj_if_le (t := 12) (zdk ttX8_bellAt 1 rfl rfl) (by decide) (by omega) (fun c1 => ?_) (fun c1 => ?_)
  · exact absurd c1 (by omega)
  · refine zj_iload_n (zdk ttX8_bellAt 2 rfl rfl) rfl ?_
    refine zj_iconst (zdk ttX8_bellAt 3 rfl rfl) ?_
    refine zj_iload_n (zdk ttX8_bellAt 4 rfl rfl) rfl ?_
    refine zj_imul (zdk ttX8_bellAt 5 rfl rfl) ?_
    refine zj_iremP (zdk ttX8_bellAt 6 rfl rfl) (by omega) (by omega) ?_
    have b2 := zmod_b (x := p2) (b := (2 * p1)) (by omega) (by omega)
    refine zj_goto (t := 13) (zdk ttX8_bellAt 7 rfl rfl) (by decide) ?_
    refine zj_istore (L' := [some (.inr 108), some (.inl p1), some (.inl p2), some (.inl p3), some (.inl (p2 % (2 * p1))), none]) (zdk ttX8_bellAt 9 rfl rfl) (by decide) rfl ?_
    refine zj_aload_n (zdk ttX8_bellAt 10 rfl rfl) rfl (by decide) ?_
    refine zj_iload_n (zdk ttX8_bellAt 11 rfl rfl) rfl ?_
    refine zj_callV (av := [.inl p1]) (st := []) (zdk ttX8_bellAt 12 rfl rfl) mb_X8_ringInOrder mv_RX8_90 (ci := 8) rfl rfl (k_L108 s0) rfl rfl (Nat.le_of_ble_eq_true rfl) (s_X8_ringInOrder l h p1 s0 (by omega)) (rm_ok (by decide) (by decide)) (zq_v fun h5 q3 => ?_)
    refine zj_iconst (zdk ttX8_bellAt 13 rfl rfl) ?_
    refine zj_istore (L' := [some (.inr 108), some (.inl p1), some (.inl p2), some (.inl p3), some (.inl (p2 % (2 * p1))), some (.inl 0)]) (zdk ttX8_bellAt 14 rfl rfl) (by decide) rfl ?_
    have lp77 : ∀ (n : Nat) (x8 : Int) (h9 : zM), (0 ≤ x8 ∧ x8 ≤ 15) → okC h9 → (16 - x8).toNat < n → zJ shC l yX8_bellAt cX8_bellAt 6 (some .int) (rmL 2) 0 0 (q_X8_bellAt h p1 p2 p3) 0 0 23 [some (.inr 108), some (.inl p1), some (.inl p2), some (.inl p3), some (.inl (p2 % (2 * p1))), some (.inl x8)] [] h9 := by
      intro n
      induction n with
      | zero => intro x8 h9 b78 s10 m79; exact absurd m79 (Nat.not_lt_zero _)
      | succ n ih80 =>
        intro x8 h9 b78 s10 m79
        refine zj_iload (zdk ttX8_bellAt 15 rfl rfl) rfl ?_
        refine zj_iload (zdk ttX8_bellAt 16 rfl rfl) rfl ?_
        refine zj_icmp_ge (t := 43) (zdk ttX8_bellAt 17 rfl rfl) (by decide) (by omega) (by omega) (fun c81 => ?_) (fun c81 => ?_)
        · refine zj_aload_n (zdk ttX8_bellAt 24 rfl rfl) rfl (by decide) ?_
          refine zj_getr (r := 110) (zdk ttX8_bellAt 25 rfl rfl) zf_RX8_15 rfl (k_L108 s10) (rf_L108_1 s10) ?_
          refine zj_iload_n (zdk ttX8_bellAt 26 rfl rfl) rfl ?_
          have b82 : -2147483648 ≤ (h9.2 110 p3) ∧ (h9.2 110 p3) ≤ 2147483647 := ab_L108_1 s10 p3
          refine zj_iald (v := (h9.2 110 p3)) (zdk ttX8_bellAt 27 rfl rfl) (ka_L108_1 s10) (by decide) (by omega) rfl ?_
          exact zj_iret rfl (zdk ttX8_bellAt 28 rfl rfl) (Nat.le_refl _) (Nat.le_refl _) ⟨(h9.2 110 p3), rfl, by omega, s10⟩
        · refine zj_aload_n (zdk ttX8_bellAt 18 rfl rfl) rfl (by decide) ?_
          refine zj_iload_n (zdk ttX8_bellAt 19 rfl rfl) rfl ?_
          refine zj_iload (zdk ttX8_bellAt 20 rfl rfl) rfl ?_
          refine zj_callV (av := [.inl p1, .inl x8]) (st := []) (zdk ttX8_bellAt 21 rfl rfl) mb_X8_change mv_RX8_94 (ci := 8) rfl rfl (k_L108 s10) rfl rfl (Nat.le_of_ble_eq_true rfl) (s_X8_change l h9 p1 x8 s10 (by omega) (by omega)) (rm_ok (by decide) (by decide)) (zq_v fun h85 q83 => ?_)
          refine zj_iinc (L' := [some (.inr 108), some (.inl p1), some (.inl p2), some (.inl p3), some (.inl (p2 % (2 * p1))), some (.inl (x8 + 1))]) (zdk ttX8_bellAt 22 rfl rfl) rfl (by decide) rfl ?_
          refine zj_goto (t := 23) (zdk ttX8_bellAt 23 rfl rfl) (by decide) ?_
          exact ih80  (x8 + 1) h85 (by omega) q83 (by omega)
    exact lp77 _ 0 h5 (by omega) q3 (Nat.lt_succ_self _)

abbrev tX8_worthOfStep : List (Nat × Instr × Nat) := [(0, .iload_n 2, 1), (1, .iload_n 3, 1), (2, .iadd, 1), (3, .iload_n 1, 1), (4, .irem, 1), (5, .istore 4, 2), (7, .iload 4, 2), (9, .ifCond .ne 7, 3), (12, .iconst 1, 1), (13, .goto 11, 3), (16, .aload_n 0, 1), (17, .getfield 11, 3), (20, .iload 4, 2), (22, .iaload, 1), (23, .ineg, 1), (24, .ireturn, 1)]
theorem ttX8_worthOfStep : zdt cX8_worthOfStep tX8_worthOfStep = true := by decide +kernel
abbrev q_X8_worthOfStep (h : zM) (p1 : Int) (p2 : Int) (p3 : Int) : Option zV → zM → Prop := zqi fun v h' => h = h' ∧ ((-2147483648) ≤ v ∧ v ≤ 2147483647)
set_option maxRecDepth 100000 in
set_option maxHeartbeats 4000000 in
theorem s_X8_worthOfStep (l : Launch) (h : zM) (p1 : Int) (p2 : Int) (p3 : Int) (s0 : okC h) (b_p1 : 2 ≤ p1 ∧ p1 ≤ 60) (b_p2 : 0 ≤ p2 ∧ p2 ≤ 59) (b_p3 : 1 ≤ p3 ∧ p3 ≤ 10) : zT shC l yX8_worthOfStep cX8_worthOfStep 5 (some .int) (rmL 1) 0 0 [.inr 108, .inl p1, .inl p2, .inl p3] h (q_X8_worthOfStep h p1 p2 p3) := by
  refine zT_of (by decide +kernel) (L0 := [some (.inr 108), some (.inl p1), some (.inl p2), some (.inl p3), none]) rfl (Nat.le_of_ble_eq_true rfl) ?_
  refine zj_iload_n (zdk ttX8_worthOfStep 0 rfl rfl) rfl ?_
  refine zj_iload_n (zdk ttX8_worthOfStep 1 rfl rfl) rfl ?_
  refine zj_iadd (zdk ttX8_worthOfStep 2 rfl rfl) ?_
  refine zj_iload_n (zdk ttX8_worthOfStep 3 rfl rfl) rfl ?_
  refine zj_iremP (zdk ttX8_worthOfStep 4 rfl rfl) (by omega) (by omega) ?_
  have b1 := zmod_b (x := (p2 + p3)) (b := p1) (by omega) (by omega)
  refine zj_istore (L' := [some (.inr 108), some (.inl p1), some (.inl p2), some (.inl p3), some (.inl ((p2 + p3) % p1))]) (zdk ttX8_worthOfStep 5 rfl rfl) (by decide) rfl ?_
  refine zj_iload (zdk ttX8_worthOfStep 6 rfl rfl) rfl ?_
  refine zj_if_ne (t := 16) (zdk ttX8_worthOfStep 7 rfl rfl) (by decide) (by omega) (fun c2 => ?_) (fun c2 => ?_)
  · refine zj_aload_n (zdk ttX8_worthOfStep 10 rfl rfl) rfl (by decide) ?_
    refine zj_getr (r := 109) (zdk ttX8_worthOfStep 11 rfl rfl) zf_RX8_11 rfl (k_L108 s0) (rf_L108_0 s0) ?_
    refine zj_iload (zdk ttX8_worthOfStep 12 rfl rfl) rfl ?_
    have b3 : -2147483648 ≤ (h.2 109 ((p2 + p3) % p1)) ∧ (h.2 109 ((p2 + p3) % p1)) ≤ 2147483647 := ab_L108_0 s0 ((p2 + p3) % p1)
    refine zj_iald (v := (h.2 109 ((p2 + p3) % p1))) (zdk ttX8_worthOfStep 13 rfl rfl) (ka_L108_0 s0) (by decide) (by omega) rfl ?_
    refine zj_ineg (zdk ttX8_worthOfStep 14 rfl rfl) ?_
    refine zj_wrap ?_
    have b4 := zwp_in (-(h.2 109 ((p2 + p3) % p1)))
    exact zj_iret rfl (zdk ttX8_worthOfStep 15 rfl rfl) (Nat.le_refl _) (Nat.le_refl _) ⟨(zwp (-(h.2 109 ((p2 + p3) % p1)))), rfl, rfl, by omega⟩
  · refine zj_iconst (zdk ttX8_worthOfStep 8 rfl rfl) ?_
    refine zj_goto (t := 24) (zdk ttX8_worthOfStep 9 rfl rfl) (by decide) ?_
    exact zj_iret rfl (zdk ttX8_worthOfStep 15 rfl rfl) (Nat.le_refl _) (Nat.le_refl _) ⟨1, rfl, rfl, by omega⟩
