abbrev tX5_tellCouple : List (Nat × Instr × Nat) := [(0, .iload_n 1, 1), (1, .iconst (-1), 1), (2, .if_icmp .ne 10, 3), (5, .aload_n 0, 1), (6, .iconst 0, 1), (7, .putfield 26, 3), (10, .iconst 0, 1), (11, .ireturn, 1), (12, .iload_n 1, 1), (13, .iconst 0, 1), (14, .iconst 5, 1), (15, .invokestatic 50, 3), (18, .ifCond .eq 26, 3), (21, .iload_n 2, 1), (22, .iconst 0, 1), (23, .iconst 5, 1), (24, .invokestatic 50, 3), (27, .ifCond .eq 17, 3), (30, .iload_n 1, 1), (31, .iload_n 2, 1), (32, .if_icmp .eq 12, 3), (35, .aload_n 0, 1), (36, .getfield 26, 3), (39, .bipush 8, 2), (41, .if_icmp .lt 5, 3), (44, .iconst (-1), 1), (45, .ireturn, 1), (46, .aload_n 0, 1), (47, .getfield 23, 3), (50, .aload_n 0, 1), (51, .getfield 26, 3), (54, .iconst 1, 1), (55, .iload_n 1, 1), (56, .ishl, 1), (57, .iconst 1, 1), (58, .iload_n 2, 1), (59, .ishl, 1), (60, .ior, 1), (61, .iastore, 1), (62, .aload_n 0, 1), (63, .dup, 1), (64, .getfield 26, 3), (67, .iconst 1, 1), (68, .iadd, 1), (69, .dup_x1, 1), (70, .putfield 26, 3), (73, .ireturn, 1)]
theorem ttX5_tellCouple : zdt cX5_tellCouple tX5_tellCouple = true := by decide +kernel
abbrev w_X5_tellCouple (c a b : Int) : Prop := (a = c ∧ b = 4) ∨ a = c + 3
abbrev q_X5_tellCouple (h : zM) (c : Int) (p1 : Int) (p2 : Int) : Option zV → zM → Prop := zqi fun v h' => ((-2147483648) ≤ v ∧ v ≤ 2147483647) ∧ okC h' ∧ zfC (w_X5_tellCouple c) h h' ∧ (zcw (p1 = -1) ((0 ≤ p1 ∧ p1 ≤ 5) ∧ (0 ≤ p2 ∧ p2 ≤ 5) ∧ ¬ p1 = p2) 8 (h.2 c 4) v (h'.2 c 4))
set_option maxRecDepth 100000 in
set_option maxHeartbeats 4000000 in
theorem s_X5_tellCouple (l : Launch) (h : zM) (c : Int) (p1 : Int) (p2 : Int) (s0 : okC h) (hc : zPu c) (b_p1 : (-2147483648) ≤ p1 ∧ p1 ≤ 2147483647) (b_p2 : (-2147483648) ≤ p2 ∧ p2 ≤ 2147483647) : zT shC l yX5_tellCouple cX5_tellCouple 3 (some .int) (rmL 2) 0 0 [.inr c, .inl p1, .inl p2] h (q_X5_tellCouple h c p1 p2) := by
  refine zT_of (by decide +kernel) (L0 := [some (.inr c), some (.inl p1), some (.inl p2)]) rfl (Nat.le_of_ble_eq_true rfl) ?_
  have b1 := zPu_b hc
  refine zj_iload_n (zdk ttX5_tellCouple 0 rfl rfl) rfl ?_
  refine zj_iconst (zdk ttX5_tellCouple 1 rfl rfl) ?_
  refine zj_icmp_ne (t := 12) (zdk ttX5_tellCouple 2 rfl rfl) (by decide) (by omega) (by decide) (fun c2 => ?_) (fun c2 => ?_)
  · refine zj_iload_n (zdk ttX5_tellCouple 8 rfl rfl) rfl ?_
    refine zj_iconst (zdk ttX5_tellCouple 9 rfl rfl) ?_
    refine zj_iconst (zdk ttX5_tellCouple 10 rfl rfl) ?_
    refine zj_callS (av := [.inl p1, .inl 0, .inl 5]) (st := []) (zdk ttX5_tellCouple 11 rfl rfl) mb_X10_within ms_RX5_50 rfl rfl (Nat.le_of_ble_eq_true rfl) (s_X10_within l h p1 0 5 s0 (by omega) (by omega) (by omega)) (rm_ok (by decide) (by decide)) (zq_i fun v4 h5 q3 => ?_)
    obtain ⟨rfl, ⟨rfl, b6⟩ | ⟨rfl, b6⟩⟩ := q3
    · refine zj_if_eq (t := 44) (zdk ttX5_tellCouple 12 rfl rfl) (by decide) (by decide) (fun c7 => ?_) (fun c7 => ?_)
      · refine zj_iconst (zdk ttX5_tellCouple 25 rfl rfl) ?_
        exact zj_iret rfl (zdk ttX5_tellCouple 26 rfl rfl) (Nat.le_refl _) (Nat.le_refl _) ⟨(-1), rfl, by omega, s0, (zfC_r _ _), by unfold zcw; omega⟩
      · exact absurd c7 (by omega)
    · refine zj_if_eq (t := 44) (zdk ttX5_tellCouple 12 rfl rfl) (by decide) (by decide) (fun c8 => ?_) (fun c8 => ?_)
      · exact absurd c8 (by omega)
      · refine zj_iload_n (zdk ttX5_tellCouple 13 rfl rfl) rfl ?_
        refine zj_iconst (zdk ttX5_tellCouple 14 rfl rfl) ?_
        refine zj_iconst (zdk ttX5_tellCouple 15 rfl rfl) ?_
        refine zj_callS (av := [.inl p2, .inl 0, .inl 5]) (st := []) (zdk ttX5_tellCouple 16 rfl rfl) mb_X10_within ms_RX5_50 rfl rfl (Nat.le_of_ble_eq_true rfl) (s_X10_within l h p2 0 5 s0 (by omega) (by omega) (by omega)) (rm_ok (by decide) (by decide)) (zq_i fun v10 h11 q9 => ?_)
        obtain ⟨rfl, ⟨rfl, b12⟩ | ⟨rfl, b12⟩⟩ := q9
        · refine zj_if_eq (t := 44) (zdk ttX5_tellCouple 17 rfl rfl) (by decide) (by decide) (fun c13 => ?_) (fun c13 => ?_)
          · refine zj_iconst (zdk ttX5_tellCouple 25 rfl rfl) ?_
            exact zj_iret rfl (zdk ttX5_tellCouple 26 rfl rfl) (Nat.le_refl _) (Nat.le_refl _) ⟨(-1), rfl, by omega, s0, (zfC_r _ _), by unfold zcw; omega⟩
          · exact absurd c13 (by omega)
        · refine zj_if_eq (t := 44) (zdk ttX5_tellCouple 17 rfl rfl) (by decide) (by decide) (fun c14 => ?_) (fun c14 => ?_)
          · exact absurd c14 (by omega)
          · refine zj_iload_n (zdk ttX5_tellCouple 18 rfl rfl) rfl ?_
            refine zj_iload_n (zdk ttX5_tellCouple 19 rfl rfl) rfl ?_
            refine zj_icmp_eq (t := 44) (zdk ttX5_tellCouple 20 rfl rfl) (by decide) (by omega) (by omega) (fun c15 => ?_) (fun c15 => ?_)
            · refine zj_iconst (zdk ttX5_tellCouple 25 rfl rfl) ?_
              exact zj_iret rfl (zdk ttX5_tellCouple 26 rfl rfl) (Nat.le_refl _) (Nat.le_refl _) ⟨(-1), rfl, by omega, s0, (zfC_r _ _), by unfold zcw; omega⟩
            · refine zj_aload_n (zdk ttX5_tellCouple 21 rfl rfl) rfl (by omega) ?_
              have b16 : 0 ≤ (h.2 c 4) ∧ (h.2 c 4) ≤ 8 := fb_5_0_4 s0 hc
              refine zj_geti (v := (h.2 c 4)) (zdk ttX5_tellCouple 22 rfl rfl) zf_RX5_26 rfl (k_5_0 s0 hc) rfl ?_
              refine zj_bipush (zdk ttX5_tellCouple 23 rfl rfl) (by decide) ?_
              refine zj_icmp_lt (t := 46) (zdk ttX5_tellCouple 24 rfl rfl) (by decide) (by omega) (by decide) (fun c17 => ?_) (fun c17 => ?_)
              · refine zj_aload_n (zdk ttX5_tellCouple 27 rfl rfl) rfl (by omega) ?_
                refine zj_getr (r := (c + 3)) (zdk ttX5_tellCouple 28 rfl rfl) zf_RX5_23 rfl (k_5_0 s0 hc) (rf_5_0_3 s0 hc) ?_
                refine zj_aload_n (zdk ttX5_tellCouple 29 rfl rfl) rfl (by omega) ?_
                refine zj_geti (v := (h.2 c 4)) (zdk ttX5_tellCouple 30 rfl rfl) zf_RX5_26 rfl (k_5_0 s0 hc) rfl ?_
                refine zj_iconst (zdk ttX5_tellCouple 31 rfl rfl) ?_
                refine zj_iload_n (zdk ttX5_tellCouple 32 rfl rfl) rfl ?_
                refine zj_ishl (zdk ttX5_tellCouple 33 rfl rfl) ?_
                have b18 := zshl_1 (n := p1) (a := 0) (b := 5) (lo := 1) (hi := 32) (by omega) (by decide) (by decide) (by decide)
                refine zj_iconst (zdk ttX5_tellCouple 34 rfl rfl) ?_
                refine zj_iload_n (zdk ttX5_tellCouple 35 rfl rfl) rfl ?_
                refine zj_ishl (zdk ttX5_tellCouple 36 rfl rfl) ?_
                have b19 := zshl_1 (n := p2) (a := 0) (b := 5) (lo := 1) (hi := 32) (by omega) (by decide) (by decide) (by decide)
                refine zj_ior (zdk ttX5_tellCouple 37 rfl rfl) ?_
                have b20 := zor_k (a := (zshl 1 p1)) (b := (zshl 1 p2)) (K := 64) 6 (by decide) (by decide) (by omega) (by omega)
                refine zj_iast (zdk ttX5_tellCouple 38 rfl rfl) (ka_5_0_3 s0 hc) (by decide) (by omega) (fun h21 e22 => ?_)
                refine zj_aload_n (zdk ttX5_tellCouple 39 rfl rfl) rfl (by omega) ?_
                refine zj_dup (zdk ttX5_tellCouple 40 rfl rfl) ?_
                have s23 : okC h21 := aw_5_0_3 s0 hc e22 (by omega)
                refine zj_geti (v := (h.2 c 4)) (zdk ttX5_tellCouple 41 rfl rfl) zf_RX5_26 rfl (k_5_0 s23 hc) (zwr_r e22 (by first | decide | exact (absurd ·.1 (by decide)) | exact (absurd ·.2 (by decide)) | omega)) ?_
                refine zj_iconst (zdk ttX5_tellCouple 42 rfl rfl) ?_
                refine zj_iadd (zdk ttX5_tellCouple 43 rfl rfl) ?_
                refine zj_dup_x1 (zdk ttX5_tellCouple 44 rfl rfl) ?_
                refine zj_puti (zdk ttX5_tellCouple 45 rfl rfl) zf_RX5_26 rfl (k_5_0 s23 hc) (Or.inl zw_RX5_26) (k2 := 4) rfl (fun h24 e25 => ?_)
                have s26 : okC h24 := fw_5_0_4 s23 hc e25 (by omega)
                have f28 : zfC (w_X5_tellCouple c) h h21 := zfC_w (zfC_r _ _) e22 (Or.inr (by omega))
                have f27 : zfC (w_X5_tellCouple c) h h24 := zfC_w f28 e25 (Or.inl (by omega))
                have b29 : h24.2 c 4 = ((h.2 c 4) + 1) := (zwr_v e25)
                exact zj_iret rfl (zdk ttX5_tellCouple 46 rfl rfl) (Nat.le_refl _) (Nat.le_refl _) ⟨((h.2 c 4) + 1), rfl, by omega, s26, f27, by unfold zcw; omega⟩
              · refine zj_iconst (zdk ttX5_tellCouple 25 rfl rfl) ?_
                exact zj_iret rfl (zdk ttX5_tellCouple 26 rfl rfl) (Nat.le_refl _) (Nat.le_refl _) ⟨(-1), rfl, by omega, s0, (zfC_r _ _), by unfold zcw; omega⟩
  · refine zj_aload_n (zdk ttX5_tellCouple 3 rfl rfl) rfl (by omega) ?_
    refine zj_iconst (zdk ttX5_tellCouple 4 rfl rfl) ?_
    refine zj_puti (zdk ttX5_tellCouple 5 rfl rfl) zf_RX5_26 rfl (k_5_0 s0 hc) (Or.inl zw_RX5_26) (k2 := 4) rfl (fun h30 e31 => ?_)
    refine zj_iconst (zdk ttX5_tellCouple 6 rfl rfl) ?_
    have s32 : okC h30 := fw_5_0_4 s0 hc e31 (by omega)
    have f33 : zfC (w_X5_tellCouple c) h h30 := zfC_w (zfC_r _ _) e31 (Or.inl (by omega))
    have b34 : h30.2 c 4 = 0 := (zwr_v e31)
    exact zj_iret rfl (zdk ttX5_tellCouple 7 rfl rfl) (Nat.le_refl _) (Nat.le_refl _) ⟨0, rfl, by omega, s32, f33, by unfold zcw; omega⟩

abbrev tX5_tellSeat : List (Nat × Instr × Nat) := [(0, .iload_n 1, 1), (1, .iconst (-1), 1), (2, .if_icmp .ne 10, 3), (5, .aload_n 0, 1), (6, .iconst 0, 1), (7, .putfield 32, 3), (10, .iconst 0, 1), (11, .ireturn, 1), (12, .iload_n 1, 1), (13, .iconst 1, 1), (14, .bipush 99, 2), (16, .invokestatic 50, 3), (19, .ifCond .eq 12, 3), (22, .aload_n 0, 1), (23, .getfield 32, 3), (26, .bipush 7, 2), (28, .if_icmp .lt 5, 3), (31, .iconst (-1), 1), (32, .ireturn, 1), (33, .aload_n 0, 1), (34, .getfield 29, 3), (37, .aload_n 0, 1), (38, .getfield 32, 3), (41, .iload_n 1, 1), (42, .iastore, 1), (43, .aload_n 0, 1), (44, .dup, 1), (45, .getfield 32, 3), (48, .iconst 1, 1), (49, .iadd, 1), (50, .dup_x1, 1), (51, .putfield 32, 3), (54, .ireturn, 1)]
theorem ttX5_tellSeat : zdt cX5_tellSeat tX5_tellSeat = true := by decide +kernel
abbrev w_X5_tellSeat (c a b : Int) : Prop := (a = c ∧ b = 6) ∨ a = c + 4
abbrev q_X5_tellSeat (h : zM) (c : Int) (p1 : Int) : Option zV → zM → Prop := zqi fun v h' => ((-2147483648) ≤ v ∧ v ≤ 2147483647) ∧ okC h' ∧ zfC (w_X5_tellSeat c) h h' ∧ (zcw (p1 = -1) (1 ≤ p1 ∧ p1 ≤ 99) 7 (h.2 c 6) v (h'.2 c 6))
set_option maxRecDepth 100000 in
set_option maxHeartbeats 4000000 in
theorem s_X5_tellSeat (l : Launch) (h : zM) (c : Int) (p1 : Int) (s0 : okC h) (hc : zPu c) (b_p1 : (-2147483648) ≤ p1 ∧ p1 ≤ 2147483647) : zT shC l yX5_tellSeat cX5_tellSeat 2 (some .int) (rmL 2) 0 0 [.inr c, .inl p1] h (q_X5_tellSeat h c p1) := by
  refine zT_of (by decide +kernel) (L0 := [some (.inr c), some (.inl p1)]) rfl (Nat.le_of_ble_eq_true rfl) ?_
  have b1 := zPu_b hc
  refine zj_iload_n (zdk ttX5_tellSeat 0 rfl rfl) rfl ?_
  refine zj_iconst (zdk ttX5_tellSeat 1 rfl rfl) ?_
  refine zj_icmp_ne (t := 12) (zdk ttX5_tellSeat 2 rfl rfl) (by decide) (by omega) (by decide) (fun c2 => ?_) (fun c2 => ?_)
  · refine zj_iload_n (zdk ttX5_tellSeat 8 rfl rfl) rfl ?_
    refine zj_iconst (zdk ttX5_tellSeat 9 rfl rfl) ?_
    refine zj_bipush (zdk ttX5_tellSeat 10 rfl rfl) (by decide) ?_
    refine zj_callS (av := [.inl p1, .inl 1, .inl 99]) (st := []) (zdk ttX5_tellSeat 11 rfl rfl) mb_X10_within ms_RX5_50 rfl rfl (Nat.le_of_ble_eq_true rfl) (s_X10_within l h p1 1 99 s0 (by omega) (by omega) (by omega)) (rm_ok (by decide) (by decide)) (zq_i fun v4 h5 q3 => ?_)
    obtain ⟨rfl, ⟨rfl, b6⟩ | ⟨rfl, b6⟩⟩ := q3
    · refine zj_if_eq (t := 31) (zdk ttX5_tellSeat 12 rfl rfl) (by decide) (by decide) (fun c7 => ?_) (fun c7 => ?_)
      · refine zj_iconst (zdk ttX5_tellSeat 17 rfl rfl) ?_
        exact zj_iret rfl (zdk ttX5_tellSeat 18 rfl rfl) (Nat.le_refl _) (Nat.le_refl _) ⟨(-1), rfl, by omega, s0, (zfC_r _ _), by unfold zcw; omega⟩
      · exact absurd c7 (by omega)
    · refine zj_if_eq (t := 31) (zdk ttX5_tellSeat 12 rfl rfl) (by decide) (by decide) (fun c8 => ?_) (fun c8 => ?_)
      · exact absurd c8 (by omega)
      · refine zj_aload_n (zdk ttX5_tellSeat 13 rfl rfl) rfl (by omega) ?_
        have b9 : 0 ≤ (h.2 c 6) ∧ (h.2 c 6) ≤ 7 := fb_5_0_6 s0 hc
        refine zj_geti (v := (h.2 c 6)) (zdk ttX5_tellSeat 14 rfl rfl) zf_RX5_32 rfl (k_5_0 s0 hc) rfl ?_
        refine zj_bipush (zdk ttX5_tellSeat 15 rfl rfl) (by decide) ?_
        refine zj_icmp_lt (t := 33) (zdk ttX5_tellSeat 16 rfl rfl) (by decide) (by omega) (by decide) (fun c10 => ?_) (fun c10 => ?_)
        · refine zj_aload_n (zdk ttX5_tellSeat 19 rfl rfl) rfl (by omega) ?_
          refine zj_getr (r := (c + 4)) (zdk ttX5_tellSeat 20 rfl rfl) zf_RX5_29 rfl (k_5_0 s0 hc) (rf_5_0_5 s0 hc) ?_
          refine zj_aload_n (zdk ttX5_tellSeat 21 rfl rfl) rfl (by omega) ?_
          refine zj_geti (v := (h.2 c 6)) (zdk ttX5_tellSeat 22 rfl rfl) zf_RX5_32 rfl (k_5_0 s0 hc) rfl ?_
          refine zj_iload_n (zdk ttX5_tellSeat 23 rfl rfl) rfl ?_
          refine zj_iast (zdk ttX5_tellSeat 24 rfl rfl) (ka_5_0_5 s0 hc) (by decide) (by omega) (fun h11 e12 => ?_)
          refine zj_aload_n (zdk ttX5_tellSeat 25 rfl rfl) rfl (by omega) ?_
          refine zj_dup (zdk ttX5_tellSeat 26 rfl rfl) ?_
          have s13 : okC h11 := aw_5_0_5 s0 hc e12 (by omega)
          refine zj_geti (v := (h.2 c 6)) (zdk ttX5_tellSeat 27 rfl rfl) zf_RX5_32 rfl (k_5_0 s13 hc) (zwr_r e12 (by first | decide | exact (absurd ·.1 (by decide)) | exact (absurd ·.2 (by decide)) | omega)) ?_
          refine zj_iconst (zdk ttX5_tellSeat 28 rfl rfl) ?_
          refine zj_iadd (zdk ttX5_tellSeat 29 rfl rfl) ?_
          refine zj_dup_x1 (zdk ttX5_tellSeat 30 rfl rfl) ?_
          refine zj_puti (zdk ttX5_tellSeat 31 rfl rfl) zf_RX5_32 rfl (k_5_0 s13 hc) (Or.inl zw_RX5_32) (k2 := 6) rfl (fun h14 e15 => ?_)
          have s16 : okC h14 := fw_5_0_6 s13 hc e15 (by omega)
          have f18 : zfC (w_X5_tellSeat c) h h11 := zfC_w (zfC_r _ _) e12 (Or.inr (by omega))
          have f17 : zfC (w_X5_tellSeat c) h h14 := zfC_w f18 e15 (Or.inl (by omega))
          have b19 : h14.2 c 6 = ((h.2 c 6) + 1) := (zwr_v e15)
          exact zj_iret rfl (zdk ttX5_tellSeat 32 rfl rfl) (Nat.le_refl _) (Nat.le_refl _) ⟨((h.2 c 6) + 1), rfl, by omega, s16, f17, by unfold zcw; omega⟩
        · refine zj_iconst (zdk ttX5_tellSeat 17 rfl rfl) ?_
          exact zj_iret rfl (zdk ttX5_tellSeat 18 rfl rfl) (Nat.le_refl _) (Nat.le_refl _) ⟨(-1), rfl, by omega, s0, (zfC_r _ _), by unfold zcw; omega⟩
  · refine zj_aload_n (zdk ttX5_tellSeat 3 rfl rfl) rfl (by omega) ?_
    refine zj_iconst (zdk ttX5_tellSeat 4 rfl rfl) ?_
    refine zj_puti (zdk ttX5_tellSeat 5 rfl rfl) zf_RX5_32 rfl (k_5_0 s0 hc) (Or.inl zw_RX5_32) (k2 := 6) rfl (fun h20 e21 => ?_)
    refine zj_iconst (zdk ttX5_tellSeat 6 rfl rfl) ?_
    have s22 : okC h20 := fw_5_0_6 s0 hc e21 (by omega)
    have f23 : zfC (w_X5_tellSeat c) h h20 := zfC_w (zfC_r _ _) e21 (Or.inl (by omega))
    have b24 : h20.2 c 6 = 0 := (zwr_v e21)
    exact zj_iret rfl (zdk ttX5_tellSeat 7 rfl rfl) (Nat.le_refl _) (Nat.le_refl _) ⟨0, rfl, by omega, s22, f23, by unfold zcw; omega⟩

abbrev tX5_tellArm : List (Nat × Instr × Nat) := [(0, .iload_n 1, 1), (1, .bipush (-100), 2), (3, .if_icmp .ne 10, 3), (6, .aload_n 0, 1), (7, .iconst 0, 1), (8, .putfield 41, 3), (11, .iconst 0, 1), (12, .ireturn, 1), (13, .iload_n 1, 1), (14, .bipush (-9), 2), (16, .bipush 9, 2), (18, .invokestatic 50, 3), (21, .ifCond .eq 26, 3), (24, .iload_n 1, 1), (25, .ifCond .eq 22, 3), (28, .iload_n 2, 1), (29, .iconst 1, 1), (30, .bipush 20, 2), (32, .invokestatic 50, 3), (35, .ifCond .eq 12, 3), (38, .aload_n 0, 1), (39, .getfield 41, 3), (42, .bipush 6, 2), (44, .if_icmp .lt 5, 3), (47, .iconst (-1), 1), (48, .ireturn, 1), (49, .aload_n 0, 1), (50, .getfield 35, 3), (53, .aload_n 0, 1), (54, .getfield 41, 3), (57, .iload_n 1, 1), (58, .iastore, 1), (59, .aload_n 0, 1), (60, .getfield 38, 3), (63, .aload_n 0, 1), (64, .getfield 41, 3), (67, .iload_n 2, 1), (68, .iastore, 1), (69, .aload_n 0, 1), (70, .dup, 1), (71, .getfield 41, 3), (74, .iconst 1, 1), (75, .iadd, 1), (76, .dup_x1, 1), (77, .putfield 41, 3), (80, .ireturn, 1)]
theorem ttX5_tellArm : zdt cX5_tellArm tX5_tellArm = true := by decide +kernel
abbrev w_X5_tellArm (c a b : Int) : Prop := (a = c ∧ b = 9) ∨ (c + 5 ≤ a ∧ a ≤ c + 6)
abbrev q_X5_tellArm (h : zM) (c : Int) (p1 : Int) (p2 : Int) : Option zV → zM → Prop := zqi fun v h' => ((-2147483648) ≤ v ∧ v ≤ 2147483647) ∧ okC h' ∧ zfC (w_X5_tellArm c) h h' ∧ (zcw (p1 = -100) ((-9 ≤ p1 ∧ p1 ≤ 9) ∧ ¬ p1 = 0 ∧ (1 ≤ p2 ∧ p2 ≤ 20)) 6 (h.2 c 9) v (h'.2 c 9))
set_option maxRecDepth 100000 in
set_option maxHeartbeats 4000000 in
theorem s_X5_tellArm (l : Launch) (h : zM) (c : Int) (p1 : Int) (p2 : Int) (s0 : okC h) (hc : zPu c) (b_p1 : (-2147483648) ≤ p1 ∧ p1 ≤ 2147483647) (b_p2 : (-2147483648) ≤ p2 ∧ p2 ≤ 2147483647) : zT shC l yX5_tellArm cX5_tellArm 3 (some .int) (rmL 2) 0 0 [.inr c, .inl p1, .inl p2] h (q_X5_tellArm h c p1 p2) := by
  refine zT_of (by decide +kernel) (L0 := [some (.inr c), some (.inl p1), some (.inl p2)]) rfl (Nat.le_of_ble_eq_true rfl) ?_
  have b1 := zPu_b hc
  refine zj_iload_n (zdk ttX5_tellArm 0 rfl rfl) rfl ?_
  refine zj_bipush (zdk ttX5_tellArm 1 rfl rfl) (by decide) ?_
  refine zj_icmp_ne (t := 13) (zdk ttX5_tellArm 2 rfl rfl) (by decide) (by omega) (by decide) (fun c2 => ?_) (fun c2 => ?_)
  · refine zj_iload_n (zdk ttX5_tellArm 8 rfl rfl) rfl ?_
    refine zj_bipush (zdk ttX5_tellArm 9 rfl rfl) (by decide) ?_
    refine zj_bipush (zdk ttX5_tellArm 10 rfl rfl) (by decide) ?_
    refine zj_callS (av := [.inl p1, .inl (-9), .inl 9]) (st := []) (zdk ttX5_tellArm 11 rfl rfl) mb_X10_within ms_RX5_50 rfl rfl (Nat.le_of_ble_eq_true rfl) (s_X10_within l h p1 (-9) 9 s0 (by omega) (by omega) (by omega)) (rm_ok (by decide) (by decide)) (zq_i fun v4 h5 q3 => ?_)
    obtain ⟨rfl, ⟨rfl, b6⟩ | ⟨rfl, b6⟩⟩ := q3
    · refine zj_if_eq (t := 47) (zdk ttX5_tellArm 12 rfl rfl) (by decide) (by decide) (fun c7 => ?_) (fun c7 => ?_)
      · refine zj_iconst (zdk ttX5_tellArm 24 rfl rfl) ?_
        exact zj_iret rfl (zdk ttX5_tellArm 25 rfl rfl) (Nat.le_refl _) (Nat.le_refl _) ⟨(-1), rfl, by omega, s0, (zfC_r _ _), by unfold zcw; omega⟩
      · exact absurd c7 (by omega)
    · refine zj_if_eq (t := 47) (zdk ttX5_tellArm 12 rfl rfl) (by decide) (by decide) (fun c8 => ?_) (fun c8 => ?_)
      · exact absurd c8 (by omega)
      · refine zj_iload_n (zdk ttX5_tellArm 13 rfl rfl) rfl ?_
        refine zj_if_eq (t := 47) (zdk ttX5_tellArm 14 rfl rfl) (by decide) (by omega) (fun c9 => ?_) (fun c9 => ?_)
        · refine zj_iconst (zdk ttX5_tellArm 24 rfl rfl) ?_
          exact zj_iret rfl (zdk ttX5_tellArm 25 rfl rfl) (Nat.le_refl _) (Nat.le_refl _) ⟨(-1), rfl, by omega, s0, (zfC_r _ _), by unfold zcw; omega⟩
        · refine zj_iload_n (zdk ttX5_tellArm 15 rfl rfl) rfl ?_
          refine zj_iconst (zdk ttX5_tellArm 16 rfl rfl) ?_
          refine zj_bipush (zdk ttX5_tellArm 17 rfl rfl) (by decide) ?_
          refine zj_callS (av := [.inl p2, .inl 1, .inl 20]) (st := []) (zdk ttX5_tellArm 18 rfl rfl) mb_X10_within ms_RX5_50 rfl rfl (Nat.le_of_ble_eq_true rfl) (s_X10_within l h p2 1 20 s0 (by omega) (by omega) (by omega)) (rm_ok (by decide) (by decide)) (zq_i fun v11 h12 q10 => ?_)
          obtain ⟨rfl, ⟨rfl, b13⟩ | ⟨rfl, b13⟩⟩ := q10
          · refine zj_if_eq (t := 47) (zdk ttX5_tellArm 19 rfl rfl) (by decide) (by decide) (fun c14 => ?_) (fun c14 => ?_)
            · refine zj_iconst (zdk ttX5_tellArm 24 rfl rfl) ?_
              exact zj_iret rfl (zdk ttX5_tellArm 25 rfl rfl) (Nat.le_refl _) (Nat.le_refl _) ⟨(-1), rfl, by omega, s0, (zfC_r _ _), by unfold zcw; omega⟩
            · exact absurd c14 (by omega)
          · refine zj_if_eq (t := 47) (zdk ttX5_tellArm 19 rfl rfl) (by decide) (by decide) (fun c15 => ?_) (fun c15 => ?_)
            · exact absurd c15 (by omega)
            · refine zj_aload_n (zdk ttX5_tellArm 20 rfl rfl) rfl (by omega) ?_
              have b16 : 0 ≤ (h.2 c 9) ∧ (h.2 c 9) ≤ 6 := fb_5_0_9 s0 hc
              refine zj_geti (v := (h.2 c 9)) (zdk ttX5_tellArm 21 rfl rfl) zf_RX5_41 rfl (k_5_0 s0 hc) rfl ?_
              refine zj_bipush (zdk ttX5_tellArm 22 rfl rfl) (by decide) ?_
              refine zj_icmp_lt (t := 49) (zdk ttX5_tellArm 23 rfl rfl) (by decide) (by omega) (by decide) (fun c17 => ?_) (fun c17 => ?_)
              · refine zj_aload_n (zdk ttX5_tellArm 26 rfl rfl) rfl (by omega) ?_
                refine zj_getr (r := (c + 5)) (zdk ttX5_tellArm 27 rfl rfl) zf_RX5_35 rfl (k_5_0 s0 hc) (rf_5_0_7 s0 hc) ?_
                refine zj_aload_n (zdk ttX5_tellArm 28 rfl rfl) rfl (by omega) ?_
                refine zj_geti (v := (h.2 c 9)) (zdk ttX5_tellArm 29 rfl rfl) zf_RX5_41 rfl (k_5_0 s0 hc) rfl ?_
                refine zj_iload_n (zdk ttX5_tellArm 30 rfl rfl) rfl ?_
                refine zj_iast (zdk ttX5_tellArm 31 rfl rfl) (ka_5_0_7 s0 hc) (by decide) (by omega) (fun h18 e19 => ?_)
                refine zj_aload_n (zdk ttX5_tellArm 32 rfl rfl) rfl (by omega) ?_
                have s20 : okC h18 := aw_5_0_7 s0 hc e19 (by omega)
                refine zj_getr (r := (c + 6)) (zdk ttX5_tellArm 33 rfl rfl) zf_RX5_38 rfl (k_5_0 s20 hc) (rf_5_0_8 s20 hc) ?_
                refine zj_aload_n (zdk ttX5_tellArm 34 rfl rfl) rfl (by omega) ?_
                refine zj_geti (v := (h.2 c 9)) (zdk ttX5_tellArm 35 rfl rfl) zf_RX5_41 rfl (k_5_0 s20 hc) (zwr_r e19 (by first | decide | exact (absurd ·.1 (by decide)) | exact (absurd ·.2 (by decide)) | omega)) ?_
                refine zj_iload_n (zdk ttX5_tellArm 36 rfl rfl) rfl ?_
                refine zj_iast (zdk ttX5_tellArm 37 rfl rfl) (ka_5_0_8 s20 hc) (by decide) (by omega) (fun h21 e22 => ?_)
                refine zj_aload_n (zdk ttX5_tellArm 38 rfl rfl) rfl (by omega) ?_
                refine zj_dup (zdk ttX5_tellArm 39 rfl rfl) ?_
                have s23 : okC h21 := aw_5_0_8 s20 hc e22 (by omega)
                refine zj_geti (v := (h.2 c 9)) (zdk ttX5_tellArm 40 rfl rfl) zf_RX5_41 rfl (k_5_0 s23 hc) ((zwr_r e22 (by first | decide | exact (absurd ·.1 (by decide)) | exact (absurd ·.2 (by decide)) | omega)).trans (zwr_r e19 (by first | decide | exact (absurd ·.1 (by decide)) | exact (absurd ·.2 (by decide)) | omega))) ?_
                refine zj_iconst (zdk ttX5_tellArm 41 rfl rfl) ?_
                refine zj_iadd (zdk ttX5_tellArm 42 rfl rfl) ?_
                refine zj_dup_x1 (zdk ttX5_tellArm 43 rfl rfl) ?_
                refine zj_puti (zdk ttX5_tellArm 44 rfl rfl) zf_RX5_41 rfl (k_5_0 s23 hc) (Or.inl zw_RX5_41) (k2 := 9) rfl (fun h24 e25 => ?_)
                have s26 : okC h24 := fw_5_0_9 s23 hc e25 (by omega)
                have f29 : zfC (w_X5_tellArm c) h h18 := zfC_w (zfC_r _ _) e19 (Or.inr (by omega))
                have f28 : zfC (w_X5_tellArm c) h h21 := zfC_w f29 e22 (Or.inr (by omega))
                have f27 : zfC (w_X5_tellArm c) h h24 := zfC_w f28 e25 (Or.inl (by omega))
                have b30 : h24.2 c 9 = ((h.2 c 9) + 1) := (zwr_v e25)
                exact zj_iret rfl (zdk ttX5_tellArm 45 rfl rfl) (Nat.le_refl _) (Nat.le_refl _) ⟨((h.2 c 9) + 1), rfl, by omega, s26, f27, by unfold zcw; omega⟩
              · refine zj_iconst (zdk ttX5_tellArm 24 rfl rfl) ?_
                exact zj_iret rfl (zdk ttX5_tellArm 25 rfl rfl) (Nat.le_refl _) (Nat.le_refl _) ⟨(-1), rfl, by omega, s0, (zfC_r _ _), by unfold zcw; omega⟩
  · refine zj_aload_n (zdk ttX5_tellArm 3 rfl rfl) rfl (by omega) ?_
    refine zj_iconst (zdk ttX5_tellArm 4 rfl rfl) ?_
    refine zj_puti (zdk ttX5_tellArm 5 rfl rfl) zf_RX5_41 rfl (k_5_0 s0 hc) (Or.inl zw_RX5_41) (k2 := 9) rfl (fun h31 e32 => ?_)
    refine zj_iconst (zdk ttX5_tellArm 6 rfl rfl) ?_
    have s33 : okC h31 := fw_5_0_9 s0 hc e32 (by omega)
    have f34 : zfC (w_X5_tellArm c) h h31 := zfC_w (zfC_r _ _) e32 (Or.inl (by omega))
    have b35 : h31.2 c 9 = 0 := (zwr_v e32)
    exact zj_iret rfl (zdk ttX5_tellArm 7 rfl rfl) (Nat.le_refl _) (Nat.le_refl _) ⟨0, rfl, by omega, s33, f34, by unfold zcw; omega⟩

abbrev tX5_isSafe : List (Nat × Instr × Nat) := [(0, .iconst 0, 1), (1, .istore_n 2, 1), (2, .iload_n 2, 1), (3, .aload_n 0, 1), (4, .getfield 26, 3), (7, .if_icmp .ge 28, 3), (10, .iload_n 1, 1), (11, .aload_n 0, 1), (12, .getfield 23, 3), (15, .iload_n 2, 1), (16, .iaload, 1), (17, .iand, 1), (18, .aload_n 0, 1), (19, .getfield 23, 3), (22, .iload_n 2, 1), (23, .iaload, 1), (24, .if_icmp .ne 5, 3), (27, .iconst 0, 1), (28, .ireturn, 1), (29, .iinc 2 1, 3), (32, .goto (-30), 3), (35, .iconst 1, 1), (36, .ireturn, 1)]
theorem ttX5_isSafe : zdt cX5_isSafe tX5_isSafe = true := by decide +kernel
abbrev q_X5_isSafe (h : zM) (c : Int) (p1 : Int) : Option zV → zM → Prop := zqi fun v h' => h = h' ∧ (0 ≤ v ∧ v ≤ 1)
set_option maxRecDepth 100000 in
set_option maxHeartbeats 4000000 in
theorem s_X5_isSafe (l : Launch) (h : zM) (c : Int) (p1 : Int) (s0 : okC h) (hc : zPu c) (b_p1 : (-2147483648) ≤ p1 ∧ p1 ≤ 2147483647) : zT shC l yX5_isSafe cX5_isSafe 3 (some .boolean) (rmL 1) 0 0 [.inr c, .inl p1] h (q_X5_isSafe h c p1) := by
  refine zT_of (by decide +kernel) (L0 := [some (.inr c), some (.inl p1), none]) rfl (Nat.le_of_ble_eq_true rfl) ?_
  have b1 := zPu_b hc
  refine zj_iconst (zdk ttX5_isSafe 0 rfl rfl) ?_
  refine zj_istore_n (L' := [some (.inr c), some (.inl p1), some (.inl 0)]) (zdk ttX5_isSafe 1 rfl rfl) (by decide) rfl ?_
  have lp28 : ∀ (n : Nat) (x2 : Int), (0 ≤ x2 ∧ x2 ≤ 8) → (9 - x2).toNat < n → zJ shC l yX5_isSafe cX5_isSafe 3 (some .boolean) (rmL 1) 0 0 (q_X5_isSafe h c p1) 0 0 2 [some (.inr c), some (.inl p1), some (.inl x2)] [] h := by
    intro n
    induction n with
    | zero => intro x2 b29 m30; exact absurd m30 (Nat.not_lt_zero _)
    | succ n ih31 =>
      intro x2 b29 m30
      refine zj_iload_n (zdk ttX5_isSafe 2 rfl rfl) rfl ?_
      refine zj_aload_n (zdk ttX5_isSafe 3 rfl rfl) rfl (by omega) ?_
      have b32 : 0 ≤ (h.2 c 4) ∧ (h.2 c 4) ≤ 8 := fb_5_0_4 s0 hc
      refine zj_geti (v := (h.2 c 4)) (zdk ttX5_isSafe 4 rfl rfl) zf_RX5_26 rfl (k_5_0 s0 hc) rfl ?_
      refine zj_icmp_ge (t := 35) (zdk ttX5_isSafe 5 rfl rfl) (by decide) (by omega) (by omega) (fun c33 => ?_) (fun c33 => ?_)
      · refine zj_iconst (zdk ttX5_isSafe 21 rfl rfl) ?_
        exact zj_zret rfl (zdk ttX5_isSafe 22 rfl rfl) (Nat.le_refl _) (Nat.le_refl _) (by omega) ⟨1, rfl, rfl, by omega⟩
      · refine zj_iload_n (zdk ttX5_isSafe 6 rfl rfl) rfl ?_
        refine zj_aload_n (zdk ttX5_isSafe 7 rfl rfl) rfl (by omega) ?_
        refine zj_getr (r := (c + 3)) (zdk ttX5_isSafe 8 rfl rfl) zf_RX5_23 rfl (k_5_0 s0 hc) (rf_5_0_3 s0 hc) ?_
        refine zj_iload_n (zdk ttX5_isSafe 9 rfl rfl) rfl ?_
        have b34 : -2147483648 ≤ (h.2 (c + 3) x2) ∧ (h.2 (c + 3) x2) ≤ 2147483647 := ab_5_0_3 s0 hc x2
        refine zj_iald (v := (h.2 (c + 3) x2)) (zdk ttX5_isSafe 10 rfl rfl) (ka_5_0_3 s0 hc) (by decide) (by omega) rfl ?_
        refine zj_iand (zdk ttX5_isSafe 11 rfl rfl) ?_
        have b35 := zand_in p1 (h.2 (c + 3) x2)
        refine zj_aload_n (zdk ttX5_isSafe 12 rfl rfl) rfl (by omega) ?_
        refine zj_getr (r := (c + 3)) (zdk ttX5_isSafe 13 rfl rfl) zf_RX5_23 rfl (k_5_0 s0 hc) (rf_5_0_3 s0 hc) ?_
        refine zj_iload_n (zdk ttX5_isSafe 14 rfl rfl) rfl ?_
        refine zj_iald (v := (h.2 (c + 3) x2)) (zdk ttX5_isSafe 15 rfl rfl) (ka_5_0_3 s0 hc) (by decide) (by omega) rfl ?_
        refine zj_icmp_ne (t := 29) (zdk ttX5_isSafe 16 rfl rfl) (by decide) (by omega) (by omega) (fun c36 => ?_) (fun c36 => ?_)
        · refine zj_iinc (L' := [some (.inr c), some (.inl p1), some (.inl (x2 + 1))]) (zdk ttX5_isSafe 19 rfl rfl) rfl (by decide) rfl ?_
          refine zj_goto (t := 2) (zdk ttX5_isSafe 20 rfl rfl) (by decide) ?_
          exact ih31  (x2 + 1) (by omega) (by omega)
        · refine zj_iconst (zdk ttX5_isSafe 17 rfl rfl) ?_
          exact zj_zret rfl (zdk ttX5_isSafe 18 rfl rfl) (Nat.le_refl _) (Nat.le_refl _) (by omega) ⟨0, rfl, rfl, by omega⟩
  exact lp28 _ 0 (by omega) (Nat.lt_succ_self _)

abbrev tX5_turnOf : List (Nat × Instr × Nat) := [(0, .aload_n 0, 1), (1, .getfield 19, 3), (4, .ifCond .ne 5, 3), (7, .iconst 0, 1), (8, .ireturn, 1), (9, .iconst 1, 1), (10, .istore_n 2, 1), (11, .iconst 1, 1), (12, .istore_n 3, 1), (13, .iconst 1, 1), (14, .istore 4, 2), (16, .iconst 1, 1), (17, .istore 5, 2), (19, .iload 5, 2), (21, .aload_n 0, 1), (22, .getfield 19, 3), (25, .if_icmp .ge 78, 3), (28, .aload_n 0, 1), (29, .getfield 15, 3), (32, .iload 5, 2), (34, .baload, 1), (35, .ifCond .eq 6, 3), (38, .goto 59, 3), (41, .iload_n 2, 1), (42, .ineg, 1), (43, .aload_n 0, 1), (44, .getfield 11, 3), (47, .iload 5, 2), (49, .iconst 1, 1), (50, .isub, 1), (51, .iaload, 1), (52, .imul, 1), (53, .istore_n 2, 1), (54, .iload_n 3, 1), (55, .aload_n 0, 1), (56, .getfield 11, 3), (59, .iload 5, 2), (61, .iaload, 1), (62, .imul, 1), (63, .istore_n 3, 1), (64, .iload_n 2, 1), (65, .invokestatic 54, 3), (68, .iload_n 3, 1), (69, .invokestatic 60, 3), (72, .istore 6, 2), (74, .iload_n 2, 1), (75, .iload 6, 2), (77, .idiv, 1), (78, .istore_n 2, 1), (79, .iload_n 3, 1), (80, .iload 6, 2), (82, .idiv, 1), (83, .istore_n 3, 1), (84, .iload 4, 2), (86, .iload 4, 2), (88, .iload_n 3, 1), (89, .invokestatic 60, 3), (92, .idiv, 1), (93, .iload_n 3, 1), (94, .imul, 1), (95, .istore 4, 2), (97, .iinc 5 1, 3), (100, .goto (-81), 3), (103, .iload_n 1, 1), (104, .lookupswitch 32 #[(0, 28), (1, 30)], 28), (132, .iload_n 2, 1), (133, .ireturn, 1), (134, .iload_n 3, 1), (135, .ireturn, 1), (136, .iload 4, 2), (138, .ireturn, 1)]
theorem ttX5_turnOf : zdt cX5_turnOf tX5_turnOf = true := by decide +kernel
abbrev q_X5_turnOf (h : zM) (c : Int) (p1 : Int) : Option zV → zM → Prop := zqi fun v h' => h = h' ∧ ((-2147483648) ≤ v ∧ v ≤ 2147483647)
set_option maxRecDepth 100000 in
set_option maxHeartbeats 4000000 in
theorem s_X5_turnOf (l : Launch) (h : zM) (c : Int) (p1 : Int) (s0 : okC h) (hc : zPu c) (b_p1 : (-2147483648) ≤ p1 ∧ p1 ≤ 2147483647) : zT shC l yX5_turnOf cX5_turnOf 7 (some .int) (rmL 3) 0 0 [.inr c, .inl p1] h (q_X5_turnOf h c p1) := by
  refine zT_of (by decide +kernel) (L0 := [some (.inr c), some (.inl p1), none, none, none, none, none]) rfl (Nat.le_of_ble_eq_true rfl) ?_
  have b1 := zPu_b hc
  refine zj_aload_n (zdk ttX5_turnOf 0 rfl rfl) rfl (by omega) ?_
  have b2 : 0 ≤ (h.2 c 2) ∧ (h.2 c 2) ≤ 5 := fb_5_0_2 s0 hc
  refine zj_geti (v := (h.2 c 2)) (zdk ttX5_turnOf 1 rfl rfl) zf_RX5_19 rfl (k_5_0 s0 hc) rfl ?_
  refine zj_if_ne (t := 9) (zdk ttX5_turnOf 2 rfl rfl) (by decide) (by omega) (fun c3 => ?_) (fun c3 => ?_)
  · refine zj_iconst (zdk ttX5_turnOf 5 rfl rfl) ?_
    refine zj_istore_n (L' := [some (.inr c), some (.inl p1), some (.inl 1), none, none, none, none]) (zdk ttX5_turnOf 6 rfl rfl) (by decide) rfl ?_
    refine zj_iconst (zdk ttX5_turnOf 7 rfl rfl) ?_
    refine zj_istore_n (L' := [some (.inr c), some (.inl p1), some (.inl 1), some (.inl 1), none, none, none]) (zdk ttX5_turnOf 8 rfl rfl) (by decide) rfl ?_
    refine zj_iconst (zdk ttX5_turnOf 9 rfl rfl) ?_
    refine zj_istore (L' := [some (.inr c), some (.inl p1), some (.inl 1), some (.inl 1), some (.inl 1), none, none]) (zdk ttX5_turnOf 10 rfl rfl) (by decide) rfl ?_
    refine zj_iconst (zdk ttX5_turnOf 11 rfl rfl) ?_
    refine zj_istore (L' := [some (.inr c), some (.inl p1), some (.inl 1), some (.inl 1), some (.inl 1), some (.inl 1), none]) (zdk ttX5_turnOf 12 rfl rfl) (by decide) rfl ?_
    have lp126 : ∀ (n : Nat) (x4 x5 x6 x7 : Int), (-2147483648 ≤ x4 ∧ x4 ≤ 2147483647) → (-2147483648 ≤ x5 ∧ x5 ≤ 2147483647) → (-2147483648 ≤ x6 ∧ x6 ≤ 2147483647) → (1 ≤ x7 ∧ x7 ≤ 5) → (6 - x7).toNat < n → zJ shC l yX5_turnOf cX5_turnOf 7 (some .int) (rmL 3) 0 0 (q_X5_turnOf h c p1) 0 0 19 [some (.inr c), some (.inl p1), some (.inl x4), some (.inl x5), some (.inl x6), some (.inl x7), none] [] h := by
      intro n
      induction n with
      | zero => intro x4 x5 x6 x7 b127 b128 b129 b130 m131; exact absurd m131 (Nat.not_lt_zero _)
      | succ n ih132 =>
        intro x4 x5 x6 x7 b127 b128 b129 b130 m131
        refine zj_iload (zdk ttX5_turnOf 13 rfl rfl) rfl ?_
        refine zj_aload_n (zdk ttX5_turnOf 14 rfl rfl) rfl (by omega) ?_
        refine zj_geti (v := (h.2 c 2)) (zdk ttX5_turnOf 15 rfl rfl) zf_RX5_19 rfl (k_5_0 s0 hc) rfl ?_
        refine zj_icmp_ge (t := 103) (zdk ttX5_turnOf 16 rfl rfl) (by decide) (by omega) (by omega) (fun c133 => ?_) (fun c133 => ?_)
        · refine zj_iload_n (zdk ttX5_turnOf 63 rfl rfl) rfl ?_
          have k135 : (¬ p1 = 0 ∧ ¬ p1 = 1) → zJ shC l yX5_turnOf cX5_turnOf 7 (some .int) (rmL 3) 0 0 (q_X5_turnOf h c p1) 0 0 136 [some (.inr c), some (.inl p1), some (.inl x4), some (.inl x5), some (.inl x6), some (.inl x7), none] [] h := by
            intro c134
            refine zj_iload (zdk ttX5_turnOf 69 rfl rfl) rfl ?_
            exact zj_iret rfl (zdk ttX5_turnOf 70 rfl rfl) (Nat.le_refl _) (Nat.le_refl _) ⟨x6, rfl, rfl, by omega⟩
          have k136 : p1 = 0 → zJ shC l yX5_turnOf cX5_turnOf 7 (some .int) (rmL 3) 0 0 (q_X5_turnOf h c p1) 0 0 132 [some (.inr c), some (.inl p1), some (.inl x4), some (.inl x5), some (.inl x6), some (.inl x7), none] [] h := by
            intro c134
            refine zj_iload_n (zdk ttX5_turnOf 65 rfl rfl) rfl ?_
            exact zj_iret rfl (zdk ttX5_turnOf 66 rfl rfl) (Nat.le_refl _) (Nat.le_refl _) ⟨x4, rfl, rfl, by omega⟩
          have k137 : p1 = 1 → zJ shC l yX5_turnOf cX5_turnOf 7 (some .int) (rmL 3) 0 0 (q_X5_turnOf h c p1) 0 0 134 [some (.inr c), some (.inl p1), some (.inl x4), some (.inl x5), some (.inl x6), some (.inl x7), none] [] h := by
            intro c134
            refine zj_iload_n (zdk ttX5_turnOf 67 rfl rfl) rfl ?_
            exact zj_iret rfl (zdk ttX5_turnOf 68 rfl rfl) (Nat.le_refl _) (Nat.le_refl _) ⟨x5, rfl, rfl, by omega⟩
          by_cases z138 : p1 = 0
          · exact zj_lookup (t := 132) (zdk ttX5_turnOf 64 rfl rfl) (by omega) rfl (by rw [z138] <;> rfl) (by decide) (k136 z138)
          by_cases z139 : p1 = 1
          · exact zj_lookup (t := 134) (zdk ttX5_turnOf 64 rfl rfl) (by omega) rfl (by rw [z139] <;> rfl) (by decide) (k137 z139)
          exact zj_lookup (t := 136) (zdk ttX5_turnOf 64 rfl rfl) (by omega) rfl (by show Op.lookupswitch.offset [(0, 28), (1, 30)] 32 p1 = _; rw [Op.lookupswitch.offset_cons, if_neg (by omega), Op.lookupswitch.offset_cons, if_neg (by omega), Op.lookupswitch.offset_nil]) (by decide) (k135 (by omega))
        · refine zj_aload_n (zdk ttX5_turnOf 17 rfl rfl) rfl (by omega) ?_
          refine zj_getr (r := (c + 2)) (zdk ttX5_turnOf 18 rfl rfl) zf_RX5_15 rfl (k_5_0 s0 hc) (rf_5_0_1 s0 hc) ?_
          refine zj_iload (zdk ttX5_turnOf 19 rfl rfl) rfl ?_
          have b140 : 0 ≤ (h.2 (c + 2) x7) ∧ (h.2 (c + 2) x7) ≤ 1 := ab_5_0_1 s0 hc x7
          refine zj_zald (v := (h.2 (c + 2) x7)) (zdk ttX5_turnOf 20 rfl rfl) (ka_5_0_1 s0 hc) (by decide) (by omega) rfl ?_
          refine zj_if_eq (t := 41) (zdk ttX5_turnOf 21 rfl rfl) (by decide) (by omega) (fun c141 => ?_) (fun c141 => ?_)
          · refine zj_iload_n (zdk ttX5_turnOf 23 rfl rfl) rfl ?_
            refine zj_ineg (zdk ttX5_turnOf 24 rfl rfl) ?_
            refine zj_wrap ?_
            have b142 := zwp_in (-x4)
            refine zj_aload_n (zdk ttX5_turnOf 25 rfl rfl) rfl (by omega) ?_
            refine zj_getr (r := (c + 1)) (zdk ttX5_turnOf 26 rfl rfl) zf_RX5_11 rfl (k_5_0 s0 hc) (rf_5_0_0 s0 hc) ?_
            refine zj_iload (zdk ttX5_turnOf 27 rfl rfl) rfl ?_
            refine zj_iconst (zdk ttX5_turnOf 28 rfl rfl) ?_
            refine zj_isub (zdk ttX5_turnOf 29 rfl rfl) ?_
            have b143 : -2147483648 ≤ (h.2 (c + 1) (x7 - 1)) ∧ (h.2 (c + 1) (x7 - 1)) ≤ 2147483647 := ab_5_0_0 s0 hc (x7 - 1)
            refine zj_iald (v := (h.2 (c + 1) (x7 - 1))) (zdk ttX5_turnOf 30 rfl rfl) (ka_5_0_0 s0 hc) (by decide) (by omega) rfl ?_
            refine zj_imul (zdk ttX5_turnOf 31 rfl rfl) ?_
            refine zj_wrap ?_
            have b144 := zwp_in ((zwp (-x4)) * (h.2 (c + 1) (x7 - 1)))
            refine zj_istore_n (L' := [some (.inr c), some (.inl p1), some (.inl (zwp ((zwp (-x4)) * (h.2 (c + 1) (x7 - 1))))), some (.inl x5), some (.inl x6), some (.inl x7), none]) (zdk ttX5_turnOf 32 rfl rfl) (by decide) rfl ?_
            refine zj_iload_n (zdk ttX5_turnOf 33 rfl rfl) rfl ?_
            refine zj_aload_n (zdk ttX5_turnOf 34 rfl rfl) rfl (by omega) ?_
            refine zj_getr (r := (c + 1)) (zdk ttX5_turnOf 35 rfl rfl) zf_RX5_11 rfl (k_5_0 s0 hc) (rf_5_0_0 s0 hc) ?_
            refine zj_iload (zdk ttX5_turnOf 36 rfl rfl) rfl ?_
            have b145 : -2147483648 ≤ (h.2 (c + 1) x7) ∧ (h.2 (c + 1) x7) ≤ 2147483647 := ab_5_0_0 s0 hc x7
            refine zj_iald (v := (h.2 (c + 1) x7)) (zdk ttX5_turnOf 37 rfl rfl) (ka_5_0_0 s0 hc) (by decide) (by omega) rfl ?_
            refine zj_imul (zdk ttX5_turnOf 38 rfl rfl) ?_
            refine zj_wrap ?_
            have b146 := zwp_in (x5 * (h.2 (c + 1) x7))
            refine zj_istore_n (L' := [some (.inr c), some (.inl p1), some (.inl (zwp ((zwp (-x4)) * (h.2 (c + 1) (x7 - 1))))), some (.inl (zwp (x5 * (h.2 (c + 1) x7)))), some (.inl x6), some (.inl x7), none]) (zdk ttX5_turnOf 39 rfl rfl) (by decide) rfl ?_
            refine zj_iload_n (zdk ttX5_turnOf 40 rfl rfl) rfl ?_
            refine zj_abs (zdk ttX5_turnOf 41 rfl rfl) mx_RX5_54 (by omega) (Nat.le_of_ble_eq_true rfl) (rm_m (by decide)) ?_
            refine zj_wrap ?_
            have b147 := zwp_in ((zwp ((zwp (-x4)) * (h.2 (c + 1) (x7 - 1)))).natAbs : Int)
            refine zj_iload_n (zdk ttX5_turnOf 42 rfl rfl) rfl ?_
            refine zj_callS (av := [.inl (zwp ((zwp ((zwp (-x4)) * (h.2 (c + 1) (x7 - 1)))).natAbs : Int)), .inl (zwp (x5 * (h.2 (c + 1) x7)))]) (st := []) (zdk ttX5_turnOf 43 rfl rfl) mb_X8_commonPart ms_RX5_60 rfl rfl (Nat.le_of_ble_eq_true rfl) (s_X8_commonPart l h (zwp ((zwp ((zwp (-x4)) * (h.2 (c + 1) (x7 - 1)))).natAbs : Int)) (zwp (x5 * (h.2 (c + 1) x7))) s0 (by omega) (by omega)) (rm_ok (by decide) (by decide)) (zq_i fun v149 h150 q148 => ?_)
            obtain ⟨rfl, b151⟩ := q148
            refine zj_istore (L' := [some (.inr c), some (.inl p1), some (.inl (zwp ((zwp (-x4)) * (h.2 (c + 1) (x7 - 1))))), some (.inl (zwp (x5 * (h.2 (c + 1) x7)))), some (.inl x6), some (.inl x7), some (.inl v149)]) (zdk ttX5_turnOf 44 rfl rfl) (by decide) rfl ?_
            refine zj_iload_n (zdk ttX5_turnOf 45 rfl rfl) rfl ?_
            refine zj_iload (zdk ttX5_turnOf 46 rfl rfl) rfl ?_
            refine zj_idiv (zdk ttX5_turnOf 47 rfl rfl) (by omega) (by omega) (by omega) ?_
            have b152 := ztd_b (zwp ((zwp (-x4)) * (h.2 (c + 1) (x7 - 1)))) v149
            refine zj_wrap ?_
            have b153 := zwp_in ((zwp ((zwp (-x4)) * (h.2 (c + 1) (x7 - 1)))).tdiv v149)
            refine zj_istore_n (L' := [some (.inr c), some (.inl p1), some (.inl (zwp ((zwp ((zwp (-x4)) * (h.2 (c + 1) (x7 - 1)))).tdiv v149))), some (.inl (zwp (x5 * (h.2 (c + 1) x7)))), some (.inl x6), some (.inl x7), some (.inl v149)]) (zdk ttX5_turnOf 48 rfl rfl) (by decide) rfl ?_
            refine zj_iload_n (zdk ttX5_turnOf 49 rfl rfl) rfl ?_
            refine zj_iload (zdk ttX5_turnOf 50 rfl rfl) rfl ?_
            refine zj_idiv (zdk ttX5_turnOf 51 rfl rfl) (by omega) (by omega) (by omega) ?_
            have b154 := ztd_b (zwp (x5 * (h.2 (c + 1) x7))) v149
            refine zj_wrap ?_
            have b155 := zwp_in ((zwp (x5 * (h.2 (c + 1) x7))).tdiv v149)
            refine zj_istore_n (L' := [some (.inr c), some (.inl p1), some (.inl (zwp ((zwp ((zwp (-x4)) * (h.2 (c + 1) (x7 - 1)))).tdiv v149))), some (.inl (zwp ((zwp (x5 * (h.2 (c + 1) x7))).tdiv v149))), some (.inl x6), some (.inl x7), some (.inl v149)]) (zdk ttX5_turnOf 52 rfl rfl) (by decide) rfl ?_
            refine zj_iload (zdk ttX5_turnOf 53 rfl rfl) rfl ?_
            refine zj_iload (zdk ttX5_turnOf 54 rfl rfl) rfl ?_
            refine zj_iload_n (zdk ttX5_turnOf 55 rfl rfl) rfl ?_
            refine zj_callS (av := [.inl x6, .inl (zwp ((zwp (x5 * (h.2 (c + 1) x7))).tdiv v149))]) (st := [.inl x6]) (zdk ttX5_turnOf 56 rfl rfl) mb_X8_commonPart ms_RX5_60 rfl rfl (Nat.le_of_ble_eq_true rfl) (s_X8_commonPart l h x6 (zwp ((zwp (x5 * (h.2 (c + 1) x7))).tdiv v149)) s0 (by omega) (by omega)) (rm_ok (by decide) (by decide)) (zq_i fun v157 h158 q156 => ?_)
            obtain ⟨rfl, b159⟩ := q156
            refine zj_idiv (zdk ttX5_turnOf 57 rfl rfl) (by omega) (by omega) (by omega) ?_
            have b160 := ztd_b x6 v157
            refine zj_wrap ?_
            have b161 := zwp_in (x6.tdiv v157)
            refine zj_iload_n (zdk ttX5_turnOf 58 rfl rfl) rfl ?_
            refine zj_imul (zdk ttX5_turnOf 59 rfl rfl) ?_
            refine zj_wrap ?_
            have b162 := zwp_in ((zwp (x6.tdiv v157)) * (zwp ((zwp (x5 * (h.2 (c + 1) x7))).tdiv v149)))
            refine zj_istore (L' := [some (.inr c), some (.inl p1), some (.inl (zwp ((zwp ((zwp (-x4)) * (h.2 (c + 1) (x7 - 1)))).tdiv v149))), some (.inl (zwp ((zwp (x5 * (h.2 (c + 1) x7))).tdiv v149))), some (.inl (zwp ((zwp (x6.tdiv v157)) * (zwp ((zwp (x5 * (h.2 (c + 1) x7))).tdiv v149))))), some (.inl x7), some (.inl v149)]) (zdk ttX5_turnOf 60 rfl rfl) (by decide) rfl ?_
            refine zj_iinc (L' := [some (.inr c), some (.inl p1), some (.inl (zwp ((zwp ((zwp (-x4)) * (h.2 (c + 1) (x7 - 1)))).tdiv v149))), some (.inl (zwp ((zwp (x5 * (h.2 (c + 1) x7))).tdiv v149))), some (.inl (zwp ((zwp (x6.tdiv v157)) * (zwp ((zwp (x5 * (h.2 (c + 1) x7))).tdiv v149))))), some (.inl (x7 + 1)), some (.inl v149)]) (zdk ttX5_turnOf 61 rfl rfl) rfl (by decide) rfl ?_
            refine zj_goto (t := 19) (zdk ttX5_turnOf 62 rfl rfl) (by decide) ?_
            refine zj_kill (k := 6) (L' := [some (.inr c), some (.inl p1), some (.inl (zwp ((zwp ((zwp (-x4)) * (h.2 (c + 1) (x7 - 1)))).tdiv v149))), some (.inl (zwp ((zwp (x5 * (h.2 (c + 1) x7))).tdiv v149))), some (.inl (zwp ((zwp (x6.tdiv v157)) * (zwp ((zwp (x5 * (h.2 (c + 1) x7))).tdiv v149))))), some (.inl (x7 + 1)), none]) rfl ?_
            exact ih132  (zwp ((zwp ((zwp (-x4)) * (h.2 (c + 1) (x7 - 1)))).tdiv v149)) (zwp ((zwp (x5 * (h.2 (c + 1) x7))).tdiv v149)) (zwp ((zwp (x6.tdiv v157)) * (zwp ((zwp (x5 * (h.2 (c + 1) x7))).tdiv v149)))) (x7 + 1) (by omega) (by omega) (by omega) (by omega) (by omega)
          · refine zj_goto (t := 97) (zdk ttX5_turnOf 22 rfl rfl) (by decide) ?_
            refine zj_iinc (L' := [some (.inr c), some (.inl p1), some (.inl x4), some (.inl x5), some (.inl x6), some (.inl (x7 + 1)), none]) (zdk ttX5_turnOf 61 rfl rfl) rfl (by decide) rfl ?_
            refine zj_goto (t := 19) (zdk ttX5_turnOf 62 rfl rfl) (by decide) ?_
            exact ih132  x4 x5 x6 (x7 + 1) (by omega) (by omega) (by omega) (by omega) (by omega)
    exact lp126 _ 1 1 1 1 (by omega) (by omega) (by omega) (by omega) (Nat.lt_succ_self _)
  · refine zj_iconst (zdk ttX5_turnOf 3 rfl rfl) ?_
    exact zj_iret rfl (zdk ttX5_turnOf 4 rfl rfl) (Nat.le_refl _) (Nat.le_refl _) ⟨0, rfl, rfl, by omega⟩

abbrev tX8_turnInto : List (Nat × Instr × Nat) := [(0, .iload_n 2, 1), (1, .ifCond .eq 7, 3), (4, .iload_n 3, 1), (5, .ifCond .ne 11, 3), (8, .iload_n 2, 1), (9, .iload_n 3, 1), (10, .invokestatic 37, 3), (13, .goto 8, 3), (16, .iload_n 2, 1), (17, .iload_n 3, 1), (18, .invokestatic 27, 3), (21, .istore 5, 2), (23, .iload 5, 2), (25, .ifCond .le 10, 3), (28, .iload 5, 2), (30, .bipush 32, 2), (32, .if_icmp .lt 4, 3), (35, .return_, 1), (36, .iconst 0, 1), (37, .iload_n 2, 1), (38, .iload 5, 2), (40, .isub, 1), (41, .invokestatic 37, 3), (44, .istore 6, 2), (46, .iconst 0, 1), (47, .iload_n 3, 1), (48, .iload 5, 2), (50, .isub, 1), (51, .invokestatic 37, 3), (54, .istore 7, 2), (56, .iload 6, 2), (58, .ifCond .ne 8, 3), (61, .iload 7, 2), (63, .goto 8, 3), (66, .bipush 31, 2), (68, .iload 6, 2), (70, .iadd, 1), (71, .istore 8, 2), (73, .iload_n 1, 1), (74, .iload 5, 2), (76, .iadd, 1), (77, .bipush 32, 2), (79, .irem, 1), (80, .bipush 62, 2), (82, .imul, 1), (83, .iload 8, 2), (85, .iadd, 1), (86, .istore 9, 2), (88, .iload 8, 2), (90, .bipush 62, 2), (92, .if_icmp .ge 22, 3), (95, .aload_n 0, 1), (96, .getfield 24, 3), (99, .iload 9, 2), (101, .aload_n 0, 1), (102, .getfield 24, 3), (105, .iload 9, 2), (107, .iaload, 1), (108, .iload 4, 2), (110, .invokestatic 27, 3), (113, .iastore, 1), (114, .return_, 1)]
theorem ttX8_turnInto : zdt cX8_turnInto tX8_turnInto = true := by decide +kernel
abbrev w_X8_turnInto (a b : Int) : Prop := a = 113
abbrev q_X8_turnInto (h : zM) (p1 : Int) (p2 : Int) (p3 : Int) (p4 : Int) : Option zV → zM → Prop := zqv fun h' => okC h' ∧ zfC w_X8_turnInto h h'
set_option maxRecDepth 100000 in
set_option maxHeartbeats 4000000 in
theorem s_X8_turnInto (l : Launch) (h : zM) (p1 : Int) (p2 : Int) (p3 : Int) (p4 : Int) (s0 : okC h) (b_p1 : 0 ≤ p1 ∧ p1 ≤ 120) (b_p2 : (-30) ≤ p2 ∧ p2 ≤ 30) (b_p3 : (-30) ≤ p3 ∧ p3 ≤ 30) (b_p4 : (-2147483648) ≤ p4 ∧ p4 ≤ 2147483647) : zT shC l yX8_turnInto cX8_turnInto 10 none (rmL 2) 0 0 [.inr 108, .inl p1, .inl p2, .inl p3, .inl p4] h (q_X8_turnInto h p1 p2 p3 p4) := by
  refine zT_of (by decide +kernel) (L0 := [some (.inr 108), some (.inl p1), some (.inl p2), some (.inl p3), some (.inl p4), none, none, none, none, none]) rfl (Nat.le_of_ble_eq_true rfl) ?_
  refine zj_iload_n (zdk ttX8_turnInto 0 rfl rfl) rfl ?_
  have j7 : ∀ (y6 : Int), (-30 ≤ y6 ∧ y6 ≤ 30) → zJ shC l yX8_turnInto cX8_turnInto 10 none (rmL 2) 0 0 (q_X8_turnInto h p1 p2 p3 p4) 0 0 21 [some (.inr 108), some (.inl p1), some (.inl p2), some (.inl p3), some (.inl p4), none, none, none, none, none] [.inl y6] h := by
    intro y6 b8
    refine zj_istore (L' := [some (.inr 108), some (.inl p1), some (.inl p2), some (.inl p3), some (.inl p4), some (.inl y6), none, none, none, none]) (zdk ttX8_turnInto 11 rfl rfl) (by decide) rfl ?_
    refine zj_iload (zdk ttX8_turnInto 12 rfl rfl) rfl ?_
    refine zj_if_le (t := 35) (zdk ttX8_turnInto 13 rfl rfl) (by decide) (by omega) (fun c9 => ?_) (fun c9 => ?_)
    · exact zj_vret rfl (zdk ttX8_turnInto 17 rfl rfl) (Nat.le_refl _) (Nat.le_refl _) ⟨rfl, s0, (zfC_r _ _)⟩
    · refine zj_iload (zdk ttX8_turnInto 14 rfl rfl) rfl ?_
      refine zj_bipush (zdk ttX8_turnInto 15 rfl rfl) (by decide) ?_
      refine zj_icmp_lt (t := 36) (zdk ttX8_turnInto 16 rfl rfl) (by decide) (by omega) (by decide) (fun c10 => ?_) (fun c10 => ?_)
      · refine zj_iconst (zdk ttX8_turnInto 18 rfl rfl) ?_
        refine zj_iload_n (zdk ttX8_turnInto 19 rfl rfl) rfl ?_
        refine zj_iload (zdk ttX8_turnInto 20 rfl rfl) rfl ?_
        refine zj_isub (zdk ttX8_turnInto 21 rfl rfl) ?_
        refine zj_max (zdk ttX8_turnInto 22 rfl rfl) mx_RX8_37 (by decide) (by omega) (Nat.le_of_ble_eq_true rfl) (rm_m (by decide)) ?_
        have b11 := zm_max_f 0 (p2 - y6)
        refine zj_istore (L' := [some (.inr 108), some (.inl p1), some (.inl p2), some (.inl p3), some (.inl p4), some (.inl y6), some (.inl (zm_max 0 (p2 - y6))), none, none, none]) (zdk ttX8_turnInto 23 rfl rfl) (by decide) rfl ?_
        refine zj_iconst (zdk ttX8_turnInto 24 rfl rfl) ?_
        refine zj_iload_n (zdk ttX8_turnInto 25 rfl rfl) rfl ?_
        refine zj_iload (zdk ttX8_turnInto 26 rfl rfl) rfl ?_
        refine zj_isub (zdk ttX8_turnInto 27 rfl rfl) ?_
        refine zj_max (zdk ttX8_turnInto 28 rfl rfl) mx_RX8_37 (by decide) (by omega) (Nat.le_of_ble_eq_true rfl) (rm_m (by decide)) ?_
        have b12 := zm_max_f 0 (p3 - y6)
        refine zj_istore (L' := [some (.inr 108), some (.inl p1), some (.inl p2), some (.inl p3), some (.inl p4), some (.inl y6), some (.inl (zm_max 0 (p2 - y6))), some (.inl (zm_max 0 (p3 - y6))), none, none]) (zdk ttX8_turnInto 29 rfl rfl) (by decide) rfl ?_
        refine zj_iload (zdk ttX8_turnInto 30 rfl rfl) rfl ?_
        have j15 : ∀ (y14 : Int), (0 ≤ y14 ∧ y14 ≤ 60) → zJ shC l yX8_turnInto cX8_turnInto 10 none (rmL 2) 0 0 (q_X8_turnInto h p1 p2 p3 p4) 0 0 71 [some (.inr 108), some (.inl p1), some (.inl p2), some (.inl p3), some (.inl p4), some (.inl y6), some (.inl (zm_max 0 (p2 - y6))), some (.inl (zm_max 0 (p3 - y6))), none, none] [.inl y14] h := by
          intro y14 b16
          refine zj_istore (L' := [some (.inr 108), some (.inl p1), some (.inl p2), some (.inl p3), some (.inl p4), some (.inl y6), some (.inl (zm_max 0 (p2 - y6))), some (.inl (zm_max 0 (p3 - y6))), some (.inl y14), none]) (zdk ttX8_turnInto 37 rfl rfl) (by decide) rfl ?_
          refine zj_iload_n (zdk ttX8_turnInto 38 rfl rfl) rfl ?_
          refine zj_iload (zdk ttX8_turnInto 39 rfl rfl) rfl ?_
          refine zj_iadd (zdk ttX8_turnInto 40 rfl rfl) ?_
          refine zj_bipush (zdk ttX8_turnInto 41 rfl rfl) (by decide) ?_
          refine zj_iremP (zdk ttX8_turnInto 42 rfl rfl) (by omega) (by omega) ?_
          refine zj_bipush (zdk ttX8_turnInto 43 rfl rfl) (by decide) ?_
          refine zj_imul (zdk ttX8_turnInto 44 rfl rfl) ?_
          refine zj_iload (zdk ttX8_turnInto 45 rfl rfl) rfl ?_
          refine zj_iadd (zdk ttX8_turnInto 46 rfl rfl) ?_
          refine zj_istore (L' := [some (.inr 108), some (.inl p1), some (.inl p2), some (.inl p3), some (.inl p4), some (.inl y6), some (.inl (zm_max 0 (p2 - y6))), some (.inl (zm_max 0 (p3 - y6))), some (.inl y14), some (.inl ((((p1 + y6) % 32) * 62) + y14))]) (zdk ttX8_turnInto 47 rfl rfl) (by decide) rfl ?_
          refine zj_iload (zdk ttX8_turnInto 48 rfl rfl) rfl ?_
          refine zj_bipush (zdk ttX8_turnInto 49 rfl rfl) (by decide) ?_
          refine zj_icmp_ge (t := 114) (zdk ttX8_turnInto 50 rfl rfl) (by decide) (by omega) (by decide) (fun c17 => ?_) (fun c17 => ?_)
          · exact absurd c17 (by omega)
          · refine zj_aload_n (zdk ttX8_turnInto 51 rfl rfl) rfl (by decide) ?_
            refine zj_getr (r := 113) (zdk ttX8_turnInto 52 rfl rfl) zf_RX8_24 rfl (k_L108 s0) (rf_L108_4 s0) ?_
            refine zj_iload (zdk ttX8_turnInto 53 rfl rfl) rfl ?_
            refine zj_aload_n (zdk ttX8_turnInto 54 rfl rfl) rfl (by decide) ?_
            refine zj_getr (r := 113) (zdk ttX8_turnInto 55 rfl rfl) zf_RX8_24 rfl (k_L108 s0) (rf_L108_4 s0) ?_
            refine zj_iload (zdk ttX8_turnInto 56 rfl rfl) rfl ?_
            have b18 : -2147483648 ≤ (h.2 113 ((((p1 + y6) % 32) * 62) + y14)) ∧ (h.2 113 ((((p1 + y6) % 32) * 62) + y14)) ≤ 2147483647 := ab_L108_4 s0 ((((p1 + y6) % 32) * 62) + y14)
            refine zj_iald (v := (h.2 113 ((((p1 + y6) % 32) * 62) + y14))) (zdk ttX8_turnInto 57 rfl rfl) (ka_L108_4 s0) (by decide) (by omega) rfl ?_
            refine zj_iload (zdk ttX8_turnInto 58 rfl rfl) rfl ?_
            refine zj_min (zdk ttX8_turnInto 59 rfl rfl) mx_RX8_27 (by omega) (by omega) (Nat.le_of_ble_eq_true rfl) (rm_m (by decide)) ?_
            have b19 := zm_min_f (h.2 113 ((((p1 + y6) % 32) * 62) + y14)) p4
            refine zj_iast (zdk ttX8_turnInto 60 rfl rfl) (ka_L108_4 s0) (by decide) (by omega) (fun h20 e21 => ?_)
            have s22 : okC h20 := aw_L108_4 s0 e21 (by omega)
            have f23 : zfC w_X8_turnInto h h20 := zfC_w (zfC_r _ _) e21 (by omega)
            exact zj_vret rfl (zdk ttX8_turnInto 61 rfl rfl) (Nat.le_refl _) (Nat.le_refl _) ⟨rfl, s22, f23⟩
        refine zj_if_ne (t := 66) (zdk ttX8_turnInto 31 rfl rfl) (by decide) (by omega) (fun c13 => ?_) (fun c13 => ?_)
        · refine zj_bipush (zdk ttX8_turnInto 34 rfl rfl) (by decide) ?_
          refine zj_iload (zdk ttX8_turnInto 35 rfl rfl) rfl ?_
          refine zj_iadd (zdk ttX8_turnInto 36 rfl rfl) ?_
          exact j15 (31 + (zm_max 0 (p2 - y6))) (by omega)
        · refine zj_iload (zdk ttX8_turnInto 32 rfl rfl) rfl ?_
          refine zj_goto (t := 71) (zdk ttX8_turnInto 33 rfl rfl) (by decide) ?_
          exact j15 (zm_max 0 (p3 - y6)) (by omega)
      · exact absurd c10 (by omega)
  refine zj_if_eq (t := 8) (zdk ttX8_turnInto 1 rfl rfl) (by decide) (by omega) (fun c1 => ?_) (fun c1 => ?_)
  · refine zj_iload_n (zdk ttX8_turnInto 4 rfl rfl) rfl ?_
    refine zj_iload_n (zdk ttX8_turnInto 5 rfl rfl) rfl ?_
    refine zj_max (zdk ttX8_turnInto 6 rfl rfl) mx_RX8_37 (by omega) (by omega) (Nat.le_of_ble_eq_true rfl) (rm_m (by decide)) ?_
    have b24 := zm_max_f p2 p3
    refine zj_goto (t := 21) (zdk ttX8_turnInto 7 rfl rfl) (by decide) ?_
    exact j7 (zm_max p2 p3) (by omega)
  · refine zj_iload_n (zdk ttX8_turnInto 2 rfl rfl) rfl ?_
    refine zj_if_ne (t := 16) (zdk ttX8_turnInto 3 rfl rfl) (by decide) (by omega) (fun c25 => ?_) (fun c25 => ?_)
    · refine zj_iload_n (zdk ttX8_turnInto 8 rfl rfl) rfl ?_
      refine zj_iload_n (zdk ttX8_turnInto 9 rfl rfl) rfl ?_
      refine zj_min (zdk ttX8_turnInto 10 rfl rfl) mx_RX8_27 (by omega) (by omega) (Nat.le_of_ble_eq_true rfl) (rm_m (by decide)) ?_
      have b26 := zm_min_f p2 p3
      exact j7 (zm_min p2 p3) (by omega)
    · refine zj_iload_n (zdk ttX8_turnInto 4 rfl rfl) rfl ?_
      refine zj_iload_n (zdk ttX8_turnInto 5 rfl rfl) rfl ?_
      refine zj_max (zdk ttX8_turnInto 6 rfl rfl) mx_RX8_37 (by omega) (by omega) (Nat.le_of_ble_eq_true rfl) (rm_m (by decide)) ?_
      have b27 := zm_max_f p2 p3
      refine zj_goto (t := 21) (zdk ttX8_turnInto 7 rfl rfl) (by decide) ?_
      exact j7 (zm_max p2 p3) (by omega)

abbrev tX8_fewestTurnings : List (Nat × Instr × Nat) := [(0, .aload_n 0, 1), (1, .getfield 24, 3), (4, .ldc 57, 2), (6, .invokestatic 40, 3), (9, .aload_n 0, 1), (10, .iconst 0, 1), (11, .iload_n 1, 1), (12, .iload_n 2, 1), (13, .iconst 0, 1), (14, .invokevirtual 58, 3), (17, .ldc 57, 2), (19, .istore 4, 2), (21, .iconst 1, 1), (22, .istore 5, 2), (24, .iload 5, 2), (26, .iload_n 3, 1), (27, .if_icmp .gt 182, 3), (30, .iload 5, 2), (32, .bipush 32, 2), (34, .irem, 1), (35, .bipush 62, 2), (37, .imul, 1), (38, .istore 6, 2), (40, .iconst 0, 1), (41, .istore 7, 2), (43, .iload 7, 2), (45, .bipush 62, 2), (47, .if_icmp .ge 156, 3), (50, .aload_n 0, 1), (51, .getfield 24, 3), (54, .iload 6, 2), (56, .iload 7, 2), (58, .iadd, 1), (59, .iaload, 1), (60, .istore 8, 2), (62, .iload 8, 2), (64, .ldc 57, 2), (66, .if_icmp .ne 6, 3), (69, .goto 128, 3), (72, .aload_n 0, 1), (73, .getfield 24, 3), (76, .iload 6, 2), (78, .iload 7, 2), (80, .iadd, 1), (81, .ldc 57, 2), (83, .iastore, 1), (84, .iload 5, 2), (86, .iload_n 3, 1), (87, .if_icmp .ne 15, 3), (90, .iload 4, 2), (92, .iload 8, 2), (94, .invokestatic 27, 3), (97, .istore 4, 2), (99, .goto 98, 3), (102, .iload 7, 2), (104, .bipush 31, 2), (106, .if_icmp .ge 7, 3), (109, .iconst 0, 1), (110, .goto 8, 3), (113, .iload 7, 2), (115, .bipush 31, 2), (117, .isub, 1), (118, .istore 9, 2), (120, .iload 7, 2), (122, .bipush 31, 2), (124, .if_icmp .ge 8, 3), (127, .iload 7, 2), (129, .goto 4, 3), (132, .iconst 0, 1), (133, .istore 10, 2), (135, .aload_n 0, 1), (136, .iload 5, 2), (138, .iload 9, 2), (140, .iload 10, 2), (142, .iload 8, 2), (144, .invokevirtual 58, 3), (147, .aload_n 0, 1), (148, .iload 5, 2), (150, .iload_n 1, 1), (151, .iload 9, 2), (153, .isub, 1), (154, .iload 10, 2), (156, .iload 8, 2), (158, .iconst 1, 1), (159, .iadd, 1), (160, .invokevirtual 58, 3), (163, .aload_n 0, 1), (164, .iload 5, 2), (166, .iload 9, 2), (168, .iload_n 2, 1), (169, .iload 10, 2), (171, .isub, 1), (172, .iload 8, 2), (174, .iconst 1, 1), (175, .iadd, 1), (176, .invokevirtual 58, 3), (179, .aload_n 0, 1), (180, .iload 5, 2), (182, .iload_n 1, 1), (183, .iload 9, 2), (185, .isub, 1), (186, .iload_n 2, 1), (187, .iload 10, 2), (189, .isub, 1), (190, .iload 8, 2), (192, .iconst 2, 1), (193, .iadd, 1), (194, .invokevirtual 58, 3), (197, .iinc 7 1, 3), (200, .goto (-157), 3), (203, .iinc 5 1, 3), (206, .goto (-182), 3), (209, .iload 4, 2), (211, .ldc 57, 2), (213, .if_icmp .ne 7, 3), (216, .iconst (-1), 1), (217, .goto 5, 3), (220, .iload 4, 2), (222, .ireturn, 1)]
theorem ttX8_fewestTurnings : zdt cX8_fewestTurnings tX8_fewestTurnings = true := by decide +kernel
abbrev w_X8_fewestTurnings (a b : Int) : Prop := a = 113
abbrev q_X8_fewestTurnings (h : zM) (p1 : Int) (p2 : Int) (p3 : Int) : Option zV → zM → Prop := zqi fun v h' => ((-2147483648) ≤ v ∧ v ≤ 2147483647) ∧ okC h' ∧ zfC w_X8_fewestTurnings h h'
set_option maxRecDepth 100000 in
set_option maxHeartbeats 4000000 in
theorem s_X8_fewestTurnings (l : Launch) (h : zM) (p1 : Int) (p2 : Int) (p3 : Int) (s0 : okC h) (b_p1 : 1 ≤ p1 ∧ p1 ≤ 30) (b_p2 : 1 ≤ p2 ∧ p2 ≤ 30) (b_p3 : 1 ≤ p3 ∧ p3 ≤ 120) : zT shC l yX8_fewestTurnings cX8_fewestTurnings 11 (some .int) (rmL 3) 0 0 [.inr 108, .inl p1, .inl p2, .inl p3] h (q_X8_fewestTurnings h p1 p2 p3) := by
  refine zT_of (by decide +kernel) (L0 := [some (.inr 108), some (.inl p1), some (.inl p2), some (.inl p3), none, none, none, none, none, none, none]) rfl (Nat.le_of_ble_eq_true rfl) ?_
  refine zj_aload_n (zdk ttX8_fewestTurnings 0 rfl rfl) rfl (by decide) ?_
  refine zj_getr (r := 113) (zdk ttX8_fewestTurnings 1 rfl rfl) zf_RX8_24 rfl (k_L108 s0) (rf_L108_4 s0) ?_
  refine zj_ldc (z := 2147483647) (zdk ttX8_fewestTurnings 2 rfl rfl) wc_RX8_57 ?_
  refine zj_callS (av := [.inr 113, .inl 2147483647]) (st := []) (zdk ttX8_fewestTurnings 3 rfl rfl) mb_J7_fill_53178 ms_RX8_40 rfl rfl (Nat.le_of_ble_eq_true rfl) (s_J7_fill_53178 shC l h 113 2147483647 (ka_L108_4 s0) (by decide)) (rm_ok (by decide) (by decide)) (zq_v fun h1 e2 => ?_)
  refine zj_aload_n (zdk ttX8_fewestTurnings 4 rfl rfl) rfl (by decide) ?_
  refine zj_iconst (zdk ttX8_fewestTurnings 5 rfl rfl) ?_
  refine zj_iload_n (zdk ttX8_fewestTurnings 6 rfl rfl) rfl ?_
  refine zj_iload_n (zdk ttX8_fewestTurnings 7 rfl rfl) rfl ?_
  refine zj_iconst (zdk ttX8_fewestTurnings 8 rfl rfl) ?_
  have s3 : okC h1 := okC_fill s0 e2 (fun j => pa_L108_4 (v := 2147483647) (by omega) j) (na_L108_4).1 (na_L108_4).2
  refine zj_callV (av := [.inl 0, .inl p1, .inl p2, .inl 0]) (st := []) (zdk ttX8_fewestTurnings 9 rfl rfl) mb_X8_turnInto mv_RX8_58 (ci := 8) rfl rfl (k_L108 s3) rfl rfl (Nat.le_of_ble_eq_true rfl) (s_X8_turnInto l h1 0 p1 p2 0 s3 (by omega) (by omega) (by omega) (by omega)) (rm_ok (by decide) (by decide)) (zq_v fun h6 q4 => ?_)
  obtain ⟨s8, f9⟩ := q4
  refine zj_ldc (z := 2147483647) (zdk ttX8_fewestTurnings 10 rfl rfl) wc_RX8_57 ?_
  refine zj_istore (L' := [some (.inr 108), some (.inl p1), some (.inl p2), some (.inl p3), some (.inl 2147483647), none, none, none, none, none, none]) (zdk ttX8_fewestTurnings 11 rfl rfl) (by decide) rfl ?_
  refine zj_iconst (zdk ttX8_fewestTurnings 12 rfl rfl) ?_
  refine zj_istore (L' := [some (.inr 108), some (.inl p1), some (.inl p2), some (.inl p3), some (.inl 2147483647), some (.inl 1), none, none, none, none, none]) (zdk ttX8_fewestTurnings 13 rfl rfl) (by decide) rfl ?_
  have lp5218 : ∀ (n : Nat) (x10 x11 : Int) (h12 : zM), (-2147483648 ≤ x10 ∧ x10 ≤ 2147483647) → (1 ≤ x11 ∧ x11 ≤ 121) → okC h12 → zfC w_X8_fewestTurnings h h12 → (122 - x11).toNat < n → zJ shC l yX8_fewestTurnings cX8_fewestTurnings 11 (some .int) (rmL 3) 0 0 (q_X8_fewestTurnings h p1 p2 p3) 0 0 24 [some (.inr 108), some (.inl p1), some (.inl p2), some (.inl p3), some (.inl x10), some (.inl x11), none, none, none, none, none] [] h12 := by
    intro n
    induction n with
    | zero => intro x10 x11 h12 b5219 b5220 s13 f14 m5221; exact absurd m5221 (Nat.not_lt_zero _)
    | succ n ih5222 =>
      intro x10 x11 h12 b5219 b5220 s13 f14 m5221
      refine zj_iload (zdk ttX8_fewestTurnings 14 rfl rfl) rfl ?_
      refine zj_iload_n (zdk ttX8_fewestTurnings 15 rfl rfl) rfl ?_
      refine zj_icmp_gt (t := 209) (zdk ttX8_fewestTurnings 16 rfl rfl) (by decide) (by omega) (by omega) (fun c5223 => ?_) (fun c5223 => ?_)
      · refine zj_iload (zdk ttX8_fewestTurnings 112 rfl rfl) rfl ?_
        refine zj_ldc (z := 2147483647) (zdk ttX8_fewestTurnings 113 rfl rfl) wc_RX8_57 ?_
        refine zj_icmp_ne (t := 220) (zdk ttX8_fewestTurnings 114 rfl rfl) (by decide) (by omega) (by decide) (fun c5224 => ?_) (fun c5224 => ?_)
        · refine zj_iload (zdk ttX8_fewestTurnings 117 rfl rfl) rfl ?_
          exact zj_iret rfl (zdk ttX8_fewestTurnings 118 rfl rfl) (Nat.le_refl _) (Nat.le_refl _) ⟨x10, rfl, by omega, s13, f14⟩
        · refine zj_iconst (zdk ttX8_fewestTurnings 115 rfl rfl) ?_
          refine zj_goto (t := 222) (zdk ttX8_fewestTurnings 116 rfl rfl) (by decide) ?_
          exact zj_iret rfl (zdk ttX8_fewestTurnings 118 rfl rfl) (Nat.le_refl _) (Nat.le_refl _) ⟨(-1), rfl, by omega, s13, f14⟩
      · refine zj_iload (zdk ttX8_fewestTurnings 17 rfl rfl) rfl ?_
        refine zj_bipush (zdk ttX8_fewestTurnings 18 rfl rfl) (by decide) ?_
        refine zj_iremP (zdk ttX8_fewestTurnings 19 rfl rfl) (by omega) (by omega) ?_
        refine zj_bipush (zdk ttX8_fewestTurnings 20 rfl rfl) (by decide) ?_
        refine zj_imul (zdk ttX8_fewestTurnings 21 rfl rfl) ?_
        refine zj_istore (L' := [some (.inr 108), some (.inl p1), some (.inl p2), some (.inl p3), some (.inl x10), some (.inl x11), some (.inl ((x11 % 32) * 62)), none, none, none, none]) (zdk ttX8_fewestTurnings 22 rfl rfl) (by decide) rfl ?_
        refine zj_iconst (zdk ttX8_fewestTurnings 23 rfl rfl) ?_
        refine zj_istore (L' := [some (.inr 108), some (.inl p1), some (.inl p2), some (.inl p3), some (.inl x10), some (.inl x11), some (.inl ((x11 % 32) * 62)), some (.inl 0), none, none, none]) (zdk ttX8_fewestTurnings 24 rfl rfl) (by decide) rfl ?_
        have lp5651 : ∀ (n : Nat) (x5225 x5226 : Int) (h5227 : zM), (-2147483648 ≤ x5225 ∧ x5225 ≤ 2147483647) → (0 ≤ x5226 ∧ x5226 ≤ 62) → okC h5227 → zfC w_X8_fewestTurnings h h5227 → (63 - x5226).toNat < n → zJ shC l yX8_fewestTurnings cX8_fewestTurnings 11 (some .int) (rmL 3) 0 0 (q_X8_fewestTurnings h p1 p2 p3) 0 0 43 [some (.inr 108), some (.inl p1), some (.inl p2), some (.inl p3), some (.inl x5225), some (.inl x11), some (.inl ((x11 % 32) * 62)), some (.inl x5226), none, none, none] [] h5227 := by
          intro n
          induction n with
          | zero => intro x5225 x5226 h5227 b5652 b5653 s5228 f5229 m5654; exact absurd m5654 (Nat.not_lt_zero _)
          | succ n ih5655 =>
            intro x5225 x5226 h5227 b5652 b5653 s5228 f5229 m5654
            refine zj_iload (zdk ttX8_fewestTurnings 25 rfl rfl) rfl ?_
            refine zj_bipush (zdk ttX8_fewestTurnings 26 rfl rfl) (by decide) ?_
            refine zj_icmp_ge (t := 203) (zdk ttX8_fewestTurnings 27 rfl rfl) (by decide) (by omega) (by decide) (fun c5656 => ?_) (fun c5656 => ?_)
            · refine zj_iinc (L' := [some (.inr 108), some (.inl p1), some (.inl p2), some (.inl p3), some (.inl x5225), some (.inl (x11 + 1)), some (.inl ((x11 % 32) * 62)), some (.inl x5226), none, none, none]) (zdk ttX8_fewestTurnings 110 rfl rfl) rfl (by decide) rfl ?_
              refine zj_goto (t := 24) (zdk ttX8_fewestTurnings 111 rfl rfl) (by decide) ?_
              refine zj_kill (k := 6) (L' := [some (.inr 108), some (.inl p1), some (.inl p2), some (.inl p3), some (.inl x5225), some (.inl (x11 + 1)), none, some (.inl x5226), none, none, none]) rfl ?_
              refine zj_kill (k := 7) (L' := [some (.inr 108), some (.inl p1), some (.inl p2), some (.inl p3), some (.inl x5225), some (.inl (x11 + 1)), none, none, none, none, none]) rfl ?_
              exact ih5222  x5225 (x11 + 1) h5227 (by omega) (by omega) s5228 f5229 (by omega)
            · refine zj_aload_n (zdk ttX8_fewestTurnings 28 rfl rfl) rfl (by decide) ?_
              refine zj_getr (r := 113) (zdk ttX8_fewestTurnings 29 rfl rfl) zf_RX8_24 rfl (k_L108 s5228) (rf_L108_4 s5228) ?_
              refine zj_iload (zdk ttX8_fewestTurnings 30 rfl rfl) rfl ?_
              refine zj_iload (zdk ttX8_fewestTurnings 31 rfl rfl) rfl ?_
              refine zj_iadd (zdk ttX8_fewestTurnings 32 rfl rfl) ?_
              have b5657 : -2147483648 ≤ (h5227.2 113 (((x11 % 32) * 62) + x5226)) ∧ (h5227.2 113 (((x11 % 32) * 62) + x5226)) ≤ 2147483647 := ab_L108_4 s5228 (((x11 % 32) * 62) + x5226)
              refine zj_iald (v := (h5227.2 113 (((x11 % 32) * 62) + x5226))) (zdk ttX8_fewestTurnings 33 rfl rfl) (ka_L108_4 s5228) (by decide) (by omega) rfl ?_
              refine zj_istore (L' := [some (.inr 108), some (.inl p1), some (.inl p2), some (.inl p3), some (.inl x5225), some (.inl x11), some (.inl ((x11 % 32) * 62)), some (.inl x5226), some (.inl (h5227.2 113 (((x11 % 32) * 62) + x5226))), none, none]) (zdk ttX8_fewestTurnings 34 rfl rfl) (by decide) rfl ?_
              refine zj_iload (zdk ttX8_fewestTurnings 35 rfl rfl) rfl ?_
              refine zj_ldc (z := 2147483647) (zdk ttX8_fewestTurnings 36 rfl rfl) wc_RX8_57 ?_
              refine zj_icmp_ne (t := 72) (zdk ttX8_fewestTurnings 37 rfl rfl) (by decide) (by omega) (by decide) (fun c5658 => ?_) (fun c5658 => ?_)
              · refine zj_aload_n (zdk ttX8_fewestTurnings 39 rfl rfl) rfl (by decide) ?_
                refine zj_getr (r := 113) (zdk ttX8_fewestTurnings 40 rfl rfl) zf_RX8_24 rfl (k_L108 s5228) (rf_L108_4 s5228) ?_
                refine zj_iload (zdk ttX8_fewestTurnings 41 rfl rfl) rfl ?_
                refine zj_iload (zdk ttX8_fewestTurnings 42 rfl rfl) rfl ?_
                refine zj_iadd (zdk ttX8_fewestTurnings 43 rfl rfl) ?_
                refine zj_ldc (z := 2147483647) (zdk ttX8_fewestTurnings 44 rfl rfl) wc_RX8_57 ?_
                refine zj_iast (zdk ttX8_fewestTurnings 45 rfl rfl) (ka_L108_4 s5228) (by decide) (by omega) (fun h5659 e5660 => ?_)
                refine zj_iload (zdk ttX8_fewestTurnings 46 rfl rfl) rfl ?_
                refine zj_iload_n (zdk ttX8_fewestTurnings 47 rfl rfl) rfl ?_
                refine zj_icmp_ne (t := 102) (zdk ttX8_fewestTurnings 48 rfl rfl) (by decide) (by omega) (by omega) (fun c5661 => ?_) (fun c5661 => ?_)
                · refine zj_iload (zdk ttX8_fewestTurnings 54 rfl rfl) rfl ?_
                  refine zj_bipush (zdk ttX8_fewestTurnings 55 rfl rfl) (by decide) ?_
                  have j5664 : ∀ (y5663 : Int), (0 ≤ y5663 ∧ y5663 ≤ 30) → zJ shC l yX8_fewestTurnings cX8_fewestTurnings 11 (some .int) (rmL 3) 0 0 (q_X8_fewestTurnings h p1 p2 p3) 0 0 118 [some (.inr 108), some (.inl p1), some (.inl p2), some (.inl p3), some (.inl x5225), some (.inl x11), some (.inl ((x11 % 32) * 62)), some (.inl x5226), some (.inl (h5227.2 113 (((x11 % 32) * 62) + x5226))), none, none] [.inl y5663] h5659 := by
                    intro y5663 b5665
                    refine zj_istore (L' := [some (.inr 108), some (.inl p1), some (.inl p2), some (.inl p3), some (.inl x5225), some (.inl x11), some (.inl ((x11 % 32) * 62)), some (.inl x5226), some (.inl (h5227.2 113 (((x11 % 32) * 62) + x5226))), some (.inl y5663), none]) (zdk ttX8_fewestTurnings 62 rfl rfl) (by decide) rfl ?_
                    refine zj_iload (zdk ttX8_fewestTurnings 63 rfl rfl) rfl ?_
                    refine zj_bipush (zdk ttX8_fewestTurnings 64 rfl rfl) (by decide) ?_
                    have j5668 : ∀ (y5667 : Int), (0 ≤ y5667 ∧ y5667 ≤ 30) → zJ shC l yX8_fewestTurnings cX8_fewestTurnings 11 (some .int) (rmL 3) 0 0 (q_X8_fewestTurnings h p1 p2 p3) 0 0 133 [some (.inr 108), some (.inl p1), some (.inl p2), some (.inl p3), some (.inl x5225), some (.inl x11), some (.inl ((x11 % 32) * 62)), some (.inl x5226), some (.inl (h5227.2 113 (((x11 % 32) * 62) + x5226))), some (.inl y5663), none] [.inl y5667] h5659 := by
                      intro y5667 b5669
                      refine zj_istore (L' := [some (.inr 108), some (.inl p1), some (.inl p2), some (.inl p3), some (.inl x5225), some (.inl x11), some (.inl ((x11 % 32) * 62)), some (.inl x5226), some (.inl (h5227.2 113 (((x11 % 32) * 62) + x5226))), some (.inl y5663), some (.inl y5667)]) (zdk ttX8_fewestTurnings 69 rfl rfl) (by decide) rfl ?_
                      refine zj_aload_n (zdk ttX8_fewestTurnings 70 rfl rfl) rfl (by decide) ?_
                      refine zj_iload (zdk ttX8_fewestTurnings 71 rfl rfl) rfl ?_
                      refine zj_iload (zdk ttX8_fewestTurnings 72 rfl rfl) rfl ?_
                      refine zj_iload (zdk ttX8_fewestTurnings 73 rfl rfl) rfl ?_
                      refine zj_iload (zdk ttX8_fewestTurnings 74 rfl rfl) rfl ?_
                      have s5670 : okC h5659 := aw_L108_4 s5228 e5660 (by omega)
                      refine zj_callV (av := [.inl x11, .inl y5663, .inl y5667, .inl (h5227.2 113 (((x11 % 32) * 62) + x5226))]) (st := []) (zdk ttX8_fewestTurnings 75 rfl rfl) mb_X8_turnInto mv_RX8_58 (ci := 8) rfl rfl (k_L108 s5670) rfl rfl (Nat.le_of_ble_eq_true rfl) (s_X8_turnInto l h5659 x11 y5663 y5667 (h5227.2 113 (((x11 % 32) * 62) + x5226)) s5670 (by omega) (by omega) (by omega) (by omega)) (rm_ok (by decide) (by decide)) (zq_v fun h5673 q5671 => ?_)
                      obtain ⟨s5675, f5676⟩ := q5671
                      refine zj_aload_n (zdk ttX8_fewestTurnings 76 rfl rfl) rfl (by decide) ?_
                      refine zj_iload (zdk ttX8_fewestTurnings 77 rfl rfl) rfl ?_
                      refine zj_iload_n (zdk ttX8_fewestTurnings 78 rfl rfl) rfl ?_
                      refine zj_iload (zdk ttX8_fewestTurnings 79 rfl rfl) rfl ?_
                      refine zj_isub (zdk ttX8_fewestTurnings 80 rfl rfl) ?_
                      refine zj_iload (zdk ttX8_fewestTurnings 81 rfl rfl) rfl ?_
                      refine zj_iload (zdk ttX8_fewestTurnings 82 rfl rfl) rfl ?_
                      refine zj_iconst (zdk ttX8_fewestTurnings 83 rfl rfl) ?_
                      refine zj_iadd (zdk ttX8_fewestTurnings 84 rfl rfl) ?_
                      refine zj_callV (av := [.inl x11, .inl (p1 - y5663), .inl y5667, .inl ((h5227.2 113 (((x11 % 32) * 62) + x5226)) + 1)]) (st := []) (zdk ttX8_fewestTurnings 85 rfl rfl) mb_X8_turnInto mv_RX8_58 (ci := 8) rfl rfl (k_L108 s5675) rfl rfl (Nat.le_of_ble_eq_true rfl) (s_X8_turnInto l h5673 x11 (p1 - y5663) y5667 ((h5227.2 113 (((x11 % 32) * 62) + x5226)) + 1) s5675 (by omega) (by omega) (by omega) (by omega)) (rm_ok (by decide) (by decide)) (zq_v fun h5679 q5677 => ?_)
                      obtain ⟨s5681, f5682⟩ := q5677
                      refine zj_aload_n (zdk ttX8_fewestTurnings 86 rfl rfl) rfl (by decide) ?_
                      refine zj_iload (zdk ttX8_fewestTurnings 87 rfl rfl) rfl ?_
                      refine zj_iload (zdk ttX8_fewestTurnings 88 rfl rfl) rfl ?_
                      refine zj_iload_n (zdk ttX8_fewestTurnings 89 rfl rfl) rfl ?_
                      refine zj_iload (zdk ttX8_fewestTurnings 90 rfl rfl) rfl ?_
                      refine zj_isub (zdk ttX8_fewestTurnings 91 rfl rfl) ?_
                      refine zj_iload (zdk ttX8_fewestTurnings 92 rfl rfl) rfl ?_
                      refine zj_iconst (zdk ttX8_fewestTurnings 93 rfl rfl) ?_
                      refine zj_iadd (zdk ttX8_fewestTurnings 94 rfl rfl) ?_
                      refine zj_callV (av := [.inl x11, .inl y5663, .inl (p2 - y5667), .inl ((h5227.2 113 (((x11 % 32) * 62) + x5226)) + 1)]) (st := []) (zdk ttX8_fewestTurnings 95 rfl rfl) mb_X8_turnInto mv_RX8_58 (ci := 8) rfl rfl (k_L108 s5681) rfl rfl (Nat.le_of_ble_eq_true rfl) (s_X8_turnInto l h5679 x11 y5663 (p2 - y5667) ((h5227.2 113 (((x11 % 32) * 62) + x5226)) + 1) s5681 (by omega) (by omega) (by omega) (by omega)) (rm_ok (by decide) (by decide)) (zq_v fun h5685 q5683 => ?_)
                      obtain ⟨s5687, f5688⟩ := q5683
                      refine zj_aload_n (zdk ttX8_fewestTurnings 96 rfl rfl) rfl (by decide) ?_
                      refine zj_iload (zdk ttX8_fewestTurnings 97 rfl rfl) rfl ?_
                      refine zj_iload_n (zdk ttX8_fewestTurnings 98 rfl rfl) rfl ?_
                      refine zj_iload (zdk ttX8_fewestTurnings 99 rfl rfl) rfl ?_
                      refine zj_isub (zdk ttX8_fewestTurnings 100 rfl rfl) ?_
                      refine zj_iload_n (zdk ttX8_fewestTurnings 101 rfl rfl) rfl ?_
                      refine zj_iload (zdk ttX8_fewestTurnings 102 rfl rfl) rfl ?_
                      refine zj_isub (zdk ttX8_fewestTurnings 103 rfl rfl) ?_
                      refine zj_iload (zdk ttX8_fewestTurnings 104 rfl rfl) rfl ?_
                      refine zj_iconst (zdk ttX8_fewestTurnings 105 rfl rfl) ?_
                      refine zj_iadd (zdk ttX8_fewestTurnings 106 rfl rfl) ?_
                      refine zj_wrap ?_
                      have b5689 := zwp_in ((h5227.2 113 (((x11 % 32) * 62) + x5226)) + 2)
                      refine zj_callV (av := [.inl x11, .inl (p1 - y5663), .inl (p2 - y5667), .inl (zwp ((h5227.2 113 (((x11 % 32) * 62) + x5226)) + 2))]) (st := []) (zdk ttX8_fewestTurnings 107 rfl rfl) mb_X8_turnInto mv_RX8_58 (ci := 8) rfl rfl (k_L108 s5687) rfl rfl (Nat.le_of_ble_eq_true rfl) (s_X8_turnInto l h5685 x11 (p1 - y5663) (p2 - y5667) (zwp ((h5227.2 113 (((x11 % 32) * 62) + x5226)) + 2)) s5687 (by omega) (by omega) (by omega) (by omega)) (rm_ok (by decide) (by decide)) (zq_v fun h5692 q5690 => ?_)
                      obtain ⟨s5694, f5695⟩ := q5690
                      refine zj_iinc (L' := [some (.inr 108), some (.inl p1), some (.inl p2), some (.inl p3), some (.inl x5225), some (.inl x11), some (.inl ((x11 % 32) * 62)), some (.inl (x5226 + 1)), some (.inl (h5227.2 113 (((x11 % 32) * 62) + x5226))), some (.inl y5663), some (.inl y5667)]) (zdk ttX8_fewestTurnings 108 rfl rfl) rfl (by decide) rfl ?_
                      refine zj_goto (t := 43) (zdk ttX8_fewestTurnings 109 rfl rfl) (by decide) ?_
                      refine zj_kill (k := 8) (L' := [some (.inr 108), some (.inl p1), some (.inl p2), some (.inl p3), some (.inl x5225), some (.inl x11), some (.inl ((x11 % 32) * 62)), some (.inl (x5226 + 1)), none, some (.inl y5663), some (.inl y5667)]) rfl ?_
                      refine zj_kill (k := 9) (L' := [some (.inr 108), some (.inl p1), some (.inl p2), some (.inl p3), some (.inl x5225), some (.inl x11), some (.inl ((x11 % 32) * 62)), some (.inl (x5226 + 1)), none, none, some (.inl y5667)]) rfl ?_
                      refine zj_kill (k := 10) (L' := [some (.inr 108), some (.inl p1), some (.inl p2), some (.inl p3), some (.inl x5225), some (.inl x11), some (.inl ((x11 % 32) * 62)), some (.inl (x5226 + 1)), none, none, none]) rfl ?_
                      have f5700 : zfC w_X8_fewestTurnings h h5659 := zfC_w f5229 e5660 (by omega)
                      have f5699 : zfC w_X8_fewestTurnings h h5673 := zfC_t f5700 f5676 (fun a9 b9 z9 => by
                        exact z9)
                      have f5698 : zfC w_X8_fewestTurnings h h5679 := zfC_t f5699 f5682 (fun a9 b9 z9 => by
                        exact z9)
                      have f5697 : zfC w_X8_fewestTurnings h h5685 := zfC_t f5698 f5688 (fun a9 b9 z9 => by
                        exact z9)
                      have f5696 : zfC w_X8_fewestTurnings h h5692 := zfC_t f5697 f5695 (fun a9 b9 z9 => by
                        exact z9)
                      exact ih5655  x5225 (x5226 + 1) h5692 (by omega) (by omega) s5694 f5696 (by omega)
                    refine zj_icmp_ge (t := 132) (zdk ttX8_fewestTurnings 65 rfl rfl) (by decide) (by omega) (by decide) (fun c5666 => ?_) (fun c5666 => ?_)
                    · refine zj_iconst (zdk ttX8_fewestTurnings 68 rfl rfl) ?_
                      exact j5668 0 (by omega)
                    · refine zj_iload (zdk ttX8_fewestTurnings 66 rfl rfl) rfl ?_
                      refine zj_goto (t := 133) (zdk ttX8_fewestTurnings 67 rfl rfl) (by decide) ?_
                      exact j5668 x5226 (by omega)
                  refine zj_icmp_ge (t := 113) (zdk ttX8_fewestTurnings 56 rfl rfl) (by decide) (by omega) (by decide) (fun c5662 => ?_) (fun c5662 => ?_)
                  · refine zj_iload (zdk ttX8_fewestTurnings 59 rfl rfl) rfl ?_
                    refine zj_bipush (zdk ttX8_fewestTurnings 60 rfl rfl) (by decide) ?_
                    refine zj_isub (zdk ttX8_fewestTurnings 61 rfl rfl) ?_
                    exact j5664 (x5226 - 31) (by omega)
                  · refine zj_iconst (zdk ttX8_fewestTurnings 57 rfl rfl) ?_
                    refine zj_goto (t := 118) (zdk ttX8_fewestTurnings 58 rfl rfl) (by decide) ?_
                    exact j5664 0 (by omega)
                · refine zj_iload (zdk ttX8_fewestTurnings 49 rfl rfl) rfl ?_
                  refine zj_iload (zdk ttX8_fewestTurnings 50 rfl rfl) rfl ?_
                  refine zj_min (zdk ttX8_fewestTurnings 51 rfl rfl) mx_RX8_27 (by omega) (by omega) (Nat.le_of_ble_eq_true rfl) (rm_m (by decide)) ?_
                  have b5701 := zm_min_f x5225 (h5227.2 113 (((x11 % 32) * 62) + x5226))
                  refine zj_istore (L' := [some (.inr 108), some (.inl p1), some (.inl p2), some (.inl p3), some (.inl (zm_min x5225 (h5227.2 113 (((x11 % 32) * 62) + x5226)))), some (.inl x11), some (.inl ((x11 % 32) * 62)), some (.inl x5226), some (.inl (h5227.2 113 (((x11 % 32) * 62) + x5226))), none, none]) (zdk ttX8_fewestTurnings 52 rfl rfl) (by decide) rfl ?_
                  refine zj_goto (t := 197) (zdk ttX8_fewestTurnings 53 rfl rfl) (by decide) ?_
                  refine zj_iinc (L' := [some (.inr 108), some (.inl p1), some (.inl p2), some (.inl p3), some (.inl (zm_min x5225 (h5227.2 113 (((x11 % 32) * 62) + x5226)))), some (.inl x11), some (.inl ((x11 % 32) * 62)), some (.inl (x5226 + 1)), some (.inl (h5227.2 113 (((x11 % 32) * 62) + x5226))), none, none]) (zdk ttX8_fewestTurnings 108 rfl rfl) rfl (by decide) rfl ?_
                  refine zj_goto (t := 43) (zdk ttX8_fewestTurnings 109 rfl rfl) (by decide) ?_
                  refine zj_kill (k := 8) (L' := [some (.inr 108), some (.inl p1), some (.inl p2), some (.inl p3), some (.inl (zm_min x5225 (h5227.2 113 (((x11 % 32) * 62) + x5226)))), some (.inl x11), some (.inl ((x11 % 32) * 62)), some (.inl (x5226 + 1)), none, none, none]) rfl ?_
                  have s5702 : okC h5659 := aw_L108_4 s5228 e5660 (by omega)
                  have f5703 : zfC w_X8_fewestTurnings h h5659 := zfC_w f5229 e5660 (by omega)
                  exact ih5655  (zm_min x5225 (h5227.2 113 (((x11 % 32) * 62) + x5226))) (x5226 + 1) h5659 (by omega) (by omega) s5702 f5703 (by omega)
              · refine zj_goto (t := 197) (zdk ttX8_fewestTurnings 38 rfl rfl) (by decide) ?_
                refine zj_iinc (L' := [some (.inr 108), some (.inl p1), some (.inl p2), some (.inl p3), some (.inl x5225), some (.inl x11), some (.inl ((x11 % 32) * 62)), some (.inl (x5226 + 1)), some (.inl (h5227.2 113 (((x11 % 32) * 62) + x5226))), none, none]) (zdk ttX8_fewestTurnings 108 rfl rfl) rfl (by decide) rfl ?_
                refine zj_goto (t := 43) (zdk ttX8_fewestTurnings 109 rfl rfl) (by decide) ?_
                refine zj_kill (k := 8) (L' := [some (.inr 108), some (.inl p1), some (.inl p2), some (.inl p3), some (.inl x5225), some (.inl x11), some (.inl ((x11 % 32) * 62)), some (.inl (x5226 + 1)), none, none, none]) rfl ?_
                exact ih5655  x5225 (x5226 + 1) h5227 (by omega) (by omega) s5228 f5229 (by omega)
        exact lp5651 _ x10 0 h12 (by omega) (by omega) s13 f14 (Nat.lt_succ_self _)
  have f5705 : zfC w_X8_fewestTurnings h h1 := zfC_fill (zfC_r _ _) e2 (fun _ => (by omega))
  have f5704 : zfC w_X8_fewestTurnings h h6 := zfC_t f5705 f9 (fun a9 b9 z9 => by
    exact z9)
  exact lp5218 _ 2147483647 1 h6 (by omega) (by omega) s8 f5704 (Nat.lt_succ_self _)

abbrev tX8_fewestCrossings : List (Nat × Instr × Nat) := [(0, .iconst 1, 1), (1, .iload_n 2, 1), (2, .ishl, 1), (3, .iconst 1, 1), (4, .isub, 1), (5, .istore 4, 2), (7, .aload_n 0, 1), (8, .getfield 18, 3), (11, .iconst (-1), 1), (12, .invokestatic 40, 3), (15, .aload_n 0, 1), (16, .getfield 18, 3), (19, .iconst 0, 1), (20, .iconst 0, 1), (21, .iastore, 1), (22, .aload_n 0, 1), (23, .getfield 21, 3), (26, .iconst 0, 1), (27, .iconst 0, 1), (28, .iastore, 1), (29, .iconst 1, 1), (30, .istore 5, 2), (32, .iconst 0, 1), (33, .istore 6, 2), (35, .iload 6, 2), (37, .iload 5, 2), (39, .if_icmp .ge 224, 3), (42, .iload 6, 2), (44, .aload_n 0, 1), (45, .getfield 21, 3), (48, .arraylength, 1), (49, .if_icmp .ge 214, 3), (52, .aload_n 0, 1), (53, .getfield 21, 3), (56, .iload 6, 2), (58, .iaload, 1), (59, .istore 7, 2), (61, .iload 7, 2), (63, .bipush 64, 2), (65, .irem, 1), (66, .istore 8, 2), (68, .iload 8, 2), (70, .iload 4, 2), (72, .if_icmp .ne 11, 3), (75, .aload_n 0, 1), (76, .getfield 18, 3), (79, .iload 7, 2), (81, .iaload, 1), (82, .ireturn, 1), (83, .iload 7, 2), (85, .bipush 64, 2), (87, .if_icmp .lt 7, 3), (90, .iconst 1, 1), (91, .goto 4, 3), (94, .iconst 0, 1), (95, .istore 9, 2), (97, .iload 9, 2), (99, .ifCond .eq 8, 3), (102, .iload 8, 2), (104, .goto 10, 3), (107, .iload 4, 2), (109, .iload 8, 2), (111, .iconst (-1), 1), (112, .ixor, 1), (113, .iand, 1), (114, .istore 10, 2), (116, .iconst 0, 1), (117, .istore 11, 2), (119, .iload 11, 2), (121, .iload 4, 2), (123, .if_icmp .gt 134, 3), (126, .iload 11, 2), (128, .iload 10, 2), (130, .iconst (-1), 1), (131, .ixor, 1), (132, .iand, 1), (133, .ifCond .ne 16, 3), (136, .iload 11, 2), (138, .invokestatic 46, 3), (141, .iload_n 3, 1), (142, .if_icmp .gt 7, 3), (145, .iconst 1, 1), (146, .goto 4, 3), (149, .iconst 0, 1), (150, .istore 12, 2), (152, .iload 8, 2), (154, .iload 11, 2), (156, .ixor, 1), (157, .iload 9, 2), (159, .ifCond .eq 7, 3), (162, .iconst 0, 1), (163, .goto 5, 3), (166, .bipush 64, 2), (168, .iadd, 1), (169, .istore 13, 2), (171, .aload_n 0, 1), (172, .getfield 18, 3), (175, .iload 13, 2), (177, .iaload, 1), (178, .iconst (-1), 1), (179, .if_icmp .ne 17, 3), (182, .iload 5, 2), (184, .aload_n 0, 1), (185, .getfield 21, 3), (188, .arraylength, 1), (189, .if_icmp .ge 7, 3), (192, .iconst 1, 1), (193, .goto 4, 3), (196, .iconst 0, 1), (197, .istore 14, 2), (199, .iload 12, 2), (201, .ifCond .eq 50, 3), (204, .iload 14, 2), (206, .ifCond .eq 45, 3), (209, .aload_n 1, 1), (210, .iload 10, 2), (212, .iload 11, 2), (214, .iconst (-1), 1), (215, .ixor, 1), (216, .iand, 1), (217, .invokevirtual 51, 3), (220, .ifCond .eq 31, 3), (223, .aload_n 0, 1), (224, .getfield 18, 3), (227, .iload 13, 2), (229, .aload_n 0, 1), (230, .getfield 18, 3), (233, .iload 7, 2), (235, .iaload, 1), (236, .iconst 1, 1), (237, .iadd, 1), (238, .iastore, 1), (239, .aload_n 0, 1), (240, .getfield 21, 3), (243, .iload 5, 2), (245, .iinc 5 1, 3), (248, .iload 13, 2), (250, .iastore, 1), (251, .iinc 11 1, 3), (254, .goto (-135), 3), (257, .iinc 6 1, 3), (260, .goto (-225), 3), (263, .iconst (-1), 1), (264, .ireturn, 1)]
theorem ttX8_fewestCrossings : zdt cX8_fewestCrossings tX8_fewestCrossings = true := by decide +kernel
abbrev w_X8_fewestCrossings (a b : Int) : Prop := (111 ≤ a ∧ a ≤ 112)
abbrev q_X8_fewestCrossings (h : zM) (p1 : Int) (p2 : Int) (p3 : Int) : Option zV → zM → Prop := zqi fun v h' => ((-2147483648) ≤ v ∧ v ≤ 2147483647) ∧ okC h' ∧ zfC w_X8_fewestCrossings h h'
set_option maxRecDepth 100000 in
set_option maxHeartbeats 4000000 in
theorem s_X8_fewestCrossings (l : Launch) (h : zM) (p1 : Int) (p2 : Int) (p3 : Int) (s0 : okC h) (r_p1 : zPu p1) (b_p2 : 1 ≤ p2 ∧ p2 ≤ 6) (b_p3 : 1 ≤ p3 ∧ p3 ≤ 3) : zT shC l yX8_fewestCrossings cX8_fewestCrossings 15 (some .int) (rmL 2) 0 0 [.inr 108, .inr p1, .inl p2, .inl p3] h (q_X8_fewestCrossings h p1 p2 p3) := by
  refine zT_of (by decide +kernel) (L0 := [some (.inr 108), some (.inr p1), some (.inl p2), some (.inl p3), none, none, none, none, none, none, none, none, none, none, none]) rfl (Nat.le_of_ble_eq_true rfl) ?_
  have b1 := zPu_b r_p1
  refine zj_iconst (zdk ttX8_fewestCrossings 0 rfl rfl) ?_
  refine zj_iload_n (zdk ttX8_fewestCrossings 1 rfl rfl) rfl ?_
  refine zj_ishl (zdk ttX8_fewestCrossings 2 rfl rfl) ?_
  have b2 := zshl_1 (n := p2) (a := 1) (b := 6) (lo := 2) (hi := 64) (by omega) (by decide) (by decide) (by decide)
  refine zj_iconst (zdk ttX8_fewestCrossings 3 rfl rfl) ?_
  refine zj_isub (zdk ttX8_fewestCrossings 4 rfl rfl) ?_
  refine zj_istore (L' := [some (.inr 108), some (.inr p1), some (.inl p2), some (.inl p3), some (.inl ((zshl 1 p2) - 1)), none, none, none, none, none, none, none, none, none, none]) (zdk ttX8_fewestCrossings 5 rfl rfl) (by decide) rfl ?_
  refine zj_aload_n (zdk ttX8_fewestCrossings 6 rfl rfl) rfl (by decide) ?_
  refine zj_getr (r := 111) (zdk ttX8_fewestCrossings 7 rfl rfl) zf_RX8_18 rfl (k_L108 s0) (rf_L108_2 s0) ?_
  refine zj_iconst (zdk ttX8_fewestCrossings 8 rfl rfl) ?_
  refine zj_callS (av := [.inr 111, .inl (-1)]) (st := []) (zdk ttX8_fewestCrossings 9 rfl rfl) mb_J7_fill_53178 ms_RX8_40 rfl rfl (Nat.le_of_ble_eq_true rfl) (s_J7_fill_53178 shC l h 111 (-1) (ka_L108_2 s0) (by decide)) (rm_ok (by decide) (by decide)) (zq_v fun h3 e4 => ?_)
  refine zj_aload_n (zdk ttX8_fewestCrossings 10 rfl rfl) rfl (by decide) ?_
  have s5 : okC h3 := okC_fill s0 e4 (fun j => pa_L108_2 (v := (-1)) (by omega) j) (na_L108_2).1 (na_L108_2).2
  refine zj_getr (r := 111) (zdk ttX8_fewestCrossings 11 rfl rfl) zf_RX8_18 rfl (k_L108 s5) (rf_L108_2 s5) ?_
  refine zj_iconst (zdk ttX8_fewestCrossings 12 rfl rfl) ?_
  refine zj_iconst (zdk ttX8_fewestCrossings 13 rfl rfl) ?_
  refine zj_iast (zdk ttX8_fewestCrossings 14 rfl rfl) (ka_L108_2 s5) (by decide) (by omega) (fun h6 e7 => ?_)
  refine zj_aload_n (zdk ttX8_fewestCrossings 15 rfl rfl) rfl (by decide) ?_
  have s8 : okC h6 := aw_L108_2 s5 e7 (by omega)
  refine zj_getr (r := 112) (zdk ttX8_fewestCrossings 16 rfl rfl) zf_RX8_21 rfl (k_L108 s8) (rf_L108_3 s8) ?_
  refine zj_iconst (zdk ttX8_fewestCrossings 17 rfl rfl) ?_
  refine zj_iconst (zdk ttX8_fewestCrossings 18 rfl rfl) ?_
  refine zj_iast (zdk ttX8_fewestCrossings 19 rfl rfl) (ka_L108_3 s8) (by decide) (by omega) (fun h9 e10 => ?_)
  refine zj_iconst (zdk ttX8_fewestCrossings 20 rfl rfl) ?_
  refine zj_istore (L' := [some (.inr 108), some (.inr p1), some (.inl p2), some (.inl p3), some (.inl ((zshl 1 p2) - 1)), some (.inl 1), none, none, none, none, none, none, none, none, none]) (zdk ttX8_fewestCrossings 21 rfl rfl) (by decide) rfl ?_
  refine zj_iconst (zdk ttX8_fewestCrossings 22 rfl rfl) ?_
  refine zj_istore (L' := [some (.inr 108), some (.inr p1), some (.inl p2), some (.inl p3), some (.inl ((zshl 1 p2) - 1)), some (.inl 1), some (.inl 0), none, none, none, none, none, none, none, none]) (zdk ttX8_fewestCrossings 23 rfl rfl) (by decide) rfl ?_
  have lp13289 : ∀ (n : Nat) (x11 x12 : Int) (h13 : zM), (1 ≤ x11 ∧ x11 ≤ 2147483647) → (0 ≤ x12 ∧ x12 ≤ 128) → okC h13 → zfC w_X8_fewestCrossings h h13 → (129 - x12).toNat < n → zJ shC l yX8_fewestCrossings cX8_fewestCrossings 15 (some .int) (rmL 2) 0 0 (q_X8_fewestCrossings h p1 p2 p3) 0 0 35 [some (.inr 108), some (.inr p1), some (.inl p2), some (.inl p3), some (.inl ((zshl 1 p2) - 1)), some (.inl x11), some (.inl x12), none, none, none, none, none, none, none, none] [] h13 := by
    intro n
    induction n with
    | zero => intro x11 x12 h13 b13290 b13291 s14 f15 m13292; exact absurd m13292 (Nat.not_lt_zero _)
    | succ n ih13293 =>
      intro x11 x12 h13 b13290 b13291 s14 f15 m13292
      refine zj_iload (zdk ttX8_fewestCrossings 24 rfl rfl) rfl ?_
      refine zj_iload (zdk ttX8_fewestCrossings 25 rfl rfl) rfl ?_
      refine zj_icmp_ge (t := 263) (zdk ttX8_fewestCrossings 26 rfl rfl) (by decide) (by omega) (by omega) (fun c13294 => ?_) (fun c13294 => ?_)
      · refine zj_iconst (zdk ttX8_fewestCrossings 142 rfl rfl) ?_
        exact zj_iret rfl (zdk ttX8_fewestCrossings 143 rfl rfl) (Nat.le_refl _) (Nat.le_refl _) ⟨(-1), rfl, by omega, s14, f15⟩
      · refine zj_iload (zdk ttX8_fewestCrossings 27 rfl rfl) rfl ?_
        refine zj_aload_n (zdk ttX8_fewestCrossings 28 rfl rfl) rfl (by decide) ?_
        refine zj_getr (r := 112) (zdk ttX8_fewestCrossings 29 rfl rfl) zf_RX8_21 rfl (k_L108 s14) (rf_L108_3 s14) ?_
        refine zj_alen (zdk ttX8_fewestCrossings 30 rfl rfl) (ka_L108_3 s14) ?_
        refine zj_icmp_ge (t := 263) (zdk ttX8_fewestCrossings 31 rfl rfl) (by decide) (by omega) (by decide) (fun c13295 => ?_) (fun c13295 => ?_)
        · refine zj_iconst (zdk ttX8_fewestCrossings 142 rfl rfl) ?_
          exact zj_iret rfl (zdk ttX8_fewestCrossings 143 rfl rfl) (Nat.le_refl _) (Nat.le_refl _) ⟨(-1), rfl, by omega, s14, f15⟩
        · refine zj_aload_n (zdk ttX8_fewestCrossings 32 rfl rfl) rfl (by decide) ?_
          refine zj_getr (r := 112) (zdk ttX8_fewestCrossings 33 rfl rfl) zf_RX8_21 rfl (k_L108 s14) (rf_L108_3 s14) ?_
          refine zj_iload (zdk ttX8_fewestCrossings 34 rfl rfl) rfl ?_
          have b13296 : 0 ≤ (h13.2 112 x12) ∧ (h13.2 112 x12) ≤ 127 := ab_L108_3 s14 x12
          refine zj_iald (v := (h13.2 112 x12)) (zdk ttX8_fewestCrossings 35 rfl rfl) (ka_L108_3 s14) (by decide) (by omega) rfl ?_
          refine zj_istore (L' := [some (.inr 108), some (.inr p1), some (.inl p2), some (.inl p3), some (.inl ((zshl 1 p2) - 1)), some (.inl x11), some (.inl x12), some (.inl (h13.2 112 x12)), none, none, none, none, none, none, none]) (zdk ttX8_fewestCrossings 36 rfl rfl) (by decide) rfl ?_
          refine zj_iload (zdk ttX8_fewestCrossings 37 rfl rfl) rfl ?_
          refine zj_bipush (zdk ttX8_fewestCrossings 38 rfl rfl) (by decide) ?_
          refine zj_iremP (zdk ttX8_fewestCrossings 39 rfl rfl) (by omega) (by omega) ?_
          refine zj_istore (L' := [some (.inr 108), some (.inr p1), some (.inl p2), some (.inl p3), some (.inl ((zshl 1 p2) - 1)), some (.inl x11), some (.inl x12), some (.inl (h13.2 112 x12)), some (.inl ((h13.2 112 x12) % 64)), none, none, none, none, none, none]) (zdk ttX8_fewestCrossings 40 rfl rfl) (by decide) rfl ?_
          refine zj_iload (zdk ttX8_fewestCrossings 41 rfl rfl) rfl ?_
          refine zj_iload (zdk ttX8_fewestCrossings 42 rfl rfl) rfl ?_
          refine zj_icmp_ne (t := 83) (zdk ttX8_fewestCrossings 43 rfl rfl) (by decide) (by omega) (by omega) (fun c13297 => ?_) (fun c13297 => ?_)
          · refine zj_iload (zdk ttX8_fewestCrossings 49 rfl rfl) rfl ?_
            refine zj_bipush (zdk ttX8_fewestCrossings 50 rfl rfl) (by decide) ?_
            refine zj_icmp_lt (t := 94) (zdk ttX8_fewestCrossings 51 rfl rfl) (by decide) (by omega) (by decide) (fun c13298 => ?_) (fun c13298 => ?_)
            · refine zj_iconst (zdk ttX8_fewestCrossings 54 rfl rfl) ?_
              refine zj_istore (L' := [some (.inr 108), some (.inr p1), some (.inl p2), some (.inl p3), some (.inl ((zshl 1 p2) - 1)), some (.inl x11), some (.inl x12), some (.inl (h13.2 112 x12)), some (.inl ((h13.2 112 x12) % 64)), some (.inl 0), none, none, none, none, none]) (zdk ttX8_fewestCrossings 55 rfl rfl) (by decide) rfl ?_
              refine zj_iload (zdk ttX8_fewestCrossings 56 rfl rfl) rfl ?_
              refine zj_if_eq (t := 107) (zdk ttX8_fewestCrossings 57 rfl rfl) (by decide) (by decide) (fun c13299 => ?_) (fun c13299 => ?_)
              · refine zj_iload (zdk ttX8_fewestCrossings 60 rfl rfl) rfl ?_
                refine zj_iload (zdk ttX8_fewestCrossings 61 rfl rfl) rfl ?_
                refine zj_iconst (zdk ttX8_fewestCrossings 62 rfl rfl) ?_
                refine zj_ixor (zdk ttX8_fewestCrossings 63 rfl rfl) ?_
                have b13300 := zxor_in ((h13.2 112 x12) % 64) (-1)
                refine zj_iand (zdk ttX8_fewestCrossings 64 rfl rfl) ?_
                have b13301 := zand_l (a := ((zshl 1 p2) - 1)) (by omega) (zxor ((h13.2 112 x12) % 64) (-1))
                refine zj_istore (L' := [some (.inr 108), some (.inr p1), some (.inl p2), some (.inl p3), some (.inl ((zshl 1 p2) - 1)), some (.inl x11), some (.inl x12), some (.inl (h13.2 112 x12)), some (.inl ((h13.2 112 x12) % 64)), some (.inl 0), some (.inl (zand ((zshl 1 p2) - 1) (zxor ((h13.2 112 x12) % 64) (-1)))), none, none, none, none]) (zdk ttX8_fewestCrossings 65 rfl rfl) (by decide) rfl ?_
                refine zj_iconst (zdk ttX8_fewestCrossings 66 rfl rfl) ?_
                refine zj_istore (L' := [some (.inr 108), some (.inr p1), some (.inl p2), some (.inl p3), some (.inl ((zshl 1 p2) - 1)), some (.inl x11), some (.inl x12), some (.inl (h13.2 112 x12)), some (.inl ((h13.2 112 x12) % 64)), some (.inl 0), some (.inl (zand ((zshl 1 p2) - 1) (zxor ((h13.2 112 x12) % 64) (-1)))), some (.inl 0), none, none, none]) (zdk ttX8_fewestCrossings 67 rfl rfl) (by decide) rfl ?_
                have lp13849 : ∀ (n : Nat) (x13302 x13303 : Int) (h13304 : zM), (1 ≤ x13302 ∧ x13302 ≤ 2147483647) → (0 ≤ x13303 ∧ x13303 ≤ 64) → okC h13304 → zfC w_X8_fewestCrossings h h13304 → (65 - x13303).toNat < n → zJ shC l yX8_fewestCrossings cX8_fewestCrossings 15 (some .int) (rmL 2) 0 0 (q_X8_fewestCrossings h p1 p2 p3) 0 0 119 [some (.inr 108), some (.inr p1), some (.inl p2), some (.inl p3), some (.inl ((zshl 1 p2) - 1)), some (.inl x13302), some (.inl x12), some (.inl (h13.2 112 x12)), some (.inl ((h13.2 112 x12) % 64)), some (.inl 0), some (.inl (zand ((zshl 1 p2) - 1) (zxor ((h13.2 112 x12) % 64) (-1)))), some (.inl x13303), none, none, none] [] h13304 := by
                  intro n
                  induction n with
                  | zero => intro x13302 x13303 h13304 b13850 b13851 s13305 f13306 m13852; exact absurd m13852 (Nat.not_lt_zero _)
                  | succ n ih13853 =>
                    intro x13302 x13303 h13304 b13850 b13851 s13305 f13306 m13852
                    refine zj_iload (zdk ttX8_fewestCrossings 68 rfl rfl) rfl ?_
                    refine zj_iload (zdk ttX8_fewestCrossings 69 rfl rfl) rfl ?_
                    refine zj_icmp_gt (t := 257) (zdk ttX8_fewestCrossings 70 rfl rfl) (by decide) (by omega) (by omega) (fun c13854 => ?_) (fun c13854 => ?_)
                    · refine zj_iinc (L' := [some (.inr 108), some (.inr p1), some (.inl p2), some (.inl p3), some (.inl ((zshl 1 p2) - 1)), some (.inl x13302), some (.inl (x12 + 1)), some (.inl (h13.2 112 x12)), some (.inl ((h13.2 112 x12) % 64)), some (.inl 0), some (.inl (zand ((zshl 1 p2) - 1) (zxor ((h13.2 112 x12) % 64) (-1)))), some (.inl x13303), none, none, none]) (zdk ttX8_fewestCrossings 140 rfl rfl) rfl (by decide) rfl ?_
                      refine zj_goto (t := 35) (zdk ttX8_fewestCrossings 141 rfl rfl) (by decide) ?_
                      refine zj_kill (k := 7) (L' := [some (.inr 108), some (.inr p1), some (.inl p2), some (.inl p3), some (.inl ((zshl 1 p2) - 1)), some (.inl x13302), some (.inl (x12 + 1)), none, some (.inl ((h13.2 112 x12) % 64)), some (.inl 0), some (.inl (zand ((zshl 1 p2) - 1) (zxor ((h13.2 112 x12) % 64) (-1)))), some (.inl x13303), none, none, none]) rfl ?_
                      refine zj_kill (k := 8) (L' := [some (.inr 108), some (.inr p1), some (.inl p2), some (.inl p3), some (.inl ((zshl 1 p2) - 1)), some (.inl x13302), some (.inl (x12 + 1)), none, none, some (.inl 0), some (.inl (zand ((zshl 1 p2) - 1) (zxor ((h13.2 112 x12) % 64) (-1)))), some (.inl x13303), none, none, none]) rfl ?_
                      refine zj_kill (k := 9) (L' := [some (.inr 108), some (.inr p1), some (.inl p2), some (.inl p3), some (.inl ((zshl 1 p2) - 1)), some (.inl x13302), some (.inl (x12 + 1)), none, none, none, some (.inl (zand ((zshl 1 p2) - 1) (zxor ((h13.2 112 x12) % 64) (-1)))), some (.inl x13303), none, none, none]) rfl ?_
                      refine zj_kill (k := 10) (L' := [some (.inr 108), some (.inr p1), some (.inl p2), some (.inl p3), some (.inl ((zshl 1 p2) - 1)), some (.inl x13302), some (.inl (x12 + 1)), none, none, none, none, some (.inl x13303), none, none, none]) rfl ?_
                      refine zj_kill (k := 11) (L' := [some (.inr 108), some (.inr p1), some (.inl p2), some (.inl p3), some (.inl ((zshl 1 p2) - 1)), some (.inl x13302), some (.inl (x12 + 1)), none, none, none, none, none, none, none, none]) rfl ?_
                      exact ih13293  x13302 (x12 + 1) h13304 (by omega) (by omega) s13305 f13306 (by omega)
                    · refine zj_iload (zdk ttX8_fewestCrossings 71 rfl rfl) rfl ?_
                      refine zj_iload (zdk ttX8_fewestCrossings 72 rfl rfl) rfl ?_
                      refine zj_iconst (zdk ttX8_fewestCrossings 73 rfl rfl) ?_
                      refine zj_ixor (zdk ttX8_fewestCrossings 74 rfl rfl) ?_
                      have b13855 := zxor_in (zand ((zshl 1 p2) - 1) (zxor ((h13.2 112 x12) % 64) (-1))) (-1)
                      refine zj_iand (zdk ttX8_fewestCrossings 75 rfl rfl) ?_
                      have b13856 := zand_l (a := x13303) (by omega) (zxor (zand ((zshl 1 p2) - 1) (zxor ((h13.2 112 x12) % 64) (-1))) (-1))
                      refine zj_if_ne (t := 149) (zdk ttX8_fewestCrossings 76 rfl rfl) (by decide) (by omega) (fun c13857 => ?_) (fun c13857 => ?_)
                      · refine zj_iconst (zdk ttX8_fewestCrossings 83 rfl rfl) ?_
                        refine zj_istore (L' := [some (.inr 108), some (.inr p1), some (.inl p2), some (.inl p3), some (.inl ((zshl 1 p2) - 1)), some (.inl x13302), some (.inl x12), some (.inl (h13.2 112 x12)), some (.inl ((h13.2 112 x12) % 64)), some (.inl 0), some (.inl (zand ((zshl 1 p2) - 1) (zxor ((h13.2 112 x12) % 64) (-1)))), some (.inl x13303), some (.inl 0), none, none]) (zdk ttX8_fewestCrossings 84 rfl rfl) (by decide) rfl ?_
                        refine zj_iload (zdk ttX8_fewestCrossings 85 rfl rfl) rfl ?_
                        refine zj_iload (zdk ttX8_fewestCrossings 86 rfl rfl) rfl ?_
                        refine zj_ixor (zdk ttX8_fewestCrossings 87 rfl rfl) ?_
                        have b13858 := zxor_k (a := ((h13.2 112 x12) % 64)) (b := x13303) (K := 64) 6 (by decide) (by decide) (by omega) (by omega)
                        refine zj_iload (zdk ttX8_fewestCrossings 88 rfl rfl) rfl ?_
                        refine zj_if_eq (t := 166) (zdk ttX8_fewestCrossings 89 rfl rfl) (by decide) (by decide) (fun c13859 => ?_) (fun c13859 => ?_)
                        · refine zj_bipush (zdk ttX8_fewestCrossings 92 rfl rfl) (by decide) ?_
                          refine zj_iadd (zdk ttX8_fewestCrossings 93 rfl rfl) ?_
                          refine zj_istore (L' := [some (.inr 108), some (.inr p1), some (.inl p2), some (.inl p3), some (.inl ((zshl 1 p2) - 1)), some (.inl x13302), some (.inl x12), some (.inl (h13.2 112 x12)), some (.inl ((h13.2 112 x12) % 64)), some (.inl 0), some (.inl (zand ((zshl 1 p2) - 1) (zxor ((h13.2 112 x12) % 64) (-1)))), some (.inl x13303), some (.inl 0), some (.inl ((zxor ((h13.2 112 x12) % 64) x13303) + 64)), none]) (zdk ttX8_fewestCrossings 94 rfl rfl) (by decide) rfl ?_
                          refine zj_aload_n (zdk ttX8_fewestCrossings 95 rfl rfl) rfl (by decide) ?_
                          refine zj_getr (r := 111) (zdk ttX8_fewestCrossings 96 rfl rfl) zf_RX8_18 rfl (k_L108 s13305) (rf_L108_2 s13305) ?_
                          refine zj_iload (zdk ttX8_fewestCrossings 97 rfl rfl) rfl ?_
                          have b13860 : -2147483648 ≤ (h13304.2 111 ((zxor ((h13.2 112 x12) % 64) x13303) + 64)) ∧ (h13304.2 111 ((zxor ((h13.2 112 x12) % 64) x13303) + 64)) ≤ 2147483647 := ab_L108_2 s13305 ((zxor ((h13.2 112 x12) % 64) x13303) + 64)
                          refine zj_iald (v := (h13304.2 111 ((zxor ((h13.2 112 x12) % 64) x13303) + 64))) (zdk ttX8_fewestCrossings 98 rfl rfl) (ka_L108_2 s13305) (by decide) (by omega) rfl ?_
                          refine zj_iconst (zdk ttX8_fewestCrossings 99 rfl rfl) ?_
                          refine zj_icmp_ne (t := 196) (zdk ttX8_fewestCrossings 100 rfl rfl) (by decide) (by omega) (by decide) (fun c13861 => ?_) (fun c13861 => ?_)
                          · refine zj_iconst (zdk ttX8_fewestCrossings 108 rfl rfl) ?_
                            refine zj_istore (L' := [some (.inr 108), some (.inr p1), some (.inl p2), some (.inl p3), some (.inl ((zshl 1 p2) - 1)), some (.inl x13302), some (.inl x12), some (.inl (h13.2 112 x12)), some (.inl ((h13.2 112 x12) % 64)), some (.inl 0), some (.inl (zand ((zshl 1 p2) - 1) (zxor ((h13.2 112 x12) % 64) (-1)))), some (.inl x13303), some (.inl 0), some (.inl ((zxor ((h13.2 112 x12) % 64) x13303) + 64)), some (.inl 0)]) (zdk ttX8_fewestCrossings 109 rfl rfl) (by decide) rfl ?_
                            refine zj_iload (zdk ttX8_fewestCrossings 110 rfl rfl) rfl ?_
                            refine zj_if_eq (t := 251) (zdk ttX8_fewestCrossings 111 rfl rfl) (by decide) (by decide) (fun c13862 => ?_) (fun c13862 => ?_)
                            · refine zj_iinc (L' := [some (.inr 108), some (.inr p1), some (.inl p2), some (.inl p3), some (.inl ((zshl 1 p2) - 1)), some (.inl x13302), some (.inl x12), some (.inl (h13.2 112 x12)), some (.inl ((h13.2 112 x12) % 64)), some (.inl 0), some (.inl (zand ((zshl 1 p2) - 1) (zxor ((h13.2 112 x12) % 64) (-1)))), some (.inl (x13303 + 1)), some (.inl 0), some (.inl ((zxor ((h13.2 112 x12) % 64) x13303) + 64)), some (.inl 0)]) (zdk ttX8_fewestCrossings 138 rfl rfl) rfl (by decide) rfl ?_
                              refine zj_goto (t := 119) (zdk ttX8_fewestCrossings 139 rfl rfl) (by decide) ?_
                              refine zj_kill (k := 12) (L' := [some (.inr 108), some (.inr p1), some (.inl p2), some (.inl p3), some (.inl ((zshl 1 p2) - 1)), some (.inl x13302), some (.inl x12), some (.inl (h13.2 112 x12)), some (.inl ((h13.2 112 x12) % 64)), some (.inl 0), some (.inl (zand ((zshl 1 p2) - 1) (zxor ((h13.2 112 x12) % 64) (-1)))), some (.inl (x13303 + 1)), none, some (.inl ((zxor ((h13.2 112 x12) % 64) x13303) + 64)), some (.inl 0)]) rfl ?_
                              refine zj_kill (k := 13) (L' := [some (.inr 108), some (.inr p1), some (.inl p2), some (.inl p3), some (.inl ((zshl 1 p2) - 1)), some (.inl x13302), some (.inl x12), some (.inl (h13.2 112 x12)), some (.inl ((h13.2 112 x12) % 64)), some (.inl 0), some (.inl (zand ((zshl 1 p2) - 1) (zxor ((h13.2 112 x12) % 64) (-1)))), some (.inl (x13303 + 1)), none, none, some (.inl 0)]) rfl ?_
                              refine zj_kill (k := 14) (L' := [some (.inr 108), some (.inr p1), some (.inl p2), some (.inl p3), some (.inl ((zshl 1 p2) - 1)), some (.inl x13302), some (.inl x12), some (.inl (h13.2 112 x12)), some (.inl ((h13.2 112 x12) % 64)), some (.inl 0), some (.inl (zand ((zshl 1 p2) - 1) (zxor ((h13.2 112 x12) % 64) (-1)))), some (.inl (x13303 + 1)), none, none, none]) rfl ?_
                              exact ih13853  x13302 (x13303 + 1) h13304 (by omega) (by omega) s13305 f13306 (by omega)
                            · exact absurd c13862 (by omega)
                          · refine zj_iload (zdk ttX8_fewestCrossings 101 rfl rfl) rfl ?_
                            refine zj_aload_n (zdk ttX8_fewestCrossings 102 rfl rfl) rfl (by decide) ?_
                            refine zj_getr (r := 112) (zdk ttX8_fewestCrossings 103 rfl rfl) zf_RX8_21 rfl (k_L108 s13305) (rf_L108_3 s13305) ?_
                            refine zj_alen (zdk ttX8_fewestCrossings 104 rfl rfl) (ka_L108_3 s13305) ?_
                            refine zj_icmp_ge (t := 196) (zdk ttX8_fewestCrossings 105 rfl rfl) (by decide) (by omega) (by decide) (fun c13863 => ?_) (fun c13863 => ?_)
                            · refine zj_iconst (zdk ttX8_fewestCrossings 108 rfl rfl) ?_
                              refine zj_istore (L' := [some (.inr 108), some (.inr p1), some (.inl p2), some (.inl p3), some (.inl ((zshl 1 p2) - 1)), some (.inl x13302), some (.inl x12), some (.inl (h13.2 112 x12)), some (.inl ((h13.2 112 x12) % 64)), some (.inl 0), some (.inl (zand ((zshl 1 p2) - 1) (zxor ((h13.2 112 x12) % 64) (-1)))), some (.inl x13303), some (.inl 0), some (.inl ((zxor ((h13.2 112 x12) % 64) x13303) + 64)), some (.inl 0)]) (zdk ttX8_fewestCrossings 109 rfl rfl) (by decide) rfl ?_
                              refine zj_iload (zdk ttX8_fewestCrossings 110 rfl rfl) rfl ?_
                              refine zj_if_eq (t := 251) (zdk ttX8_fewestCrossings 111 rfl rfl) (by decide) (by decide) (fun c13864 => ?_) (fun c13864 => ?_)
                              · refine zj_iinc (L' := [some (.inr 108), some (.inr p1), some (.inl p2), some (.inl p3), some (.inl ((zshl 1 p2) - 1)), some (.inl x13302), some (.inl x12), some (.inl (h13.2 112 x12)), some (.inl ((h13.2 112 x12) % 64)), some (.inl 0), some (.inl (zand ((zshl 1 p2) - 1) (zxor ((h13.2 112 x12) % 64) (-1)))), some (.inl (x13303 + 1)), some (.inl 0), some (.inl ((zxor ((h13.2 112 x12) % 64) x13303) + 64)), some (.inl 0)]) (zdk ttX8_fewestCrossings 138 rfl rfl) rfl (by decide) rfl ?_
                                refine zj_goto (t := 119) (zdk ttX8_fewestCrossings 139 rfl rfl) (by decide) ?_
                                refine zj_kill (k := 12) (L' := [some (.inr 108), some (.inr p1), some (.inl p2), some (.inl p3), some (.inl ((zshl 1 p2) - 1)), some (.inl x13302), some (.inl x12), some (.inl (h13.2 112 x12)), some (.inl ((h13.2 112 x12) % 64)), some (.inl 0), some (.inl (zand ((zshl 1 p2) - 1) (zxor ((h13.2 112 x12) % 64) (-1)))), some (.inl (x13303 + 1)), none, some (.inl ((zxor ((h13.2 112 x12) % 64) x13303) + 64)), some (.inl 0)]) rfl ?_
                                refine zj_kill (k := 13) (L' := [some (.inr 108), some (.inr p1), some (.inl p2), some (.inl p3), some (.inl ((zshl 1 p2) - 1)), some (.inl x13302), some (.inl x12), some (.inl (h13.2 112 x12)), some (.inl ((h13.2 112 x12) % 64)), some (.inl 0), some (.inl (zand ((zshl 1 p2) - 1) (zxor ((h13.2 112 x12) % 64) (-1)))), some (.inl (x13303 + 1)), none, none, some (.inl 0)]) rfl ?_
                                refine zj_kill (k := 14) (L' := [some (.inr 108), some (.inr p1), some (.inl p2), some (.inl p3), some (.inl ((zshl 1 p2) - 1)), some (.inl x13302), some (.inl x12), some (.inl (h13.2 112 x12)), some (.inl ((h13.2 112 x12) % 64)), some (.inl 0), some (.inl (zand ((zshl 1 p2) - 1) (zxor ((h13.2 112 x12) % 64) (-1)))), some (.inl (x13303 + 1)), none, none, none]) rfl ?_
                                exact ih13853  x13302 (x13303 + 1) h13304 (by omega) (by omega) s13305 f13306 (by omega)
                              · exact absurd c13864 (by omega)
                            · refine zj_iconst (zdk ttX8_fewestCrossings 106 rfl rfl) ?_
                              refine zj_goto (t := 197) (zdk ttX8_fewestCrossings 107 rfl rfl) (by decide) ?_
                              refine zj_istore (L' := [some (.inr 108), some (.inr p1), some (.inl p2), some (.inl p3), some (.inl ((zshl 1 p2) - 1)), some (.inl x13302), some (.inl x12), some (.inl (h13.2 112 x12)), some (.inl ((h13.2 112 x12) % 64)), some (.inl 0), some (.inl (zand ((zshl 1 p2) - 1) (zxor ((h13.2 112 x12) % 64) (-1)))), some (.inl x13303), some (.inl 0), some (.inl ((zxor ((h13.2 112 x12) % 64) x13303) + 64)), some (.inl 1)]) (zdk ttX8_fewestCrossings 109 rfl rfl) (by decide) rfl ?_
                              refine zj_iload (zdk ttX8_fewestCrossings 110 rfl rfl) rfl ?_
                              refine zj_if_eq (t := 251) (zdk ttX8_fewestCrossings 111 rfl rfl) (by decide) (by decide) (fun c13865 => ?_) (fun c13865 => ?_)
                              · refine zj_iinc (L' := [some (.inr 108), some (.inr p1), some (.inl p2), some (.inl p3), some (.inl ((zshl 1 p2) - 1)), some (.inl x13302), some (.inl x12), some (.inl (h13.2 112 x12)), some (.inl ((h13.2 112 x12) % 64)), some (.inl 0), some (.inl (zand ((zshl 1 p2) - 1) (zxor ((h13.2 112 x12) % 64) (-1)))), some (.inl (x13303 + 1)), some (.inl 0), some (.inl ((zxor ((h13.2 112 x12) % 64) x13303) + 64)), some (.inl 1)]) (zdk ttX8_fewestCrossings 138 rfl rfl) rfl (by decide) rfl ?_
                                refine zj_goto (t := 119) (zdk ttX8_fewestCrossings 139 rfl rfl) (by decide) ?_
                                refine zj_kill (k := 12) (L' := [some (.inr 108), some (.inr p1), some (.inl p2), some (.inl p3), some (.inl ((zshl 1 p2) - 1)), some (.inl x13302), some (.inl x12), some (.inl (h13.2 112 x12)), some (.inl ((h13.2 112 x12) % 64)), some (.inl 0), some (.inl (zand ((zshl 1 p2) - 1) (zxor ((h13.2 112 x12) % 64) (-1)))), some (.inl (x13303 + 1)), none, some (.inl ((zxor ((h13.2 112 x12) % 64) x13303) + 64)), some (.inl 1)]) rfl ?_
                                refine zj_kill (k := 13) (L' := [some (.inr 108), some (.inr p1), some (.inl p2), some (.inl p3), some (.inl ((zshl 1 p2) - 1)), some (.inl x13302), some (.inl x12), some (.inl (h13.2 112 x12)), some (.inl ((h13.2 112 x12) % 64)), some (.inl 0), some (.inl (zand ((zshl 1 p2) - 1) (zxor ((h13.2 112 x12) % 64) (-1)))), some (.inl (x13303 + 1)), none, none, some (.inl 1)]) rfl ?_
                                refine zj_kill (k := 14) (L' := [some (.inr 108), some (.inr p1), some (.inl p2), some (.inl p3), some (.inl ((zshl 1 p2) - 1)), some (.inl x13302), some (.inl x12), some (.inl (h13.2 112 x12)), some (.inl ((h13.2 112 x12) % 64)), some (.inl 0), some (.inl (zand ((zshl 1 p2) - 1) (zxor ((h13.2 112 x12) % 64) (-1)))), some (.inl (x13303 + 1)), none, none, none]) rfl ?_
                                exact ih13853  x13302 (x13303 + 1) h13304 (by omega) (by omega) s13305 f13306 (by omega)
                              · exact absurd c13865 (by omega)
                        · exact absurd c13859 (by omega)
                      · refine zj_iload (zdk ttX8_fewestCrossings 77 rfl rfl) rfl ?_
                        refine zj_callS (av := [.inl x13303]) (st := []) (zdk ttX8_fewestCrossings 78 rfl rfl) mb_J6_bitCount_0f7a4 ms_RX8_46 rfl rfl (Nat.le_of_ble_eq_true rfl) (s_J6_bitCount_0f7a4 shC l h13304 x13303) (rm_ok (by decide) (by decide)) (zq_i fun v13866 h13867 q13868 => ?_)
                        obtain ⟨rfl, b13869⟩ := q13868
                        refine zj_iload_n (zdk ttX8_fewestCrossings 79 rfl rfl) rfl ?_
                        refine zj_icmp_gt (t := 149) (zdk ttX8_fewestCrossings 80 rfl rfl) (by decide) (by omega) (by omega) (fun c13870 => ?_) (fun c13870 => ?_)
                        · refine zj_iconst (zdk ttX8_fewestCrossings 83 rfl rfl) ?_
                          refine zj_istore (L' := [some (.inr 108), some (.inr p1), some (.inl p2), some (.inl p3), some (.inl ((zshl 1 p2) - 1)), some (.inl x13302), some (.inl x12), some (.inl (h13.2 112 x12)), some (.inl ((h13.2 112 x12) % 64)), some (.inl 0), some (.inl (zand ((zshl 1 p2) - 1) (zxor ((h13.2 112 x12) % 64) (-1)))), some (.inl x13303), some (.inl 0), none, none]) (zdk ttX8_fewestCrossings 84 rfl rfl) (by decide) rfl ?_
                          refine zj_iload (zdk ttX8_fewestCrossings 85 rfl rfl) rfl ?_
                          refine zj_iload (zdk ttX8_fewestCrossings 86 rfl rfl) rfl ?_
                          refine zj_ixor (zdk ttX8_fewestCrossings 87 rfl rfl) ?_
                          have b13871 := zxor_k (a := ((h13.2 112 x12) % 64)) (b := x13303) (K := 64) 6 (by decide) (by decide) (by omega) (by omega)
                          refine zj_iload (zdk ttX8_fewestCrossings 88 rfl rfl) rfl ?_
                          refine zj_if_eq (t := 166) (zdk ttX8_fewestCrossings 89 rfl rfl) (by decide) (by decide) (fun c13872 => ?_) (fun c13872 => ?_)
                          · refine zj_bipush (zdk ttX8_fewestCrossings 92 rfl rfl) (by decide) ?_
                            refine zj_iadd (zdk ttX8_fewestCrossings 93 rfl rfl) ?_
                            refine zj_istore (L' := [some (.inr 108), some (.inr p1), some (.inl p2), some (.inl p3), some (.inl ((zshl 1 p2) - 1)), some (.inl x13302), some (.inl x12), some (.inl (h13.2 112 x12)), some (.inl ((h13.2 112 x12) % 64)), some (.inl 0), some (.inl (zand ((zshl 1 p2) - 1) (zxor ((h13.2 112 x12) % 64) (-1)))), some (.inl x13303), some (.inl 0), some (.inl ((zxor ((h13.2 112 x12) % 64) x13303) + 64)), none]) (zdk ttX8_fewestCrossings 94 rfl rfl) (by decide) rfl ?_
                            refine zj_aload_n (zdk ttX8_fewestCrossings 95 rfl rfl) rfl (by decide) ?_
                            refine zj_getr (r := 111) (zdk ttX8_fewestCrossings 96 rfl rfl) zf_RX8_18 rfl (k_L108 s13305) (rf_L108_2 s13305) ?_
                            refine zj_iload (zdk ttX8_fewestCrossings 97 rfl rfl) rfl ?_
                            have b13873 : -2147483648 ≤ (h13304.2 111 ((zxor ((h13.2 112 x12) % 64) x13303) + 64)) ∧ (h13304.2 111 ((zxor ((h13.2 112 x12) % 64) x13303) + 64)) ≤ 2147483647 := ab_L108_2 s13305 ((zxor ((h13.2 112 x12) % 64) x13303) + 64)
                            refine zj_iald (v := (h13304.2 111 ((zxor ((h13.2 112 x12) % 64) x13303) + 64))) (zdk ttX8_fewestCrossings 98 rfl rfl) (ka_L108_2 s13305) (by decide) (by omega) rfl ?_
                            refine zj_iconst (zdk ttX8_fewestCrossings 99 rfl rfl) ?_
                            refine zj_icmp_ne (t := 196) (zdk ttX8_fewestCrossings 100 rfl rfl) (by decide) (by omega) (by decide) (fun c13874 => ?_) (fun c13874 => ?_)
                            · refine zj_iconst (zdk ttX8_fewestCrossings 108 rfl rfl) ?_
                              refine zj_istore (L' := [some (.inr 108), some (.inr p1), some (.inl p2), some (.inl p3), some (.inl ((zshl 1 p2) - 1)), some (.inl x13302), some (.inl x12), some (.inl (h13.2 112 x12)), some (.inl ((h13.2 112 x12) % 64)), some (.inl 0), some (.inl (zand ((zshl 1 p2) - 1) (zxor ((h13.2 112 x12) % 64) (-1)))), some (.inl x13303), some (.inl 0), some (.inl ((zxor ((h13.2 112 x12) % 64) x13303) + 64)), some (.inl 0)]) (zdk ttX8_fewestCrossings 109 rfl rfl) (by decide) rfl ?_
                              refine zj_iload (zdk ttX8_fewestCrossings 110 rfl rfl) rfl ?_
                              refine zj_if_eq (t := 251) (zdk ttX8_fewestCrossings 111 rfl rfl) (by decide) (by decide) (fun c13875 => ?_) (fun c13875 => ?_)
                              · refine zj_iinc (L' := [some (.inr 108), some (.inr p1), some (.inl p2), some (.inl p3), some (.inl ((zshl 1 p2) - 1)), some (.inl x13302), some (.inl x12), some (.inl (h13.2 112 x12)), some (.inl ((h13.2 112 x12) % 64)), some (.inl 0), some (.inl (zand ((zshl 1 p2) - 1) (zxor ((h13.2 112 x12) % 64) (-1)))), some (.inl (x13303 + 1)), some (.inl 0), some (.inl ((zxor ((h13.2 112 x12) % 64) x13303) + 64)), some (.inl 0)]) (zdk ttX8_fewestCrossings 138 rfl rfl) rfl (by decide) rfl ?_
                                refine zj_goto (t := 119) (zdk ttX8_fewestCrossings 139 rfl rfl) (by decide) ?_
                                refine zj_kill (k := 12) (L' := [some (.inr 108), some (.inr p1), some (.inl p2), some (.inl p3), some (.inl ((zshl 1 p2) - 1)), some (.inl x13302), some (.inl x12), some (.inl (h13.2 112 x12)), some (.inl ((h13.2 112 x12) % 64)), some (.inl 0), some (.inl (zand ((zshl 1 p2) - 1) (zxor ((h13.2 112 x12) % 64) (-1)))), some (.inl (x13303 + 1)), none, some (.inl ((zxor ((h13.2 112 x12) % 64) x13303) + 64)), some (.inl 0)]) rfl ?_
                                refine zj_kill (k := 13) (L' := [some (.inr 108), some (.inr p1), some (.inl p2), some (.inl p3), some (.inl ((zshl 1 p2) - 1)), some (.inl x13302), some (.inl x12), some (.inl (h13.2 112 x12)), some (.inl ((h13.2 112 x12) % 64)), some (.inl 0), some (.inl (zand ((zshl 1 p2) - 1) (zxor ((h13.2 112 x12) % 64) (-1)))), some (.inl (x13303 + 1)), none, none, some (.inl 0)]) rfl ?_
                                refine zj_kill (k := 14) (L' := [some (.inr 108), some (.inr p1), some (.inl p2), some (.inl p3), some (.inl ((zshl 1 p2) - 1)), some (.inl x13302), some (.inl x12), some (.inl (h13.2 112 x12)), some (.inl ((h13.2 112 x12) % 64)), some (.inl 0), some (.inl (zand ((zshl 1 p2) - 1) (zxor ((h13.2 112 x12) % 64) (-1)))), some (.inl (x13303 + 1)), none, none, none]) rfl ?_
                                exact ih13853  x13302 (x13303 + 1) h13304 (by omega) (by omega) s13305 f13306 (by omega)
                              · exact absurd c13875 (by omega)
                            · refine zj_iload (zdk ttX8_fewestCrossings 101 rfl rfl) rfl ?_
                              refine zj_aload_n (zdk ttX8_fewestCrossings 102 rfl rfl) rfl (by decide) ?_
                              refine zj_getr (r := 112) (zdk ttX8_fewestCrossings 103 rfl rfl) zf_RX8_21 rfl (k_L108 s13305) (rf_L108_3 s13305) ?_
                              refine zj_alen (zdk ttX8_fewestCrossings 104 rfl rfl) (ka_L108_3 s13305) ?_
                              refine zj_icmp_ge (t := 196) (zdk ttX8_fewestCrossings 105 rfl rfl) (by decide) (by omega) (by decide) (fun c13876 => ?_) (fun c13876 => ?_)
                              · refine zj_iconst (zdk ttX8_fewestCrossings 108 rfl rfl) ?_
                                refine zj_istore (L' := [some (.inr 108), some (.inr p1), some (.inl p2), some (.inl p3), some (.inl ((zshl 1 p2) - 1)), some (.inl x13302), some (.inl x12), some (.inl (h13.2 112 x12)), some (.inl ((h13.2 112 x12) % 64)), some (.inl 0), some (.inl (zand ((zshl 1 p2) - 1) (zxor ((h13.2 112 x12) % 64) (-1)))), some (.inl x13303), some (.inl 0), some (.inl ((zxor ((h13.2 112 x12) % 64) x13303) + 64)), some (.inl 0)]) (zdk ttX8_fewestCrossings 109 rfl rfl) (by decide) rfl ?_
                                refine zj_iload (zdk ttX8_fewestCrossings 110 rfl rfl) rfl ?_
                                refine zj_if_eq (t := 251) (zdk ttX8_fewestCrossings 111 rfl rfl) (by decide) (by decide) (fun c13877 => ?_) (fun c13877 => ?_)
                                · refine zj_iinc (L' := [some (.inr 108), some (.inr p1), some (.inl p2), some (.inl p3), some (.inl ((zshl 1 p2) - 1)), some (.inl x13302), some (.inl x12), some (.inl (h13.2 112 x12)), some (.inl ((h13.2 112 x12) % 64)), some (.inl 0), some (.inl (zand ((zshl 1 p2) - 1) (zxor ((h13.2 112 x12) % 64) (-1)))), some (.inl (x13303 + 1)), some (.inl 0), some (.inl ((zxor ((h13.2 112 x12) % 64) x13303) + 64)), some (.inl 0)]) (zdk ttX8_fewestCrossings 138 rfl rfl) rfl (by decide) rfl ?_
                                  refine zj_goto (t := 119) (zdk ttX8_fewestCrossings 139 rfl rfl) (by decide) ?_
                                  refine zj_kill (k := 12) (L' := [some (.inr 108), some (.inr p1), some (.inl p2), some (.inl p3), some (.inl ((zshl 1 p2) - 1)), some (.inl x13302), some (.inl x12), some (.inl (h13.2 112 x12)), some (.inl ((h13.2 112 x12) % 64)), some (.inl 0), some (.inl (zand ((zshl 1 p2) - 1) (zxor ((h13.2 112 x12) % 64) (-1)))), some (.inl (x13303 + 1)), none, some (.inl ((zxor ((h13.2 112 x12) % 64) x13303) + 64)), some (.inl 0)]) rfl ?_
                                  refine zj_kill (k := 13) (L' := [some (.inr 108), some (.inr p1), some (.inl p2), some (.inl p3), some (.inl ((zshl 1 p2) - 1)), some (.inl x13302), some (.inl x12), some (.inl (h13.2 112 x12)), some (.inl ((h13.2 112 x12) % 64)), some (.inl 0), some (.inl (zand ((zshl 1 p2) - 1) (zxor ((h13.2 112 x12) % 64) (-1)))), some (.inl (x13303 + 1)), none, none, some (.inl 0)]) rfl ?_
                                  refine zj_kill (k := 14) (L' := [some (.inr 108), some (.inr p1), some (.inl p2), some (.inl p3), some (.inl ((zshl 1 p2) - 1)), some (.inl x13302), some (.inl x12), some (.inl (h13.2 112 x12)), some (.inl ((h13.2 112 x12) % 64)), some (.inl 0), some (.inl (zand ((zshl 1 p2) - 1) (zxor ((h13.2 112 x12) % 64) (-1)))), some (.inl (x13303 + 1)), none, none, none]) rfl ?_
                                  exact ih13853  x13302 (x13303 + 1) h13304 (by omega) (by omega) s13305 f13306 (by omega)
                                · exact absurd c13877 (by omega)
                              · refine zj_iconst (zdk ttX8_fewestCrossings 106 rfl rfl) ?_
                                refine zj_goto (t := 197) (zdk ttX8_fewestCrossings 107 rfl rfl) (by decide) ?_
                                refine zj_istore (L' := [some (.inr 108), some (.inr p1), some (.inl p2), some (.inl p3), some (.inl ((zshl 1 p2) - 1)), some (.inl x13302), some (.inl x12), some (.inl (h13.2 112 x12)), some (.inl ((h13.2 112 x12) % 64)), some (.inl 0), some (.inl (zand ((zshl 1 p2) - 1) (zxor ((h13.2 112 x12) % 64) (-1)))), some (.inl x13303), some (.inl 0), some (.inl ((zxor ((h13.2 112 x12) % 64) x13303) + 64)), some (.inl 1)]) (zdk ttX8_fewestCrossings 109 rfl rfl) (by decide) rfl ?_
                                refine zj_iload (zdk ttX8_fewestCrossings 110 rfl rfl) rfl ?_
                                refine zj_if_eq (t := 251) (zdk ttX8_fewestCrossings 111 rfl rfl) (by decide) (by decide) (fun c13878 => ?_) (fun c13878 => ?_)
                                · refine zj_iinc (L' := [some (.inr 108), some (.inr p1), some (.inl p2), some (.inl p3), some (.inl ((zshl 1 p2) - 1)), some (.inl x13302), some (.inl x12), some (.inl (h13.2 112 x12)), some (.inl ((h13.2 112 x12) % 64)), some (.inl 0), some (.inl (zand ((zshl 1 p2) - 1) (zxor ((h13.2 112 x12) % 64) (-1)))), some (.inl (x13303 + 1)), some (.inl 0), some (.inl ((zxor ((h13.2 112 x12) % 64) x13303) + 64)), some (.inl 1)]) (zdk ttX8_fewestCrossings 138 rfl rfl) rfl (by decide) rfl ?_
                                  refine zj_goto (t := 119) (zdk ttX8_fewestCrossings 139 rfl rfl) (by decide) ?_
                                  refine zj_kill (k := 12) (L' := [some (.inr 108), some (.inr p1), some (.inl p2), some (.inl p3), some (.inl ((zshl 1 p2) - 1)), some (.inl x13302), some (.inl x12), some (.inl (h13.2 112 x12)), some (.inl ((h13.2 112 x12) % 64)), some (.inl 0), some (.inl (zand ((zshl 1 p2) - 1) (zxor ((h13.2 112 x12) % 64) (-1)))), some (.inl (x13303 + 1)), none, some (.inl ((zxor ((h13.2 112 x12) % 64) x13303) + 64)), some (.inl 1)]) rfl ?_
                                  refine zj_kill (k := 13) (L' := [some (.inr 108), some (.inr p1), some (.inl p2), some (.inl p3), some (.inl ((zshl 1 p2) - 1)), some (.inl x13302), some (.inl x12), some (.inl (h13.2 112 x12)), some (.inl ((h13.2 112 x12) % 64)), some (.inl 0), some (.inl (zand ((zshl 1 p2) - 1) (zxor ((h13.2 112 x12) % 64) (-1)))), some (.inl (x13303 + 1)), none, none, some (.inl 1)]) rfl ?_
                                  refine zj_kill (k := 14) (L' := [some (.inr 108), some (.inr p1), some (.inl p2), some (.inl p3), some (.inl ((zshl 1 p2) - 1)), some (.inl x13302), some (.inl x12), some (.inl (h13.2 112 x12)), some (.inl ((h13.2 112 x12) % 64)), some (.inl 0), some (.inl (zand ((zshl 1 p2) - 1) (zxor ((h13.2 112 x12) % 64) (-1)))), some (.inl (x13303 + 1)), none, none, none]) rfl ?_
                                  exact ih13853  x13302 (x13303 + 1) h13304 (by omega) (by omega) s13305 f13306 (by omega)
                                · exact absurd c13878 (by omega)
                          · exact absurd c13872 (by omega)
                        · refine zj_iconst (zdk ttX8_fewestCrossings 81 rfl rfl) ?_
                          refine zj_goto (t := 150) (zdk ttX8_fewestCrossings 82 rfl rfl) (by decide) ?_
                          refine zj_istore (L' := [some (.inr 108), some (.inr p1), some (.inl p2), some (.inl p3), some (.inl ((zshl 1 p2) - 1)), some (.inl x13302), some (.inl x12), some (.inl (h13.2 112 x12)), some (.inl ((h13.2 112 x12) % 64)), some (.inl 0), some (.inl (zand ((zshl 1 p2) - 1) (zxor ((h13.2 112 x12) % 64) (-1)))), some (.inl x13303), some (.inl 1), none, none]) (zdk ttX8_fewestCrossings 84 rfl rfl) (by decide) rfl ?_
                          refine zj_iload (zdk ttX8_fewestCrossings 85 rfl rfl) rfl ?_
                          refine zj_iload (zdk ttX8_fewestCrossings 86 rfl rfl) rfl ?_
                          refine zj_ixor (zdk ttX8_fewestCrossings 87 rfl rfl) ?_
                          have b13879 := zxor_k (a := ((h13.2 112 x12) % 64)) (b := x13303) (K := 64) 6 (by decide) (by decide) (by omega) (by omega)
                          refine zj_iload (zdk ttX8_fewestCrossings 88 rfl rfl) rfl ?_
                          refine zj_if_eq (t := 166) (zdk ttX8_fewestCrossings 89 rfl rfl) (by decide) (by decide) (fun c13880 => ?_) (fun c13880 => ?_)
                          · refine zj_bipush (zdk ttX8_fewestCrossings 92 rfl rfl) (by decide) ?_
                            refine zj_iadd (zdk ttX8_fewestCrossings 93 rfl rfl) ?_
                            refine zj_istore (L' := [some (.inr 108), some (.inr p1), some (.inl p2), some (.inl p3), some (.inl ((zshl 1 p2) - 1)), some (.inl x13302), some (.inl x12), some (.inl (h13.2 112 x12)), some (.inl ((h13.2 112 x12) % 64)), some (.inl 0), some (.inl (zand ((zshl 1 p2) - 1) (zxor ((h13.2 112 x12) % 64) (-1)))), some (.inl x13303), some (.inl 1), some (.inl ((zxor ((h13.2 112 x12) % 64) x13303) + 64)), none]) (zdk ttX8_fewestCrossings 94 rfl rfl) (by decide) rfl ?_
                            refine zj_aload_n (zdk ttX8_fewestCrossings 95 rfl rfl) rfl (by decide) ?_
                            refine zj_getr (r := 111) (zdk ttX8_fewestCrossings 96 rfl rfl) zf_RX8_18 rfl (k_L108 s13305) (rf_L108_2 s13305) ?_
                            refine zj_iload (zdk ttX8_fewestCrossings 97 rfl rfl) rfl ?_
                            have b13881 : -2147483648 ≤ (h13304.2 111 ((zxor ((h13.2 112 x12) % 64) x13303) + 64)) ∧ (h13304.2 111 ((zxor ((h13.2 112 x12) % 64) x13303) + 64)) ≤ 2147483647 := ab_L108_2 s13305 ((zxor ((h13.2 112 x12) % 64) x13303) + 64)
                            refine zj_iald (v := (h13304.2 111 ((zxor ((h13.2 112 x12) % 64) x13303) + 64))) (zdk ttX8_fewestCrossings 98 rfl rfl) (ka_L108_2 s13305) (by decide) (by omega) rfl ?_
                            refine zj_iconst (zdk ttX8_fewestCrossings 99 rfl rfl) ?_
                            refine zj_icmp_ne (t := 196) (zdk ttX8_fewestCrossings 100 rfl rfl) (by decide) (by omega) (by decide) (fun c13882 => ?_) (fun c13882 => ?_)
                            · refine zj_iconst (zdk ttX8_fewestCrossings 108 rfl rfl) ?_
                              refine zj_istore (L' := [some (.inr 108), some (.inr p1), some (.inl p2), some (.inl p3), some (.inl ((zshl 1 p2) - 1)), some (.inl x13302), some (.inl x12), some (.inl (h13.2 112 x12)), some (.inl ((h13.2 112 x12) % 64)), some (.inl 0), some (.inl (zand ((zshl 1 p2) - 1) (zxor ((h13.2 112 x12) % 64) (-1)))), some (.inl x13303), some (.inl 1), some (.inl ((zxor ((h13.2 112 x12) % 64) x13303) + 64)), some (.inl 0)]) (zdk ttX8_fewestCrossings 109 rfl rfl) (by decide) rfl ?_
                              refine zj_iload (zdk ttX8_fewestCrossings 110 rfl rfl) rfl ?_
                              refine zj_if_eq (t := 251) (zdk ttX8_fewestCrossings 111 rfl rfl) (by decide) (by decide) (fun c13883 => ?_) (fun c13883 => ?_)
                              · exact absurd c13883 (by omega)
                              · refine zj_iload (zdk ttX8_fewestCrossings 112 rfl rfl) rfl ?_
                                refine zj_if_eq (t := 251) (zdk ttX8_fewestCrossings 113 rfl rfl) (by decide) (by decide) (fun c13884 => ?_) (fun c13884 => ?_)
                                · refine zj_iinc (L' := [some (.inr 108), some (.inr p1), some (.inl p2), some (.inl p3), some (.inl ((zshl 1 p2) - 1)), some (.inl x13302), some (.inl x12), some (.inl (h13.2 112 x12)), some (.inl ((h13.2 112 x12) % 64)), some (.inl 0), some (.inl (zand ((zshl 1 p2) - 1) (zxor ((h13.2 112 x12) % 64) (-1)))), some (.inl (x13303 + 1)), some (.inl 1), some (.inl ((zxor ((h13.2 112 x12) % 64) x13303) + 64)), some (.inl 0)]) (zdk ttX8_fewestCrossings 138 rfl rfl) rfl (by decide) rfl ?_
                                  refine zj_goto (t := 119) (zdk ttX8_fewestCrossings 139 rfl rfl) (by decide) ?_
                                  refine zj_kill (k := 12) (L' := [some (.inr 108), some (.inr p1), some (.inl p2), some (.inl p3), some (.inl ((zshl 1 p2) - 1)), some (.inl x13302), some (.inl x12), some (.inl (h13.2 112 x12)), some (.inl ((h13.2 112 x12) % 64)), some (.inl 0), some (.inl (zand ((zshl 1 p2) - 1) (zxor ((h13.2 112 x12) % 64) (-1)))), some (.inl (x13303 + 1)), none, some (.inl ((zxor ((h13.2 112 x12) % 64) x13303) + 64)), some (.inl 0)]) rfl ?_
                                  refine zj_kill (k := 13) (L' := [some (.inr 108), some (.inr p1), some (.inl p2), some (.inl p3), some (.inl ((zshl 1 p2) - 1)), some (.inl x13302), some (.inl x12), some (.inl (h13.2 112 x12)), some (.inl ((h13.2 112 x12) % 64)), some (.inl 0), some (.inl (zand ((zshl 1 p2) - 1) (zxor ((h13.2 112 x12) % 64) (-1)))), some (.inl (x13303 + 1)), none, none, some (.inl 0)]) rfl ?_
                                  refine zj_kill (k := 14) (L' := [some (.inr 108), some (.inr p1), some (.inl p2), some (.inl p3), some (.inl ((zshl 1 p2) - 1)), some (.inl x13302), some (.inl x12), some (.inl (h13.2 112 x12)), some (.inl ((h13.2 112 x12) % 64)), some (.inl 0), some (.inl (zand ((zshl 1 p2) - 1) (zxor ((h13.2 112 x12) % 64) (-1)))), some (.inl (x13303 + 1)), none, none, none]) rfl ?_
                                  exact ih13853  x13302 (x13303 + 1) h13304 (by omega) (by omega) s13305 f13306 (by omega)
                                · exact absurd c13884 (by omega)
                            · refine zj_iload (zdk ttX8_fewestCrossings 101 rfl rfl) rfl ?_
                              refine zj_aload_n (zdk ttX8_fewestCrossings 102 rfl rfl) rfl (by decide) ?_
                              refine zj_getr (r := 112) (zdk ttX8_fewestCrossings 103 rfl rfl) zf_RX8_21 rfl (k_L108 s13305) (rf_L108_3 s13305) ?_
                              refine zj_alen (zdk ttX8_fewestCrossings 104 rfl rfl) (ka_L108_3 s13305) ?_
                              refine zj_icmp_ge (t := 196) (zdk ttX8_fewestCrossings 105 rfl rfl) (by decide) (by omega) (by decide) (fun c13885 => ?_) (fun c13885 => ?_)
                              · refine zj_iconst (zdk ttX8_fewestCrossings 108 rfl rfl) ?_
                                refine zj_istore (L' := [some (.inr 108), some (.inr p1), some (.inl p2), some (.inl p3), some (.inl ((zshl 1 p2) - 1)), some (.inl x13302), some (.inl x12), some (.inl (h13.2 112 x12)), some (.inl ((h13.2 112 x12) % 64)), some (.inl 0), some (.inl (zand ((zshl 1 p2) - 1) (zxor ((h13.2 112 x12) % 64) (-1)))), some (.inl x13303), some (.inl 1), some (.inl ((zxor ((h13.2 112 x12) % 64) x13303) + 64)), some (.inl 0)]) (zdk ttX8_fewestCrossings 109 rfl rfl) (by decide) rfl ?_
                                refine zj_iload (zdk ttX8_fewestCrossings 110 rfl rfl) rfl ?_
                                refine zj_if_eq (t := 251) (zdk ttX8_fewestCrossings 111 rfl rfl) (by decide) (by decide) (fun c13886 => ?_) (fun c13886 => ?_)
                                · exact absurd c13886 (by omega)
                                · refine zj_iload (zdk ttX8_fewestCrossings 112 rfl rfl) rfl ?_
                                  refine zj_if_eq (t := 251) (zdk ttX8_fewestCrossings 113 rfl rfl) (by decide) (by decide) (fun c13887 => ?_) (fun c13887 => ?_)
                                  · refine zj_iinc (L' := [some (.inr 108), some (.inr p1), some (.inl p2), some (.inl p3), some (.inl ((zshl 1 p2) - 1)), some (.inl x13302), some (.inl x12), some (.inl (h13.2 112 x12)), some (.inl ((h13.2 112 x12) % 64)), some (.inl 0), some (.inl (zand ((zshl 1 p2) - 1) (zxor ((h13.2 112 x12) % 64) (-1)))), some (.inl (x13303 + 1)), some (.inl 1), some (.inl ((zxor ((h13.2 112 x12) % 64) x13303) + 64)), some (.inl 0)]) (zdk ttX8_fewestCrossings 138 rfl rfl) rfl (by decide) rfl ?_
                                    refine zj_goto (t := 119) (zdk ttX8_fewestCrossings 139 rfl rfl) (by decide) ?_
                                    refine zj_kill (k := 12) (L' := [some (.inr 108), some (.inr p1), some (.inl p2), some (.inl p3), some (.inl ((zshl 1 p2) - 1)), some (.inl x13302), some (.inl x12), some (.inl (h13.2 112 x12)), some (.inl ((h13.2 112 x12) % 64)), some (.inl 0), some (.inl (zand ((zshl 1 p2) - 1) (zxor ((h13.2 112 x12) % 64) (-1)))), some (.inl (x13303 + 1)), none, some (.inl ((zxor ((h13.2 112 x12) % 64) x13303) + 64)), some (.inl 0)]) rfl ?_
                                    refine zj_kill (k := 13) (L' := [some (.inr 108), some (.inr p1), some (.inl p2), some (.inl p3), some (.inl ((zshl 1 p2) - 1)), some (.inl x13302), some (.inl x12), some (.inl (h13.2 112 x12)), some (.inl ((h13.2 112 x12) % 64)), some (.inl 0), some (.inl (zand ((zshl 1 p2) - 1) (zxor ((h13.2 112 x12) % 64) (-1)))), some (.inl (x13303 + 1)), none, none, some (.inl 0)]) rfl ?_
                                    refine zj_kill (k := 14) (L' := [some (.inr 108), some (.inr p1), some (.inl p2), some (.inl p3), some (.inl ((zshl 1 p2) - 1)), some (.inl x13302), some (.inl x12), some (.inl (h13.2 112 x12)), some (.inl ((h13.2 112 x12) % 64)), some (.inl 0), some (.inl (zand ((zshl 1 p2) - 1) (zxor ((h13.2 112 x12) % 64) (-1)))), some (.inl (x13303 + 1)), none, none, none]) rfl ?_
                                    exact ih13853  x13302 (x13303 + 1) h13304 (by omega) (by omega) s13305 f13306 (by omega)
                                  · exact absurd c13887 (by omega)
                              · refine zj_iconst (zdk ttX8_fewestCrossings 106 rfl rfl) ?_
                                refine zj_goto (t := 197) (zdk ttX8_fewestCrossings 107 rfl rfl) (by decide) ?_
                                refine zj_istore (L' := [some (.inr 108), some (.inr p1), some (.inl p2), some (.inl p3), some (.inl ((zshl 1 p2) - 1)), some (.inl x13302), some (.inl x12), some (.inl (h13.2 112 x12)), some (.inl ((h13.2 112 x12) % 64)), some (.inl 0), some (.inl (zand ((zshl 1 p2) - 1) (zxor ((h13.2 112 x12) % 64) (-1)))), some (.inl x13303), some (.inl 1), some (.inl ((zxor ((h13.2 112 x12) % 64) x13303) + 64)), some (.inl 1)]) (zdk ttX8_fewestCrossings 109 rfl rfl) (by decide) rfl ?_
                                refine zj_iload (zdk ttX8_fewestCrossings 110 rfl rfl) rfl ?_
                                refine zj_if_eq (t := 251) (zdk ttX8_fewestCrossings 111 rfl rfl) (by decide) (by decide) (fun c13888 => ?_) (fun c13888 => ?_)
                                · exact absurd c13888 (by omega)
                                · refine zj_iload (zdk ttX8_fewestCrossings 112 rfl rfl) rfl ?_
                                  refine zj_if_eq (t := 251) (zdk ttX8_fewestCrossings 113 rfl rfl) (by decide) (by decide) (fun c13889 => ?_) (fun c13889 => ?_)
                                  · exact absurd c13889 (by omega)
                                  · refine zj_aload_n (zdk ttX8_fewestCrossings 114 rfl rfl) rfl (by omega) ?_
                                    refine zj_iload (zdk ttX8_fewestCrossings 115 rfl rfl) rfl ?_
                                    refine zj_iload (zdk ttX8_fewestCrossings 116 rfl rfl) rfl ?_
                                    refine zj_iconst (zdk ttX8_fewestCrossings 117 rfl rfl) ?_
                                    refine zj_ixor (zdk ttX8_fewestCrossings 118 rfl rfl) ?_
                                    have b13890 := zxor_in x13303 (-1)
                                    refine zj_iand (zdk ttX8_fewestCrossings 119 rfl rfl) ?_
                                    have b13891 := zand_l (a := (zand ((zshl 1 p2) - 1) (zxor ((h13.2 112 x12) % 64) (-1)))) (by omega) (zxor x13303 (-1))
                                    refine zj_callV (av := [.inl (zand (zand ((zshl 1 p2) - 1) (zxor ((h13.2 112 x12) % 64) (-1))) (zxor x13303 (-1)))]) (st := []) (zdk ttX8_fewestCrossings 120 rfl rfl) mb_X5_isSafe mv_RX8_51 (ci := 5) rfl rfl (k_5_0 s13305 r_p1) rfl rfl (Nat.le_of_ble_eq_true rfl) (s_X5_isSafe l h13304 p1 (zand (zand ((zshl 1 p2) - 1) (zxor ((h13.2 112 x12) % 64) (-1))) (zxor x13303 (-1))) s13305 r_p1 (by omega)) (rm_ok (by decide) (by decide)) (zq_i fun v13893 h13894 q13892 => ?_)
                                    obtain ⟨rfl, b13895⟩ := q13892
                                    refine zj_if_eq (t := 251) (zdk ttX8_fewestCrossings 121 rfl rfl) (by decide) (by omega) (fun c13896 => ?_) (fun c13896 => ?_)
                                    · refine zj_iinc (L' := [some (.inr 108), some (.inr p1), some (.inl p2), some (.inl p3), some (.inl ((zshl 1 p2) - 1)), some (.inl x13302), some (.inl x12), some (.inl (h13.2 112 x12)), some (.inl ((h13.2 112 x12) % 64)), some (.inl 0), some (.inl (zand ((zshl 1 p2) - 1) (zxor ((h13.2 112 x12) % 64) (-1)))), some (.inl (x13303 + 1)), some (.inl 1), some (.inl ((zxor ((h13.2 112 x12) % 64) x13303) + 64)), some (.inl 1)]) (zdk ttX8_fewestCrossings 138 rfl rfl) rfl (by decide) rfl ?_
                                      refine zj_goto (t := 119) (zdk ttX8_fewestCrossings 139 rfl rfl) (by decide) ?_
                                      refine zj_kill (k := 12) (L' := [some (.inr 108), some (.inr p1), some (.inl p2), some (.inl p3), some (.inl ((zshl 1 p2) - 1)), some (.inl x13302), some (.inl x12), some (.inl (h13.2 112 x12)), some (.inl ((h13.2 112 x12) % 64)), some (.inl 0), some (.inl (zand ((zshl 1 p2) - 1) (zxor ((h13.2 112 x12) % 64) (-1)))), some (.inl (x13303 + 1)), none, some (.inl ((zxor ((h13.2 112 x12) % 64) x13303) + 64)), some (.inl 1)]) rfl ?_
                                      refine zj_kill (k := 13) (L' := [some (.inr 108), some (.inr p1), some (.inl p2), some (.inl p3), some (.inl ((zshl 1 p2) - 1)), some (.inl x13302), some (.inl x12), some (.inl (h13.2 112 x12)), some (.inl ((h13.2 112 x12) % 64)), some (.inl 0), some (.inl (zand ((zshl 1 p2) - 1) (zxor ((h13.2 112 x12) % 64) (-1)))), some (.inl (x13303 + 1)), none, none, some (.inl 1)]) rfl ?_
                                      refine zj_kill (k := 14) (L' := [some (.inr 108), some (.inr p1), some (.inl p2), some (.inl p3), some (.inl ((zshl 1 p2) - 1)), some (.inl x13302), some (.inl x12), some (.inl (h13.2 112 x12)), some (.inl ((h13.2 112 x12) % 64)), some (.inl 0), some (.inl (zand ((zshl 1 p2) - 1) (zxor ((h13.2 112 x12) % 64) (-1)))), some (.inl (x13303 + 1)), none, none, none]) rfl ?_
                                      exact ih13853  x13302 (x13303 + 1) h13304 (by omega) (by omega) s13305 f13306 (by omega)
                                    · refine zj_aload_n (zdk ttX8_fewestCrossings 122 rfl rfl) rfl (by decide) ?_
                                      refine zj_getr (r := 111) (zdk ttX8_fewestCrossings 123 rfl rfl) zf_RX8_18 rfl (k_L108 s13305) (rf_L108_2 s13305) ?_
                                      refine zj_iload (zdk ttX8_fewestCrossings 124 rfl rfl) rfl ?_
                                      refine zj_aload_n (zdk ttX8_fewestCrossings 125 rfl rfl) rfl (by decide) ?_
                                      refine zj_getr (r := 111) (zdk ttX8_fewestCrossings 126 rfl rfl) zf_RX8_18 rfl (k_L108 s13305) (rf_L108_2 s13305) ?_
                                      refine zj_iload (zdk ttX8_fewestCrossings 127 rfl rfl) rfl ?_
                                      have b13897 : -2147483648 ≤ (h13304.2 111 (h13.2 112 x12)) ∧ (h13304.2 111 (h13.2 112 x12)) ≤ 2147483647 := ab_L108_2 s13305 (h13.2 112 x12)
                                      refine zj_iald (v := (h13304.2 111 (h13.2 112 x12))) (zdk ttX8_fewestCrossings 128 rfl rfl) (ka_L108_2 s13305) (by decide) (by omega) rfl ?_
                                      refine zj_iconst (zdk ttX8_fewestCrossings 129 rfl rfl) ?_
                                      refine zj_iadd (zdk ttX8_fewestCrossings 130 rfl rfl) ?_
                                      refine zj_wrap ?_
                                      have b13898 := zwp_in ((h13304.2 111 (h13.2 112 x12)) + 1)
                                      refine zj_iast (zdk ttX8_fewestCrossings 131 rfl rfl) (ka_L108_2 s13305) (by decide) (by omega) (fun h13899 e13900 => ?_)
                                      refine zj_aload_n (zdk ttX8_fewestCrossings 132 rfl rfl) rfl (by decide) ?_
                                      have s13901 : okC h13899 := aw_L108_2 s13305 e13900 (by omega)
                                      refine zj_getr (r := 112) (zdk ttX8_fewestCrossings 133 rfl rfl) zf_RX8_21 rfl (k_L108 s13901) (rf_L108_3 s13901) ?_
                                      refine zj_iload (zdk ttX8_fewestCrossings 134 rfl rfl) rfl ?_
                                      refine zj_iinc (L' := [some (.inr 108), some (.inr p1), some (.inl p2), some (.inl p3), some (.inl ((zshl 1 p2) - 1)), some (.inl (x13302 + 1)), some (.inl x12), some (.inl (h13.2 112 x12)), some (.inl ((h13.2 112 x12) % 64)), some (.inl 0), some (.inl (zand ((zshl 1 p2) - 1) (zxor ((h13.2 112 x12) % 64) (-1)))), some (.inl x13303), some (.inl 1), some (.inl ((zxor ((h13.2 112 x12) % 64) x13303) + 64)), some (.inl 1)]) (zdk ttX8_fewestCrossings 135 rfl rfl) rfl (by decide) rfl ?_
                                      refine zj_iload (zdk ttX8_fewestCrossings 136 rfl rfl) rfl ?_
                                      refine zj_iast (zdk ttX8_fewestCrossings 137 rfl rfl) (ka_L108_3 s13901) (by decide) (by omega) (fun h13902 e13903 => ?_)
                                      refine zj_iinc (L' := [some (.inr 108), some (.inr p1), some (.inl p2), some (.inl p3), some (.inl ((zshl 1 p2) - 1)), some (.inl (x13302 + 1)), some (.inl x12), some (.inl (h13.2 112 x12)), some (.inl ((h13.2 112 x12) % 64)), some (.inl 0), some (.inl (zand ((zshl 1 p2) - 1) (zxor ((h13.2 112 x12) % 64) (-1)))), some (.inl (x13303 + 1)), some (.inl 1), some (.inl ((zxor ((h13.2 112 x12) % 64) x13303) + 64)), some (.inl 1)]) (zdk ttX8_fewestCrossings 138 rfl rfl) rfl (by decide) rfl ?_
                                      refine zj_goto (t := 119) (zdk ttX8_fewestCrossings 139 rfl rfl) (by decide) ?_
                                      refine zj_kill (k := 12) (L' := [some (.inr 108), some (.inr p1), some (.inl p2), some (.inl p3), some (.inl ((zshl 1 p2) - 1)), some (.inl (x13302 + 1)), some (.inl x12), some (.inl (h13.2 112 x12)), some (.inl ((h13.2 112 x12) % 64)), some (.inl 0), some (.inl (zand ((zshl 1 p2) - 1) (zxor ((h13.2 112 x12) % 64) (-1)))), some (.inl (x13303 + 1)), none, some (.inl ((zxor ((h13.2 112 x12) % 64) x13303) + 64)), some (.inl 1)]) rfl ?_
                                      refine zj_kill (k := 13) (L' := [some (.inr 108), some (.inr p1), some (.inl p2), some (.inl p3), some (.inl ((zshl 1 p2) - 1)), some (.inl (x13302 + 1)), some (.inl x12), some (.inl (h13.2 112 x12)), some (.inl ((h13.2 112 x12) % 64)), some (.inl 0), some (.inl (zand ((zshl 1 p2) - 1) (zxor ((h13.2 112 x12) % 64) (-1)))), some (.inl (x13303 + 1)), none, none, some (.inl 1)]) rfl ?_
                                      refine zj_kill (k := 14) (L' := [some (.inr 108), some (.inr p1), some (.inl p2), some (.inl p3), some (.inl ((zshl 1 p2) - 1)), some (.inl (x13302 + 1)), some (.inl x12), some (.inl (h13.2 112 x12)), some (.inl ((h13.2 112 x12) % 64)), some (.inl 0), some (.inl (zand ((zshl 1 p2) - 1) (zxor ((h13.2 112 x12) % 64) (-1)))), some (.inl (x13303 + 1)), none, none, none]) rfl ?_
                                      have s13904 : okC h13902 := aw_L108_3 s13901 e13903 (by omega)
                                      have f13906 : zfC w_X8_fewestCrossings h h13899 := zfC_w f13306 e13900 (by omega)
                                      have f13905 : zfC w_X8_fewestCrossings h h13902 := zfC_w f13906 e13903 (by omega)
                                      exact ih13853  (x13302 + 1) (x13303 + 1) h13902 (by omega) (by omega) s13904 f13905 (by omega)
                          · exact absurd c13880 (by omega)
                exact lp13849 _ x11 0 h13 (by omega) (by omega) s14 f15 (Nat.lt_succ_self _)
              · exact absurd c13299 (by omega)
            · refine zj_iconst (zdk ttX8_fewestCrossings 52 rfl rfl) ?_
              refine zj_goto (t := 95) (zdk ttX8_fewestCrossings 53 rfl rfl) (by decide) ?_
              refine zj_istore (L' := [some (.inr 108), some (.inr p1), some (.inl p2), some (.inl p3), some (.inl ((zshl 1 p2) - 1)), some (.inl x11), some (.inl x12), some (.inl (h13.2 112 x12)), some (.inl ((h13.2 112 x12) % 64)), some (.inl 1), none, none, none, none, none]) (zdk ttX8_fewestCrossings 55 rfl rfl) (by decide) rfl ?_
              refine zj_iload (zdk ttX8_fewestCrossings 56 rfl rfl) rfl ?_
              refine zj_if_eq (t := 107) (zdk ttX8_fewestCrossings 57 rfl rfl) (by decide) (by decide) (fun c13907 => ?_) (fun c13907 => ?_)
              · exact absurd c13907 (by omega)
              · refine zj_iload (zdk ttX8_fewestCrossings 58 rfl rfl) rfl ?_
                refine zj_goto (t := 114) (zdk ttX8_fewestCrossings 59 rfl rfl) (by decide) ?_
                refine zj_istore (L' := [some (.inr 108), some (.inr p1), some (.inl p2), some (.inl p3), some (.inl ((zshl 1 p2) - 1)), some (.inl x11), some (.inl x12), some (.inl (h13.2 112 x12)), some (.inl ((h13.2 112 x12) % 64)), some (.inl 1), some (.inl ((h13.2 112 x12) % 64)), none, none, none, none]) (zdk ttX8_fewestCrossings 65 rfl rfl) (by decide) rfl ?_
                refine zj_iconst (zdk ttX8_fewestCrossings 66 rfl rfl) ?_
                refine zj_istore (L' := [some (.inr 108), some (.inr p1), some (.inl p2), some (.inl p3), some (.inl ((zshl 1 p2) - 1)), some (.inl x11), some (.inl x12), some (.inl (h13.2 112 x12)), some (.inl ((h13.2 112 x12) % 64)), some (.inl 1), some (.inl ((h13.2 112 x12) % 64)), some (.inl 0), none, none, none]) (zdk ttX8_fewestCrossings 67 rfl rfl) (by decide) rfl ?_
                have lp14455 : ∀ (n : Nat) (x13908 x13909 : Int) (h13910 : zM), (1 ≤ x13908 ∧ x13908 ≤ 2147483647) → (0 ≤ x13909 ∧ x13909 ≤ 64) → okC h13910 → zfC w_X8_fewestCrossings h h13910 → (65 - x13909).toNat < n → zJ shC l yX8_fewestCrossings cX8_fewestCrossings 15 (some .int) (rmL 2) 0 0 (q_X8_fewestCrossings h p1 p2 p3) 0 0 119 [some (.inr 108), some (.inr p1), some (.inl p2), some (.inl p3), some (.inl ((zshl 1 p2) - 1)), some (.inl x13908), some (.inl x12), some (.inl (h13.2 112 x12)), some (.inl ((h13.2 112 x12) % 64)), some (.inl 1), some (.inl ((h13.2 112 x12) % 64)), some (.inl x13909), none, none, none] [] h13910 := by
                  intro n
                  induction n with
                  | zero => intro x13908 x13909 h13910 b14456 b14457 s13911 f13912 m14458; exact absurd m14458 (Nat.not_lt_zero _)
                  | succ n ih14459 =>
                    intro x13908 x13909 h13910 b14456 b14457 s13911 f13912 m14458
                    refine zj_iload (zdk ttX8_fewestCrossings 68 rfl rfl) rfl ?_
                    refine zj_iload (zdk ttX8_fewestCrossings 69 rfl rfl) rfl ?_
                    refine zj_icmp_gt (t := 257) (zdk ttX8_fewestCrossings 70 rfl rfl) (by decide) (by omega) (by omega) (fun c14460 => ?_) (fun c14460 => ?_)
                    · refine zj_iinc (L' := [some (.inr 108), some (.inr p1), some (.inl p2), some (.inl p3), some (.inl ((zshl 1 p2) - 1)), some (.inl x13908), some (.inl (x12 + 1)), some (.inl (h13.2 112 x12)), some (.inl ((h13.2 112 x12) % 64)), some (.inl 1), some (.inl ((h13.2 112 x12) % 64)), some (.inl x13909), none, none, none]) (zdk ttX8_fewestCrossings 140 rfl rfl) rfl (by decide) rfl ?_
                      refine zj_goto (t := 35) (zdk ttX8_fewestCrossings 141 rfl rfl) (by decide) ?_
                      refine zj_kill (k := 7) (L' := [some (.inr 108), some (.inr p1), some (.inl p2), some (.inl p3), some (.inl ((zshl 1 p2) - 1)), some (.inl x13908), some (.inl (x12 + 1)), none, some (.inl ((h13.2 112 x12) % 64)), some (.inl 1), some (.inl ((h13.2 112 x12) % 64)), some (.inl x13909), none, none, none]) rfl ?_
                      refine zj_kill (k := 8) (L' := [some (.inr 108), some (.inr p1), some (.inl p2), some (.inl p3), some (.inl ((zshl 1 p2) - 1)), some (.inl x13908), some (.inl (x12 + 1)), none, none, some (.inl 1), some (.inl ((h13.2 112 x12) % 64)), some (.inl x13909), none, none, none]) rfl ?_
                      refine zj_kill (k := 9) (L' := [some (.inr 108), some (.inr p1), some (.inl p2), some (.inl p3), some (.inl ((zshl 1 p2) - 1)), some (.inl x13908), some (.inl (x12 + 1)), none, none, none, some (.inl ((h13.2 112 x12) % 64)), some (.inl x13909), none, none, none]) rfl ?_
                      refine zj_kill (k := 10) (L' := [some (.inr 108), some (.inr p1), some (.inl p2), some (.inl p3), some (.inl ((zshl 1 p2) - 1)), some (.inl x13908), some (.inl (x12 + 1)), none, none, none, none, some (.inl x13909), none, none, none]) rfl ?_
                      refine zj_kill (k := 11) (L' := [some (.inr 108), some (.inr p1), some (.inl p2), some (.inl p3), some (.inl ((zshl 1 p2) - 1)), some (.inl x13908), some (.inl (x12 + 1)), none, none, none, none, none, none, none, none]) rfl ?_
                      exact ih13293  x13908 (x12 + 1) h13910 (by omega) (by omega) s13911 f13912 (by omega)
                    · refine zj_iload (zdk ttX8_fewestCrossings 71 rfl rfl) rfl ?_
                      refine zj_iload (zdk ttX8_fewestCrossings 72 rfl rfl) rfl ?_
                      refine zj_iconst (zdk ttX8_fewestCrossings 73 rfl rfl) ?_
                      refine zj_ixor (zdk ttX8_fewestCrossings 74 rfl rfl) ?_
                      have b14461 := zxor_in ((h13.2 112 x12) % 64) (-1)
                      refine zj_iand (zdk ttX8_fewestCrossings 75 rfl rfl) ?_
                      have b14462 := zand_l (a := x13909) (by omega) (zxor ((h13.2 112 x12) % 64) (-1))
                      refine zj_if_ne (t := 149) (zdk ttX8_fewestCrossings 76 rfl rfl) (by decide) (by omega) (fun c14463 => ?_) (fun c14463 => ?_)
                      · refine zj_iconst (zdk ttX8_fewestCrossings 83 rfl rfl) ?_
                        refine zj_istore (L' := [some (.inr 108), some (.inr p1), some (.inl p2), some (.inl p3), some (.inl ((zshl 1 p2) - 1)), some (.inl x13908), some (.inl x12), some (.inl (h13.2 112 x12)), some (.inl ((h13.2 112 x12) % 64)), some (.inl 1), some (.inl ((h13.2 112 x12) % 64)), some (.inl x13909), some (.inl 0), none, none]) (zdk ttX8_fewestCrossings 84 rfl rfl) (by decide) rfl ?_
                        refine zj_iload (zdk ttX8_fewestCrossings 85 rfl rfl) rfl ?_
                        refine zj_iload (zdk ttX8_fewestCrossings 86 rfl rfl) rfl ?_
                        refine zj_ixor (zdk ttX8_fewestCrossings 87 rfl rfl) ?_
                        have b14464 := zxor_k (a := ((h13.2 112 x12) % 64)) (b := x13909) (K := 64) 6 (by decide) (by decide) (by omega) (by omega)
                        refine zj_iload (zdk ttX8_fewestCrossings 88 rfl rfl) rfl ?_
                        refine zj_if_eq (t := 166) (zdk ttX8_fewestCrossings 89 rfl rfl) (by decide) (by decide) (fun c14465 => ?_) (fun c14465 => ?_)
                        · exact absurd c14465 (by omega)
                        · refine zj_iconst (zdk ttX8_fewestCrossings 90 rfl rfl) ?_
                          refine zj_goto (t := 168) (zdk ttX8_fewestCrossings 91 rfl rfl) (by decide) ?_
                          refine zj_iadd (zdk ttX8_fewestCrossings 93 rfl rfl) ?_
                          refine zj_istore (L' := [some (.inr 108), some (.inr p1), some (.inl p2), some (.inl p3), some (.inl ((zshl 1 p2) - 1)), some (.inl x13908), some (.inl x12), some (.inl (h13.2 112 x12)), some (.inl ((h13.2 112 x12) % 64)), some (.inl 1), some (.inl ((h13.2 112 x12) % 64)), some (.inl x13909), some (.inl 0), some (.inl ((zxor ((h13.2 112 x12) % 64) x13909) + 0)), none]) (zdk ttX8_fewestCrossings 94 rfl rfl) (by decide) rfl ?_
                          refine zj_aload_n (zdk ttX8_fewestCrossings 95 rfl rfl) rfl (by decide) ?_
                          refine zj_getr (r := 111) (zdk ttX8_fewestCrossings 96 rfl rfl) zf_RX8_18 rfl (k_L108 s13911) (rf_L108_2 s13911) ?_
                          refine zj_iload (zdk ttX8_fewestCrossings 97 rfl rfl) rfl ?_
                          have b14466 : -2147483648 ≤ (h13910.2 111 ((zxor ((h13.2 112 x12) % 64) x13909) + 0)) ∧ (h13910.2 111 ((zxor ((h13.2 112 x12) % 64) x13909) + 0)) ≤ 2147483647 := ab_L108_2 s13911 ((zxor ((h13.2 112 x12) % 64) x13909) + 0)
                          refine zj_iald (v := (h13910.2 111 ((zxor ((h13.2 112 x12) % 64) x13909) + 0))) (zdk ttX8_fewestCrossings 98 rfl rfl) (ka_L108_2 s13911) (by decide) (by omega) rfl ?_
                          refine zj_iconst (zdk ttX8_fewestCrossings 99 rfl rfl) ?_
                          refine zj_icmp_ne (t := 196) (zdk ttX8_fewestCrossings 100 rfl rfl) (by decide) (by omega) (by decide) (fun c14467 => ?_) (fun c14467 => ?_)
                          · refine zj_iconst (zdk ttX8_fewestCrossings 108 rfl rfl) ?_
                            refine zj_istore (L' := [some (.inr 108), some (.inr p1), some (.inl p2), some (.inl p3), some (.inl ((zshl 1 p2) - 1)), some (.inl x13908), some (.inl x12), some (.inl (h13.2 112 x12)), some (.inl ((h13.2 112 x12) % 64)), some (.inl 1), some (.inl ((h13.2 112 x12) % 64)), some (.inl x13909), some (.inl 0), some (.inl ((zxor ((h13.2 112 x12) % 64) x13909) + 0)), some (.inl 0)]) (zdk ttX8_fewestCrossings 109 rfl rfl) (by decide) rfl ?_
                            refine zj_iload (zdk ttX8_fewestCrossings 110 rfl rfl) rfl ?_
                            refine zj_if_eq (t := 251) (zdk ttX8_fewestCrossings 111 rfl rfl) (by decide) (by decide) (fun c14468 => ?_) (fun c14468 => ?_)
                            · refine zj_iinc (L' := [some (.inr 108), some (.inr p1), some (.inl p2), some (.inl p3), some (.inl ((zshl 1 p2) - 1)), some (.inl x13908), some (.inl x12), some (.inl (h13.2 112 x12)), some (.inl ((h13.2 112 x12) % 64)), some (.inl 1), some (.inl ((h13.2 112 x12) % 64)), some (.inl (x13909 + 1)), some (.inl 0), some (.inl ((zxor ((h13.2 112 x12) % 64) x13909) + 0)), some (.inl 0)]) (zdk ttX8_fewestCrossings 138 rfl rfl) rfl (by decide) rfl ?_
                              refine zj_goto (t := 119) (zdk ttX8_fewestCrossings 139 rfl rfl) (by decide) ?_
                              refine zj_kill (k := 12) (L' := [some (.inr 108), some (.inr p1), some (.inl p2), some (.inl p3), some (.inl ((zshl 1 p2) - 1)), some (.inl x13908), some (.inl x12), some (.inl (h13.2 112 x12)), some (.inl ((h13.2 112 x12) % 64)), some (.inl 1), some (.inl ((h13.2 112 x12) % 64)), some (.inl (x13909 + 1)), none, some (.inl ((zxor ((h13.2 112 x12) % 64) x13909) + 0)), some (.inl 0)]) rfl ?_
                              refine zj_kill (k := 13) (L' := [some (.inr 108), some (.inr p1), some (.inl p2), some (.inl p3), some (.inl ((zshl 1 p2) - 1)), some (.inl x13908), some (.inl x12), some (.inl (h13.2 112 x12)), some (.inl ((h13.2 112 x12) % 64)), some (.inl 1), some (.inl ((h13.2 112 x12) % 64)), some (.inl (x13909 + 1)), none, none, some (.inl 0)]) rfl ?_
                              refine zj_kill (k := 14) (L' := [some (.inr 108), some (.inr p1), some (.inl p2), some (.inl p3), some (.inl ((zshl 1 p2) - 1)), some (.inl x13908), some (.inl x12), some (.inl (h13.2 112 x12)), some (.inl ((h13.2 112 x12) % 64)), some (.inl 1), some (.inl ((h13.2 112 x12) % 64)), some (.inl (x13909 + 1)), none, none, none]) rfl ?_
                              exact ih14459  x13908 (x13909 + 1) h13910 (by omega) (by omega) s13911 f13912 (by omega)
                            · exact absurd c14468 (by omega)
                          · refine zj_iload (zdk ttX8_fewestCrossings 101 rfl rfl) rfl ?_
                            refine zj_aload_n (zdk ttX8_fewestCrossings 102 rfl rfl) rfl (by decide) ?_
                            refine zj_getr (r := 112) (zdk ttX8_fewestCrossings 103 rfl rfl) zf_RX8_21 rfl (k_L108 s13911) (rf_L108_3 s13911) ?_
                            refine zj_alen (zdk ttX8_fewestCrossings 104 rfl rfl) (ka_L108_3 s13911) ?_
                            refine zj_icmp_ge (t := 196) (zdk ttX8_fewestCrossings 105 rfl rfl) (by decide) (by omega) (by decide) (fun c14469 => ?_) (fun c14469 => ?_)
                            · refine zj_iconst (zdk ttX8_fewestCrossings 108 rfl rfl) ?_
                              refine zj_istore (L' := [some (.inr 108), some (.inr p1), some (.inl p2), some (.inl p3), some (.inl ((zshl 1 p2) - 1)), some (.inl x13908), some (.inl x12), some (.inl (h13.2 112 x12)), some (.inl ((h13.2 112 x12) % 64)), some (.inl 1), some (.inl ((h13.2 112 x12) % 64)), some (.inl x13909), some (.inl 0), some (.inl ((zxor ((h13.2 112 x12) % 64) x13909) + 0)), some (.inl 0)]) (zdk ttX8_fewestCrossings 109 rfl rfl) (by decide) rfl ?_
                              refine zj_iload (zdk ttX8_fewestCrossings 110 rfl rfl) rfl ?_
                              refine zj_if_eq (t := 251) (zdk ttX8_fewestCrossings 111 rfl rfl) (by decide) (by decide) (fun c14470 => ?_) (fun c14470 => ?_)
                              · refine zj_iinc (L' := [some (.inr 108), some (.inr p1), some (.inl p2), some (.inl p3), some (.inl ((zshl 1 p2) - 1)), some (.inl x13908), some (.inl x12), some (.inl (h13.2 112 x12)), some (.inl ((h13.2 112 x12) % 64)), some (.inl 1), some (.inl ((h13.2 112 x12) % 64)), some (.inl (x13909 + 1)), some (.inl 0), some (.inl ((zxor ((h13.2 112 x12) % 64) x13909) + 0)), some (.inl 0)]) (zdk ttX8_fewestCrossings 138 rfl rfl) rfl (by decide) rfl ?_
                                refine zj_goto (t := 119) (zdk ttX8_fewestCrossings 139 rfl rfl) (by decide) ?_
                                refine zj_kill (k := 12) (L' := [some (.inr 108), some (.inr p1), some (.inl p2), some (.inl p3), some (.inl ((zshl 1 p2) - 1)), some (.inl x13908), some (.inl x12), some (.inl (h13.2 112 x12)), some (.inl ((h13.2 112 x12) % 64)), some (.inl 1), some (.inl ((h13.2 112 x12) % 64)), some (.inl (x13909 + 1)), none, some (.inl ((zxor ((h13.2 112 x12) % 64) x13909) + 0)), some (.inl 0)]) rfl ?_
                                refine zj_kill (k := 13) (L' := [some (.inr 108), some (.inr p1), some (.inl p2), some (.inl p3), some (.inl ((zshl 1 p2) - 1)), some (.inl x13908), some (.inl x12), some (.inl (h13.2 112 x12)), some (.inl ((h13.2 112 x12) % 64)), some (.inl 1), some (.inl ((h13.2 112 x12) % 64)), some (.inl (x13909 + 1)), none, none, some (.inl 0)]) rfl ?_
                                refine zj_kill (k := 14) (L' := [some (.inr 108), some (.inr p1), some (.inl p2), some (.inl p3), some (.inl ((zshl 1 p2) - 1)), some (.inl x13908), some (.inl x12), some (.inl (h13.2 112 x12)), some (.inl ((h13.2 112 x12) % 64)), some (.inl 1), some (.inl ((h13.2 112 x12) % 64)), some (.inl (x13909 + 1)), none, none, none]) rfl ?_
                                exact ih14459  x13908 (x13909 + 1) h13910 (by omega) (by omega) s13911 f13912 (by omega)
                              · exact absurd c14470 (by omega)
                            · refine zj_iconst (zdk ttX8_fewestCrossings 106 rfl rfl) ?_
                              refine zj_goto (t := 197) (zdk ttX8_fewestCrossings 107 rfl rfl) (by decide) ?_
                              refine zj_istore (L' := [some (.inr 108), some (.inr p1), some (.inl p2), some (.inl p3), some (.inl ((zshl 1 p2) - 1)), some (.inl x13908), some (.inl x12), some (.inl (h13.2 112 x12)), some (.inl ((h13.2 112 x12) % 64)), some (.inl 1), some (.inl ((h13.2 112 x12) % 64)), some (.inl x13909), some (.inl 0), some (.inl ((zxor ((h13.2 112 x12) % 64) x13909) + 0)), some (.inl 1)]) (zdk ttX8_fewestCrossings 109 rfl rfl) (by decide) rfl ?_
                              refine zj_iload (zdk ttX8_fewestCrossings 110 rfl rfl) rfl ?_
                              refine zj_if_eq (t := 251) (zdk ttX8_fewestCrossings 111 rfl rfl) (by decide) (by decide) (fun c14471 => ?_) (fun c14471 => ?_)
                              · refine zj_iinc (L' := [some (.inr 108), some (.inr p1), some (.inl p2), some (.inl p3), some (.inl ((zshl 1 p2) - 1)), some (.inl x13908), some (.inl x12), some (.inl (h13.2 112 x12)), some (.inl ((h13.2 112 x12) % 64)), some (.inl 1), some (.inl ((h13.2 112 x12) % 64)), some (.inl (x13909 + 1)), some (.inl 0), some (.inl ((zxor ((h13.2 112 x12) % 64) x13909) + 0)), some (.inl 1)]) (zdk ttX8_fewestCrossings 138 rfl rfl) rfl (by decide) rfl ?_
                                refine zj_goto (t := 119) (zdk ttX8_fewestCrossings 139 rfl rfl) (by decide) ?_
                                refine zj_kill (k := 12) (L' := [some (.inr 108), some (.inr p1), some (.inl p2), some (.inl p3), some (.inl ((zshl 1 p2) - 1)), some (.inl x13908), some (.inl x12), some (.inl (h13.2 112 x12)), some (.inl ((h13.2 112 x12) % 64)), some (.inl 1), some (.inl ((h13.2 112 x12) % 64)), some (.inl (x13909 + 1)), none, some (.inl ((zxor ((h13.2 112 x12) % 64) x13909) + 0)), some (.inl 1)]) rfl ?_
                                refine zj_kill (k := 13) (L' := [some (.inr 108), some (.inr p1), some (.inl p2), some (.inl p3), some (.inl ((zshl 1 p2) - 1)), some (.inl x13908), some (.inl x12), some (.inl (h13.2 112 x12)), some (.inl ((h13.2 112 x12) % 64)), some (.inl 1), some (.inl ((h13.2 112 x12) % 64)), some (.inl (x13909 + 1)), none, none, some (.inl 1)]) rfl ?_
                                refine zj_kill (k := 14) (L' := [some (.inr 108), some (.inr p1), some (.inl p2), some (.inl p3), some (.inl ((zshl 1 p2) - 1)), some (.inl x13908), some (.inl x12), some (.inl (h13.2 112 x12)), some (.inl ((h13.2 112 x12) % 64)), some (.inl 1), some (.inl ((h13.2 112 x12) % 64)), some (.inl (x13909 + 1)), none, none, none]) rfl ?_
                                exact ih14459  x13908 (x13909 + 1) h13910 (by omega) (by omega) s13911 f13912 (by omega)
                              · exact absurd c14471 (by omega)
                      · refine zj_iload (zdk ttX8_fewestCrossings 77 rfl rfl) rfl ?_
                        refine zj_callS (av := [.inl x13909]) (st := []) (zdk ttX8_fewestCrossings 78 rfl rfl) mb_J6_bitCount_0f7a4 ms_RX8_46 rfl rfl (Nat.le_of_ble_eq_true rfl) (s_J6_bitCount_0f7a4 shC l h13910 x13909) (rm_ok (by decide) (by decide)) (zq_i fun v14472 h14473 q14474 => ?_)
                        obtain ⟨rfl, b14475⟩ := q14474
                        refine zj_iload_n (zdk ttX8_fewestCrossings 79 rfl rfl) rfl ?_
                        refine zj_icmp_gt (t := 149) (zdk ttX8_fewestCrossings 80 rfl rfl) (by decide) (by omega) (by omega) (fun c14476 => ?_) (fun c14476 => ?_)
                        · refine zj_iconst (zdk ttX8_fewestCrossings 83 rfl rfl) ?_
                          refine zj_istore (L' := [some (.inr 108), some (.inr p1), some (.inl p2), some (.inl p3), some (.inl ((zshl 1 p2) - 1)), some (.inl x13908), some (.inl x12), some (.inl (h13.2 112 x12)), some (.inl ((h13.2 112 x12) % 64)), some (.inl 1), some (.inl ((h13.2 112 x12) % 64)), some (.inl x13909), some (.inl 0), none, none]) (zdk ttX8_fewestCrossings 84 rfl rfl) (by decide) rfl ?_
                          refine zj_iload (zdk ttX8_fewestCrossings 85 rfl rfl) rfl ?_
                          refine zj_iload (zdk ttX8_fewestCrossings 86 rfl rfl) rfl ?_
                          refine zj_ixor (zdk ttX8_fewestCrossings 87 rfl rfl) ?_
                          have b14477 := zxor_k (a := ((h13.2 112 x12) % 64)) (b := x13909) (K := 64) 6 (by decide) (by decide) (by omega) (by omega)
                          refine zj_iload (zdk ttX8_fewestCrossings 88 rfl rfl) rfl ?_
                          refine zj_if_eq (t := 166) (zdk ttX8_fewestCrossings 89 rfl rfl) (by decide) (by decide) (fun c14478 => ?_) (fun c14478 => ?_)
                          · exact absurd c14478 (by omega)
                          · refine zj_iconst (zdk ttX8_fewestCrossings 90 rfl rfl) ?_
                            refine zj_goto (t := 168) (zdk ttX8_fewestCrossings 91 rfl rfl) (by decide) ?_
                            refine zj_iadd (zdk ttX8_fewestCrossings 93 rfl rfl) ?_
                            refine zj_istore (L' := [some (.inr 108), some (.inr p1), some (.inl p2), some (.inl p3), some (.inl ((zshl 1 p2) - 1)), some (.inl x13908), some (.inl x12), some (.inl (h13.2 112 x12)), some (.inl ((h13.2 112 x12) % 64)), some (.inl 1), some (.inl ((h13.2 112 x12) % 64)), some (.inl x13909), some (.inl 0), some (.inl ((zxor ((h13.2 112 x12) % 64) x13909) + 0)), none]) (zdk ttX8_fewestCrossings 94 rfl rfl) (by decide) rfl ?_
                            refine zj_aload_n (zdk ttX8_fewestCrossings 95 rfl rfl) rfl (by decide) ?_
                            refine zj_getr (r := 111) (zdk ttX8_fewestCrossings 96 rfl rfl) zf_RX8_18 rfl (k_L108 s13911) (rf_L108_2 s13911) ?_
                            refine zj_iload (zdk ttX8_fewestCrossings 97 rfl rfl) rfl ?_
                            have b14479 : -2147483648 ≤ (h13910.2 111 ((zxor ((h13.2 112 x12) % 64) x13909) + 0)) ∧ (h13910.2 111 ((zxor ((h13.2 112 x12) % 64) x13909) + 0)) ≤ 2147483647 := ab_L108_2 s13911 ((zxor ((h13.2 112 x12) % 64) x13909) + 0)
                            refine zj_iald (v := (h13910.2 111 ((zxor ((h13.2 112 x12) % 64) x13909) + 0))) (zdk ttX8_fewestCrossings 98 rfl rfl) (ka_L108_2 s13911) (by decide) (by omega) rfl ?_
                            refine zj_iconst (zdk ttX8_fewestCrossings 99 rfl rfl) ?_
                            refine zj_icmp_ne (t := 196) (zdk ttX8_fewestCrossings 100 rfl rfl) (by decide) (by omega) (by decide) (fun c14480 => ?_) (fun c14480 => ?_)
                            · refine zj_iconst (zdk ttX8_fewestCrossings 108 rfl rfl) ?_
                              refine zj_istore (L' := [some (.inr 108), some (.inr p1), some (.inl p2), some (.inl p3), some (.inl ((zshl 1 p2) - 1)), some (.inl x13908), some (.inl x12), some (.inl (h13.2 112 x12)), some (.inl ((h13.2 112 x12) % 64)), some (.inl 1), some (.inl ((h13.2 112 x12) % 64)), some (.inl x13909), some (.inl 0), some (.inl ((zxor ((h13.2 112 x12) % 64) x13909) + 0)), some (.inl 0)]) (zdk ttX8_fewestCrossings 109 rfl rfl) (by decide) rfl ?_
                              refine zj_iload (zdk ttX8_fewestCrossings 110 rfl rfl) rfl ?_
                              refine zj_if_eq (t := 251) (zdk ttX8_fewestCrossings 111 rfl rfl) (by decide) (by decide) (fun c14481 => ?_) (fun c14481 => ?_)
                              · refine zj_iinc (L' := [some (.inr 108), some (.inr p1), some (.inl p2), some (.inl p3), some (.inl ((zshl 1 p2) - 1)), some (.inl x13908), some (.inl x12), some (.inl (h13.2 112 x12)), some (.inl ((h13.2 112 x12) % 64)), some (.inl 1), some (.inl ((h13.2 112 x12) % 64)), some (.inl (x13909 + 1)), some (.inl 0), some (.inl ((zxor ((h13.2 112 x12) % 64) x13909) + 0)), some (.inl 0)]) (zdk ttX8_fewestCrossings 138 rfl rfl) rfl (by decide) rfl ?_
                                refine zj_goto (t := 119) (zdk ttX8_fewestCrossings 139 rfl rfl) (by decide) ?_
                                refine zj_kill (k := 12) (L' := [some (.inr 108), some (.inr p1), some (.inl p2), some (.inl p3), some (.inl ((zshl 1 p2) - 1)), some (.inl x13908), some (.inl x12), some (.inl (h13.2 112 x12)), some (.inl ((h13.2 112 x12) % 64)), some (.inl 1), some (.inl ((h13.2 112 x12) % 64)), some (.inl (x13909 + 1)), none, some (.inl ((zxor ((h13.2 112 x12) % 64) x13909) + 0)), some (.inl 0)]) rfl ?_
                                refine zj_kill (k := 13) (L' := [some (.inr 108), some (.inr p1), some (.inl p2), some (.inl p3), some (.inl ((zshl 1 p2) - 1)), some (.inl x13908), some (.inl x12), some (.inl (h13.2 112 x12)), some (.inl ((h13.2 112 x12) % 64)), some (.inl 1), some (.inl ((h13.2 112 x12) % 64)), some (.inl (x13909 + 1)), none, none, some (.inl 0)]) rfl ?_
                                refine zj_kill (k := 14) (L' := [some (.inr 108), some (.inr p1), some (.inl p2), some (.inl p3), some (.inl ((zshl 1 p2) - 1)), some (.inl x13908), some (.inl x12), some (.inl (h13.2 112 x12)), some (.inl ((h13.2 112 x12) % 64)), some (.inl 1), some (.inl ((h13.2 112 x12) % 64)), some (.inl (x13909 + 1)), none, none, none]) rfl ?_
                                exact ih14459  x13908 (x13909 + 1) h13910 (by omega) (by omega) s13911 f13912 (by omega)
                              · exact absurd c14481 (by omega)
                            · refine zj_iload (zdk ttX8_fewestCrossings 101 rfl rfl) rfl ?_
                              refine zj_aload_n (zdk ttX8_fewestCrossings 102 rfl rfl) rfl (by decide) ?_
                              refine zj_getr (r := 112) (zdk ttX8_fewestCrossings 103 rfl rfl) zf_RX8_21 rfl (k_L108 s13911) (rf_L108_3 s13911) ?_
                              refine zj_alen (zdk ttX8_fewestCrossings 104 rfl rfl) (ka_L108_3 s13911) ?_
                              refine zj_icmp_ge (t := 196) (zdk ttX8_fewestCrossings 105 rfl rfl) (by decide) (by omega) (by decide) (fun c14482 => ?_) (fun c14482 => ?_)
                              · refine zj_iconst (zdk ttX8_fewestCrossings 108 rfl rfl) ?_
                                refine zj_istore (L' := [some (.inr 108), some (.inr p1), some (.inl p2), some (.inl p3), some (.inl ((zshl 1 p2) - 1)), some (.inl x13908), some (.inl x12), some (.inl (h13.2 112 x12)), some (.inl ((h13.2 112 x12) % 64)), some (.inl 1), some (.inl ((h13.2 112 x12) % 64)), some (.inl x13909), some (.inl 0), some (.inl ((zxor ((h13.2 112 x12) % 64) x13909) + 0)), some (.inl 0)]) (zdk ttX8_fewestCrossings 109 rfl rfl) (by decide) rfl ?_
                                refine zj_iload (zdk ttX8_fewestCrossings 110 rfl rfl) rfl ?_
                                refine zj_if_eq (t := 251) (zdk ttX8_fewestCrossings 111 rfl rfl) (by decide) (by decide) (fun c14483 => ?_) (fun c14483 => ?_)
                                · refine zj_iinc (L' := [some (.inr 108), some (.inr p1), some (.inl p2), some (.inl p3), some (.inl ((zshl 1 p2) - 1)), some (.inl x13908), some (.inl x12), some (.inl (h13.2 112 x12)), some (.inl ((h13.2 112 x12) % 64)), some (.inl 1), some (.inl ((h13.2 112 x12) % 64)), some (.inl (x13909 + 1)), some (.inl 0), some (.inl ((zxor ((h13.2 112 x12) % 64) x13909) + 0)), some (.inl 0)]) (zdk ttX8_fewestCrossings 138 rfl rfl) rfl (by decide) rfl ?_
                                  refine zj_goto (t := 119) (zdk ttX8_fewestCrossings 139 rfl rfl) (by decide) ?_
                                  refine zj_kill (k := 12) (L' := [some (.inr 108), some (.inr p1), some (.inl p2), some (.inl p3), some (.inl ((zshl 1 p2) - 1)), some (.inl x13908), some (.inl x12), some (.inl (h13.2 112 x12)), some (.inl ((h13.2 112 x12) % 64)), some (.inl 1), some (.inl ((h13.2 112 x12) % 64)), some (.inl (x13909 + 1)), none, some (.inl ((zxor ((h13.2 112 x12) % 64) x13909) + 0)), some (.inl 0)]) rfl ?_
                                  refine zj_kill (k := 13) (L' := [some (.inr 108), some (.inr p1), some (.inl p2), some (.inl p3), some (.inl ((zshl 1 p2) - 1)), some (.inl x13908), some (.inl x12), some (.inl (h13.2 112 x12)), some (.inl ((h13.2 112 x12) % 64)), some (.inl 1), some (.inl ((h13.2 112 x12) % 64)), some (.inl (x13909 + 1)), none, none, some (.inl 0)]) rfl ?_
                                  refine zj_kill (k := 14) (L' := [some (.inr 108), some (.inr p1), some (.inl p2), some (.inl p3), some (.inl ((zshl 1 p2) - 1)), some (.inl x13908), some (.inl x12), some (.inl (h13.2 112 x12)), some (.inl ((h13.2 112 x12) % 64)), some (.inl 1), some (.inl ((h13.2 112 x12) % 64)), some (.inl (x13909 + 1)), none, none, none]) rfl ?_
                                  exact ih14459  x13908 (x13909 + 1) h13910 (by omega) (by omega) s13911 f13912 (by omega)
                                · exact absurd c14483 (by omega)
                              · refine zj_iconst (zdk ttX8_fewestCrossings 106 rfl rfl) ?_
                                refine zj_goto (t := 197) (zdk ttX8_fewestCrossings 107 rfl rfl) (by decide) ?_
                                refine zj_istore (L' := [some (.inr 108), some (.inr p1), some (.inl p2), some (.inl p3), some (.inl ((zshl 1 p2) - 1)), some (.inl x13908), some (.inl x12), some (.inl (h13.2 112 x12)), some (.inl ((h13.2 112 x12) % 64)), some (.inl 1), some (.inl ((h13.2 112 x12) % 64)), some (.inl x13909), some (.inl 0), some (.inl ((zxor ((h13.2 112 x12) % 64) x13909) + 0)), some (.inl 1)]) (zdk ttX8_fewestCrossings 109 rfl rfl) (by decide) rfl ?_
                                refine zj_iload (zdk ttX8_fewestCrossings 110 rfl rfl) rfl ?_
                                refine zj_if_eq (t := 251) (zdk ttX8_fewestCrossings 111 rfl rfl) (by decide) (by decide) (fun c14484 => ?_) (fun c14484 => ?_)
                                · refine zj_iinc (L' := [some (.inr 108), some (.inr p1), some (.inl p2), some (.inl p3), some (.inl ((zshl 1 p2) - 1)), some (.inl x13908), some (.inl x12), some (.inl (h13.2 112 x12)), some (.inl ((h13.2 112 x12) % 64)), some (.inl 1), some (.inl ((h13.2 112 x12) % 64)), some (.inl (x13909 + 1)), some (.inl 0), some (.inl ((zxor ((h13.2 112 x12) % 64) x13909) + 0)), some (.inl 1)]) (zdk ttX8_fewestCrossings 138 rfl rfl) rfl (by decide) rfl ?_
                                  refine zj_goto (t := 119) (zdk ttX8_fewestCrossings 139 rfl rfl) (by decide) ?_
                                  refine zj_kill (k := 12) (L' := [some (.inr 108), some (.inr p1), some (.inl p2), some (.inl p3), some (.inl ((zshl 1 p2) - 1)), some (.inl x13908), some (.inl x12), some (.inl (h13.2 112 x12)), some (.inl ((h13.2 112 x12) % 64)), some (.inl 1), some (.inl ((h13.2 112 x12) % 64)), some (.inl (x13909 + 1)), none, some (.inl ((zxor ((h13.2 112 x12) % 64) x13909) + 0)), some (.inl 1)]) rfl ?_
                                  refine zj_kill (k := 13) (L' := [some (.inr 108), some (.inr p1), some (.inl p2), some (.inl p3), some (.inl ((zshl 1 p2) - 1)), some (.inl x13908), some (.inl x12), some (.inl (h13.2 112 x12)), some (.inl ((h13.2 112 x12) % 64)), some (.inl 1), some (.inl ((h13.2 112 x12) % 64)), some (.inl (x13909 + 1)), none, none, some (.inl 1)]) rfl ?_
                                  refine zj_kill (k := 14) (L' := [some (.inr 108), some (.inr p1), some (.inl p2), some (.inl p3), some (.inl ((zshl 1 p2) - 1)), some (.inl x13908), some (.inl x12), some (.inl (h13.2 112 x12)), some (.inl ((h13.2 112 x12) % 64)), some (.inl 1), some (.inl ((h13.2 112 x12) % 64)), some (.inl (x13909 + 1)), none, none, none]) rfl ?_
                                  exact ih14459  x13908 (x13909 + 1) h13910 (by omega) (by omega) s13911 f13912 (by omega)
                                · exact absurd c14484 (by omega)
                        · refine zj_iconst (zdk ttX8_fewestCrossings 81 rfl rfl) ?_
                          refine zj_goto (t := 150) (zdk ttX8_fewestCrossings 82 rfl rfl) (by decide) ?_
                          refine zj_istore (L' := [some (.inr 108), some (.inr p1), some (.inl p2), some (.inl p3), some (.inl ((zshl 1 p2) - 1)), some (.inl x13908), some (.inl x12), some (.inl (h13.2 112 x12)), some (.inl ((h13.2 112 x12) % 64)), some (.inl 1), some (.inl ((h13.2 112 x12) % 64)), some (.inl x13909), some (.inl 1), none, none]) (zdk ttX8_fewestCrossings 84 rfl rfl) (by decide) rfl ?_
                          refine zj_iload (zdk ttX8_fewestCrossings 85 rfl rfl) rfl ?_
                          refine zj_iload (zdk ttX8_fewestCrossings 86 rfl rfl) rfl ?_
                          refine zj_ixor (zdk ttX8_fewestCrossings 87 rfl rfl) ?_
                          have b14485 := zxor_k (a := ((h13.2 112 x12) % 64)) (b := x13909) (K := 64) 6 (by decide) (by decide) (by omega) (by omega)
                          refine zj_iload (zdk ttX8_fewestCrossings 88 rfl rfl) rfl ?_
                          refine zj_if_eq (t := 166) (zdk ttX8_fewestCrossings 89 rfl rfl) (by decide) (by decide) (fun c14486 => ?_) (fun c14486 => ?_)
                          · exact absurd c14486 (by omega)
                          · refine zj_iconst (zdk ttX8_fewestCrossings 90 rfl rfl) ?_
                            refine zj_goto (t := 168) (zdk ttX8_fewestCrossings 91 rfl rfl) (by decide) ?_
                            refine zj_iadd (zdk ttX8_fewestCrossings 93 rfl rfl) ?_
                            refine zj_istore (L' := [some (.inr 108), some (.inr p1), some (.inl p2), some (.inl p3), some (.inl ((zshl 1 p2) - 1)), some (.inl x13908), some (.inl x12), some (.inl (h13.2 112 x12)), some (.inl ((h13.2 112 x12) % 64)), some (.inl 1), some (.inl ((h13.2 112 x12) % 64)), some (.inl x13909), some (.inl 1), some (.inl ((zxor ((h13.2 112 x12) % 64) x13909) + 0)), none]) (zdk ttX8_fewestCrossings 94 rfl rfl) (by decide) rfl ?_
                            refine zj_aload_n (zdk ttX8_fewestCrossings 95 rfl rfl) rfl (by decide) ?_
                            refine zj_getr (r := 111) (zdk ttX8_fewestCrossings 96 rfl rfl) zf_RX8_18 rfl (k_L108 s13911) (rf_L108_2 s13911) ?_
                            refine zj_iload (zdk ttX8_fewestCrossings 97 rfl rfl) rfl ?_
                            have b14487 : -2147483648 ≤ (h13910.2 111 ((zxor ((h13.2 112 x12) % 64) x13909) + 0)) ∧ (h13910.2 111 ((zxor ((h13.2 112 x12) % 64) x13909) + 0)) ≤ 2147483647 := ab_L108_2 s13911 ((zxor ((h13.2 112 x12) % 64) x13909) + 0)
                            refine zj_iald (v := (h13910.2 111 ((zxor ((h13.2 112 x12) % 64) x13909) + 0))) (zdk ttX8_fewestCrossings 98 rfl rfl) (ka_L108_2 s13911) (by decide) (by omega) rfl ?_
                            refine zj_iconst (zdk ttX8_fewestCrossings 99 rfl rfl) ?_
                            refine zj_icmp_ne (t := 196) (zdk ttX8_fewestCrossings 100 rfl rfl) (by decide) (by omega) (by decide) (fun c14488 => ?_) (fun c14488 => ?_)
                            · refine zj_iconst (zdk ttX8_fewestCrossings 108 rfl rfl) ?_
                              refine zj_istore (L' := [some (.inr 108), some (.inr p1), some (.inl p2), some (.inl p3), some (.inl ((zshl 1 p2) - 1)), some (.inl x13908), some (.inl x12), some (.inl (h13.2 112 x12)), some (.inl ((h13.2 112 x12) % 64)), some (.inl 1), some (.inl ((h13.2 112 x12) % 64)), some (.inl x13909), some (.inl 1), some (.inl ((zxor ((h13.2 112 x12) % 64) x13909) + 0)), some (.inl 0)]) (zdk ttX8_fewestCrossings 109 rfl rfl) (by decide) rfl ?_
                              refine zj_iload (zdk ttX8_fewestCrossings 110 rfl rfl) rfl ?_
                              refine zj_if_eq (t := 251) (zdk ttX8_fewestCrossings 111 rfl rfl) (by decide) (by decide) (fun c14489 => ?_) (fun c14489 => ?_)
                              · exact absurd c14489 (by omega)
                              · refine zj_iload (zdk ttX8_fewestCrossings 112 rfl rfl) rfl ?_
                                refine zj_if_eq (t := 251) (zdk ttX8_fewestCrossings 113 rfl rfl) (by decide) (by decide) (fun c14490 => ?_) (fun c14490 => ?_)
                                · refine zj_iinc (L' := [some (.inr 108), some (.inr p1), some (.inl p2), some (.inl p3), some (.inl ((zshl 1 p2) - 1)), some (.inl x13908), some (.inl x12), some (.inl (h13.2 112 x12)), some (.inl ((h13.2 112 x12) % 64)), some (.inl 1), some (.inl ((h13.2 112 x12) % 64)), some (.inl (x13909 + 1)), some (.inl 1), some (.inl ((zxor ((h13.2 112 x12) % 64) x13909) + 0)), some (.inl 0)]) (zdk ttX8_fewestCrossings 138 rfl rfl) rfl (by decide) rfl ?_
                                  refine zj_goto (t := 119) (zdk ttX8_fewestCrossings 139 rfl rfl) (by decide) ?_
                                  refine zj_kill (k := 12) (L' := [some (.inr 108), some (.inr p1), some (.inl p2), some (.inl p3), some (.inl ((zshl 1 p2) - 1)), some (.inl x13908), some (.inl x12), some (.inl (h13.2 112 x12)), some (.inl ((h13.2 112 x12) % 64)), some (.inl 1), some (.inl ((h13.2 112 x12) % 64)), some (.inl (x13909 + 1)), none, some (.inl ((zxor ((h13.2 112 x12) % 64) x13909) + 0)), some (.inl 0)]) rfl ?_
                                  refine zj_kill (k := 13) (L' := [some (.inr 108), some (.inr p1), some (.inl p2), some (.inl p3), some (.inl ((zshl 1 p2) - 1)), some (.inl x13908), some (.inl x12), some (.inl (h13.2 112 x12)), some (.inl ((h13.2 112 x12) % 64)), some (.inl 1), some (.inl ((h13.2 112 x12) % 64)), some (.inl (x13909 + 1)), none, none, some (.inl 0)]) rfl ?_
                                  refine zj_kill (k := 14) (L' := [some (.inr 108), some (.inr p1), some (.inl p2), some (.inl p3), some (.inl ((zshl 1 p2) - 1)), some (.inl x13908), some (.inl x12), some (.inl (h13.2 112 x12)), some (.inl ((h13.2 112 x12) % 64)), some (.inl 1), some (.inl ((h13.2 112 x12) % 64)), some (.inl (x13909 + 1)), none, none, none]) rfl ?_
                                  exact ih14459  x13908 (x13909 + 1) h13910 (by omega) (by omega) s13911 f13912 (by omega)
                                · exact absurd c14490 (by omega)
                            · refine zj_iload (zdk ttX8_fewestCrossings 101 rfl rfl) rfl ?_
                              refine zj_aload_n (zdk ttX8_fewestCrossings 102 rfl rfl) rfl (by decide) ?_
                              refine zj_getr (r := 112) (zdk ttX8_fewestCrossings 103 rfl rfl) zf_RX8_21 rfl (k_L108 s13911) (rf_L108_3 s13911) ?_
                              refine zj_alen (zdk ttX8_fewestCrossings 104 rfl rfl) (ka_L108_3 s13911) ?_
                              refine zj_icmp_ge (t := 196) (zdk ttX8_fewestCrossings 105 rfl rfl) (by decide) (by omega) (by decide) (fun c14491 => ?_) (fun c14491 => ?_)
                              · refine zj_iconst (zdk ttX8_fewestCrossings 108 rfl rfl) ?_
                                refine zj_istore (L' := [some (.inr 108), some (.inr p1), some (.inl p2), some (.inl p3), some (.inl ((zshl 1 p2) - 1)), some (.inl x13908), some (.inl x12), some (.inl (h13.2 112 x12)), some (.inl ((h13.2 112 x12) % 64)), some (.inl 1), some (.inl ((h13.2 112 x12) % 64)), some (.inl x13909), some (.inl 1), some (.inl ((zxor ((h13.2 112 x12) % 64) x13909) + 0)), some (.inl 0)]) (zdk ttX8_fewestCrossings 109 rfl rfl) (by decide) rfl ?_
                                refine zj_iload (zdk ttX8_fewestCrossings 110 rfl rfl) rfl ?_
                                refine zj_if_eq (t := 251) (zdk ttX8_fewestCrossings 111 rfl rfl) (by decide) (by decide) (fun c14492 => ?_) (fun c14492 => ?_)
                                · exact absurd c14492 (by omega)
                                · refine zj_iload (zdk ttX8_fewestCrossings 112 rfl rfl) rfl ?_
                                  refine zj_if_eq (t := 251) (zdk ttX8_fewestCrossings 113 rfl rfl) (by decide) (by decide) (fun c14493 => ?_) (fun c14493 => ?_)
                                  · refine zj_iinc (L' := [some (.inr 108), some (.inr p1), some (.inl p2), some (.inl p3), some (.inl ((zshl 1 p2) - 1)), some (.inl x13908), some (.inl x12), some (.inl (h13.2 112 x12)), some (.inl ((h13.2 112 x12) % 64)), some (.inl 1), some (.inl ((h13.2 112 x12) % 64)), some (.inl (x13909 + 1)), some (.inl 1), some (.inl ((zxor ((h13.2 112 x12) % 64) x13909) + 0)), some (.inl 0)]) (zdk ttX8_fewestCrossings 138 rfl rfl) rfl (by decide) rfl ?_
                                    refine zj_goto (t := 119) (zdk ttX8_fewestCrossings 139 rfl rfl) (by decide) ?_
                                    refine zj_kill (k := 12) (L' := [some (.inr 108), some (.inr p1), some (.inl p2), some (.inl p3), some (.inl ((zshl 1 p2) - 1)), some (.inl x13908), some (.inl x12), some (.inl (h13.2 112 x12)), some (.inl ((h13.2 112 x12) % 64)), some (.inl 1), some (.inl ((h13.2 112 x12) % 64)), some (.inl (x13909 + 1)), none, some (.inl ((zxor ((h13.2 112 x12) % 64) x13909) + 0)), some (.inl 0)]) rfl ?_
                                    refine zj_kill (k := 13) (L' := [some (.inr 108), some (.inr p1), some (.inl p2), some (.inl p3), some (.inl ((zshl 1 p2) - 1)), some (.inl x13908), some (.inl x12), some (.inl (h13.2 112 x12)), some (.inl ((h13.2 112 x12) % 64)), some (.inl 1), some (.inl ((h13.2 112 x12) % 64)), some (.inl (x13909 + 1)), none, none, some (.inl 0)]) rfl ?_
                                    refine zj_kill (k := 14) (L' := [some (.inr 108), some (.inr p1), some (.inl p2), some (.inl p3), some (.inl ((zshl 1 p2) - 1)), some (.inl x13908), some (.inl x12), some (.inl (h13.2 112 x12)), some (.inl ((h13.2 112 x12) % 64)), some (.inl 1), some (.inl ((h13.2 112 x12) % 64)), some (.inl (x13909 + 1)), none, none, none]) rfl ?_
                                    exact ih14459  x13908 (x13909 + 1) h13910 (by omega) (by omega) s13911 f13912 (by omega)
                                  · exact absurd c14493 (by omega)
                              · refine zj_iconst (zdk ttX8_fewestCrossings 106 rfl rfl) ?_
                                refine zj_goto (t := 197) (zdk ttX8_fewestCrossings 107 rfl rfl) (by decide) ?_
                                refine zj_istore (L' := [some (.inr 108), some (.inr p1), some (.inl p2), some (.inl p3), some (.inl ((zshl 1 p2) - 1)), some (.inl x13908), some (.inl x12), some (.inl (h13.2 112 x12)), some (.inl ((h13.2 112 x12) % 64)), some (.inl 1), some (.inl ((h13.2 112 x12) % 64)), some (.inl x13909), some (.inl 1), some (.inl ((zxor ((h13.2 112 x12) % 64) x13909) + 0)), some (.inl 1)]) (zdk ttX8_fewestCrossings 109 rfl rfl) (by decide) rfl ?_
                                refine zj_iload (zdk ttX8_fewestCrossings 110 rfl rfl) rfl ?_
                                refine zj_if_eq (t := 251) (zdk ttX8_fewestCrossings 111 rfl rfl) (by decide) (by decide) (fun c14494 => ?_) (fun c14494 => ?_)
                                · exact absurd c14494 (by omega)
                                · refine zj_iload (zdk ttX8_fewestCrossings 112 rfl rfl) rfl ?_
                                  refine zj_if_eq (t := 251) (zdk ttX8_fewestCrossings 113 rfl rfl) (by decide) (by decide) (fun c14495 => ?_) (fun c14495 => ?_)
                                  · exact absurd c14495 (by omega)
                                  · refine zj_aload_n (zdk ttX8_fewestCrossings 114 rfl rfl) rfl (by omega) ?_
                                    refine zj_iload (zdk ttX8_fewestCrossings 115 rfl rfl) rfl ?_
                                    refine zj_iload (zdk ttX8_fewestCrossings 116 rfl rfl) rfl ?_
                                    refine zj_iconst (zdk ttX8_fewestCrossings 117 rfl rfl) ?_
                                    refine zj_ixor (zdk ttX8_fewestCrossings 118 rfl rfl) ?_
                                    have b14496 := zxor_in x13909 (-1)
                                    refine zj_iand (zdk ttX8_fewestCrossings 119 rfl rfl) ?_
                                    have b14497 := zand_l (a := ((h13.2 112 x12) % 64)) (by omega) (zxor x13909 (-1))
                                    refine zj_callV (av := [.inl (zand ((h13.2 112 x12) % 64) (zxor x13909 (-1)))]) (st := []) (zdk ttX8_fewestCrossings 120 rfl rfl) mb_X5_isSafe mv_RX8_51 (ci := 5) rfl rfl (k_5_0 s13911 r_p1) rfl rfl (Nat.le_of_ble_eq_true rfl) (s_X5_isSafe l h13910 p1 (zand ((h13.2 112 x12) % 64) (zxor x13909 (-1))) s13911 r_p1 (by omega)) (rm_ok (by decide) (by decide)) (zq_i fun v14499 h14500 q14498 => ?_)
                                    obtain ⟨rfl, b14501⟩ := q14498
                                    refine zj_if_eq (t := 251) (zdk ttX8_fewestCrossings 121 rfl rfl) (by decide) (by omega) (fun c14502 => ?_) (fun c14502 => ?_)
                                    · refine zj_iinc (L' := [some (.inr 108), some (.inr p1), some (.inl p2), some (.inl p3), some (.inl ((zshl 1 p2) - 1)), some (.inl x13908), some (.inl x12), some (.inl (h13.2 112 x12)), some (.inl ((h13.2 112 x12) % 64)), some (.inl 1), some (.inl ((h13.2 112 x12) % 64)), some (.inl (x13909 + 1)), some (.inl 1), some (.inl ((zxor ((h13.2 112 x12) % 64) x13909) + 0)), some (.inl 1)]) (zdk ttX8_fewestCrossings 138 rfl rfl) rfl (by decide) rfl ?_
                                      refine zj_goto (t := 119) (zdk ttX8_fewestCrossings 139 rfl rfl) (by decide) ?_
                                      refine zj_kill (k := 12) (L' := [some (.inr 108), some (.inr p1), some (.inl p2), some (.inl p3), some (.inl ((zshl 1 p2) - 1)), some (.inl x13908), some (.inl x12), some (.inl (h13.2 112 x12)), some (.inl ((h13.2 112 x12) % 64)), some (.inl 1), some (.inl ((h13.2 112 x12) % 64)), some (.inl (x13909 + 1)), none, some (.inl ((zxor ((h13.2 112 x12) % 64) x13909) + 0)), some (.inl 1)]) rfl ?_
                                      refine zj_kill (k := 13) (L' := [some (.inr 108), some (.inr p1), some (.inl p2), some (.inl p3), some (.inl ((zshl 1 p2) - 1)), some (.inl x13908), some (.inl x12), some (.inl (h13.2 112 x12)), some (.inl ((h13.2 112 x12) % 64)), some (.inl 1), some (.inl ((h13.2 112 x12) % 64)), some (.inl (x13909 + 1)), none, none, some (.inl 1)]) rfl ?_
                                      refine zj_kill (k := 14) (L' := [some (.inr 108), some (.inr p1), some (.inl p2), some (.inl p3), some (.inl ((zshl 1 p2) - 1)), some (.inl x13908), some (.inl x12), some (.inl (h13.2 112 x12)), some (.inl ((h13.2 112 x12) % 64)), some (.inl 1), some (.inl ((h13.2 112 x12) % 64)), some (.inl (x13909 + 1)), none, none, none]) rfl ?_
                                      exact ih14459  x13908 (x13909 + 1) h13910 (by omega) (by omega) s13911 f13912 (by omega)
                                    · refine zj_aload_n (zdk ttX8_fewestCrossings 122 rfl rfl) rfl (by decide) ?_
                                      refine zj_getr (r := 111) (zdk ttX8_fewestCrossings 123 rfl rfl) zf_RX8_18 rfl (k_L108 s13911) (rf_L108_2 s13911) ?_
                                      refine zj_iload (zdk ttX8_fewestCrossings 124 rfl rfl) rfl ?_
                                      refine zj_aload_n (zdk ttX8_fewestCrossings 125 rfl rfl) rfl (by decide) ?_
                                      refine zj_getr (r := 111) (zdk ttX8_fewestCrossings 126 rfl rfl) zf_RX8_18 rfl (k_L108 s13911) (rf_L108_2 s13911) ?_
                                      refine zj_iload (zdk ttX8_fewestCrossings 127 rfl rfl) rfl ?_
                                      have b14503 : -2147483648 ≤ (h13910.2 111 (h13.2 112 x12)) ∧ (h13910.2 111 (h13.2 112 x12)) ≤ 2147483647 := ab_L108_2 s13911 (h13.2 112 x12)
                                      refine zj_iald (v := (h13910.2 111 (h13.2 112 x12))) (zdk ttX8_fewestCrossings 128 rfl rfl) (ka_L108_2 s13911) (by decide) (by omega) rfl ?_
                                      refine zj_iconst (zdk ttX8_fewestCrossings 129 rfl rfl) ?_
                                      refine zj_iadd (zdk ttX8_fewestCrossings 130 rfl rfl) ?_
                                      refine zj_wrap ?_
                                      have b14504 := zwp_in ((h13910.2 111 (h13.2 112 x12)) + 1)
                                      refine zj_iast (zdk ttX8_fewestCrossings 131 rfl rfl) (ka_L108_2 s13911) (by decide) (by omega) (fun h14505 e14506 => ?_)
                                      refine zj_aload_n (zdk ttX8_fewestCrossings 132 rfl rfl) rfl (by decide) ?_
                                      have s14507 : okC h14505 := aw_L108_2 s13911 e14506 (by omega)
                                      refine zj_getr (r := 112) (zdk ttX8_fewestCrossings 133 rfl rfl) zf_RX8_21 rfl (k_L108 s14507) (rf_L108_3 s14507) ?_
                                      refine zj_iload (zdk ttX8_fewestCrossings 134 rfl rfl) rfl ?_
                                      refine zj_iinc (L' := [some (.inr 108), some (.inr p1), some (.inl p2), some (.inl p3), some (.inl ((zshl 1 p2) - 1)), some (.inl (x13908 + 1)), some (.inl x12), some (.inl (h13.2 112 x12)), some (.inl ((h13.2 112 x12) % 64)), some (.inl 1), some (.inl ((h13.2 112 x12) % 64)), some (.inl x13909), some (.inl 1), some (.inl ((zxor ((h13.2 112 x12) % 64) x13909) + 0)), some (.inl 1)]) (zdk ttX8_fewestCrossings 135 rfl rfl) rfl (by decide) rfl ?_
                                      refine zj_iload (zdk ttX8_fewestCrossings 136 rfl rfl) rfl ?_
                                      refine zj_iast (zdk ttX8_fewestCrossings 137 rfl rfl) (ka_L108_3 s14507) (by decide) (by omega) (fun h14508 e14509 => ?_)
                                      refine zj_iinc (L' := [some (.inr 108), some (.inr p1), some (.inl p2), some (.inl p3), some (.inl ((zshl 1 p2) - 1)), some (.inl (x13908 + 1)), some (.inl x12), some (.inl (h13.2 112 x12)), some (.inl ((h13.2 112 x12) % 64)), some (.inl 1), some (.inl ((h13.2 112 x12) % 64)), some (.inl (x13909 + 1)), some (.inl 1), some (.inl ((zxor ((h13.2 112 x12) % 64) x13909) + 0)), some (.inl 1)]) (zdk ttX8_fewestCrossings 138 rfl rfl) rfl (by decide) rfl ?_
                                      refine zj_goto (t := 119) (zdk ttX8_fewestCrossings 139 rfl rfl) (by decide) ?_
                                      refine zj_kill (k := 12) (L' := [some (.inr 108), some (.inr p1), some (.inl p2), some (.inl p3), some (.inl ((zshl 1 p2) - 1)), some (.inl (x13908 + 1)), some (.inl x12), some (.inl (h13.2 112 x12)), some (.inl ((h13.2 112 x12) % 64)), some (.inl 1), some (.inl ((h13.2 112 x12) % 64)), some (.inl (x13909 + 1)), none, some (.inl ((zxor ((h13.2 112 x12) % 64) x13909) + 0)), some (.inl 1)]) rfl ?_
                                      refine zj_kill (k := 13) (L' := [some (.inr 108), some (.inr p1), some (.inl p2), some (.inl p3), some (.inl ((zshl 1 p2) - 1)), some (.inl (x13908 + 1)), some (.inl x12), some (.inl (h13.2 112 x12)), some (.inl ((h13.2 112 x12) % 64)), some (.inl 1), some (.inl ((h13.2 112 x12) % 64)), some (.inl (x13909 + 1)), none, none, some (.inl 1)]) rfl ?_
                                      refine zj_kill (k := 14) (L' := [some (.inr 108), some (.inr p1), some (.inl p2), some (.inl p3), some (.inl ((zshl 1 p2) - 1)), some (.inl (x13908 + 1)), some (.inl x12), some (.inl (h13.2 112 x12)), some (.inl ((h13.2 112 x12) % 64)), some (.inl 1), some (.inl ((h13.2 112 x12) % 64)), some (.inl (x13909 + 1)), none, none, none]) rfl ?_
                                      have s14510 : okC h14508 := aw_L108_3 s14507 e14509 (by omega)
                                      have f14512 : zfC w_X8_fewestCrossings h h14505 := zfC_w f13912 e14506 (by omega)
                                      have f14511 : zfC w_X8_fewestCrossings h h14508 := zfC_w f14512 e14509 (by omega)
                                      exact ih14459  (x13908 + 1) (x13909 + 1) h14508 (by omega) (by omega) s14510 f14511 (by omega)
                exact lp14455 _ x11 0 h13 (by omega) (by omega) s14 f15 (Nat.lt_succ_self _)
          · refine zj_aload_n (zdk ttX8_fewestCrossings 44 rfl rfl) rfl (by decide) ?_
            refine zj_getr (r := 111) (zdk ttX8_fewestCrossings 45 rfl rfl) zf_RX8_18 rfl (k_L108 s14) (rf_L108_2 s14) ?_
            refine zj_iload (zdk ttX8_fewestCrossings 46 rfl rfl) rfl ?_
            have b14513 : -2147483648 ≤ (h13.2 111 (h13.2 112 x12)) ∧ (h13.2 111 (h13.2 112 x12)) ≤ 2147483647 := ab_L108_2 s14 (h13.2 112 x12)
            refine zj_iald (v := (h13.2 111 (h13.2 112 x12))) (zdk ttX8_fewestCrossings 47 rfl rfl) (ka_L108_2 s14) (by decide) (by omega) rfl ?_
            exact zj_iret rfl (zdk ttX8_fewestCrossings 48 rfl rfl) (Nat.le_refl _) (Nat.le_refl _) ⟨(h13.2 111 (h13.2 112 x12)), rfl, by omega, s14, f15⟩
  have s14514 : okC h9 := aw_L108_3 s8 e10 (by omega)
  have f14517 : zfC w_X8_fewestCrossings h h3 := zfC_fill (zfC_r _ _) e4 (fun _ => (by omega))
  have f14516 : zfC w_X8_fewestCrossings h h6 := zfC_w f14517 e7 (by omega)
  have f14515 : zfC w_X8_fewestCrossings h h9 := zfC_w f14516 e10 (by omega)
  exact lp13289 _ 1 0 h9 (by omega) (by omega) s14514 f14515 (Nat.lt_succ_self _)

abbrev tX8_ringInOrder : List (Nat × Instr × Nat) := [(0, .iconst 0, 1), (1, .istore_n 2, 1), (2, .iload_n 2, 1), (3, .iload_n 1, 1), (4, .if_icmp .ge 16, 3), (7, .aload_n 0, 1), (8, .getfield 15, 3), (11, .iload_n 2, 1), (12, .iload_n 2, 1), (13, .iastore, 1), (14, .iinc 2 1, 3), (17, .goto (-15), 3), (20, .return_, 1)]
theorem ttX8_ringInOrder : zdt cX8_ringInOrder tX8_ringInOrder = true := by decide +kernel
abbrev w_X8_ringInOrder (a b : Int) : Prop := a = 110
abbrev q_X8_ringInOrder (h : zM) (p1 : Int) : Option zV → zM → Prop := zqv fun h' => okC h' ∧ zfC w_X8_ringInOrder h h'
set_option maxRecDepth 100000 in
set_option maxHeartbeats 4000000 in
theorem s_X8_ringInOrder (l : Launch) (h : zM) (p1 : Int) (s0 : okC h) (b_p1 : 3 ≤ p1 ∧ p1 ≤ 8) : zT shC l yX8_ringInOrder cX8_ringInOrder 3 none (rmL 1) 0 0 [.inr 108, .inl p1] h (q_X8_ringInOrder h p1) := by
  refine zT_of (by decide +kernel) (L0 := [some (.inr 108), some (.inl p1), none]) rfl (Nat.le_of_ble_eq_true rfl) ?_
  refine zj_iconst (zdk ttX8_ringInOrder 0 rfl rfl) ?_
  refine zj_istore_n (L' := [some (.inr 108), some (.inl p1), some (.inl 0)]) (zdk ttX8_ringInOrder 1 rfl rfl) (by decide) rfl ?_
  have lp20 : ∀ (n : Nat) (x1 : Int) (h2 : zM), (0 ≤ x1 ∧ x1 ≤ 8) → okC h2 → zfC w_X8_ringInOrder h h2 → (9 - x1).toNat < n → zJ shC l yX8_ringInOrder cX8_ringInOrder 3 none (rmL 1) 0 0 (q_X8_ringInOrder h p1) 0 0 2 [some (.inr 108), some (.inl p1), some (.inl x1)] [] h2 := by
    intro n
    induction n with
    | zero => intro x1 h2 b21 s3 f4 m22; exact absurd m22 (Nat.not_lt_zero _)
    | succ n ih23 =>
      intro x1 h2 b21 s3 f4 m22
      refine zj_iload_n (zdk ttX8_ringInOrder 2 rfl rfl) rfl ?_
      refine zj_iload_n (zdk ttX8_ringInOrder 3 rfl rfl) rfl ?_
      refine zj_icmp_ge (t := 20) (zdk ttX8_ringInOrder 4 rfl rfl) (by decide) (by omega) (by omega) (fun c24 => ?_) (fun c24 => ?_)
      · exact zj_vret rfl (zdk ttX8_ringInOrder 12 rfl rfl) (Nat.le_refl _) (Nat.le_refl _) ⟨rfl, s3, f4⟩
      · refine zj_aload_n (zdk ttX8_ringInOrder 5 rfl rfl) rfl (by decide) ?_
        refine zj_getr (r := 110) (zdk ttX8_ringInOrder 6 rfl rfl) zf_RX8_15 rfl (k_L108 s3) (rf_L108_1 s3) ?_
        refine zj_iload_n (zdk ttX8_ringInOrder 7 rfl rfl) rfl ?_
        refine zj_iload_n (zdk ttX8_ringInOrder 8 rfl rfl) rfl ?_
        refine zj_iast (zdk ttX8_ringInOrder 9 rfl rfl) (ka_L108_1 s3) (by decide) (by omega) (fun h25 e26 => ?_)
        refine zj_iinc (L' := [some (.inr 108), some (.inl p1), some (.inl (x1 + 1))]) (zdk ttX8_ringInOrder 10 rfl rfl) rfl (by decide) rfl ?_
        refine zj_goto (t := 2) (zdk ttX8_ringInOrder 11 rfl rfl) (by decide) ?_
        have s27 : okC h25 := aw_L108_1 s3 e26 (by omega)
        have f28 : zfC w_X8_ringInOrder h h25 := zfC_w f4 e26 (by omega)
        exact ih23  (x1 + 1) h25 (by omega) s27 f28 (by omega)
  exact lp20 _ 0 h (by omega) s0 (zfC_r _ _) (Nat.lt_succ_self _)

abbrev tX8_change : List (Nat × Instr × Nat) := [(0, .iload_n 2, 1), (1, .iconst 2, 1), (2, .irem, 1), (3, .istore_n 3, 1), (4, .iload_n 3, 1), (5, .iconst 1, 1), (6, .iadd, 1), (7, .iload_n 1, 1), (8, .if_icmp .ge 41, 3), (11, .aload_n 0, 1), (12, .getfield 15, 3), (15, .iload_n 3, 1), (16, .iaload, 1), (17, .istore 4, 2), (19, .aload_n 0, 1), (20, .getfield 15, 3), (23, .iload_n 3, 1), (24, .aload_n 0, 1), (25, .getfield 15, 3), (28, .iload_n 3, 1), (29, .iconst 1, 1), (30, .iadd, 1), (31, .iaload, 1), (32, .iastore, 1), (33, .aload_n 0, 1), (34, .getfield 15, 3), (37, .iload_n 3, 1), (38, .iconst 1, 1), (39, .iadd, 1), (40, .iload 4, 2), (42, .iastore, 1), (43, .iinc 3 2, 3), (46, .goto (-42), 3), (49, .return_, 1)]
theorem ttX8_change : zdt cX8_change tX8_change = true := by decide +kernel
abbrev w_X8_change (a b : Int) : Prop := a = 110
abbrev q_X8_change (h : zM) (p1 : Int) (p2 : Int) : Option zV → zM → Prop := zqv fun h' => okC h' ∧ zfC w_X8_change h h'
set_option maxRecDepth 100000 in
set_option maxHeartbeats 4000000 in
theorem s_X8_change (l : Launch) (h : zM) (p1 : Int) (p2 : Int) (s0 : okC h) (b_p1 : 3 ≤ p1 ∧ p1 ≤ 8) (b_p2 : 0 ≤ p2 ∧ p2 ≤ 16) : zT shC l yX8_change cX8_change 5 none (rmL 1) 0 0 [.inr 108, .inl p1, .inl p2] h (q_X8_change h p1 p2) := by
  refine zT_of (by decide +kernel) (L0 := [some (.inr 108), some (.inl p1), some (.inl p2), none, none]) rfl (Nat.le_of_ble_eq_true rfl) ?_
  refine zj_iload_n (zdk ttX8_change 0 rfl rfl) rfl ?_
  refine zj_iconst (zdk ttX8_change 1 rfl rfl) ?_
  refine zj_iremP (zdk ttX8_change 2 rfl rfl) (by omega) (by omega) ?_
  refine zj_istore_n (L' := [some (.inr 108), some (.inl p1), some (.inl p2), some (.inl (p2 % 2)), none]) (zdk ttX8_change 3 rfl rfl) (by decide) rfl ?_
  have lp37 : ∀ (n : Nat) (x1 : Int) (h2 : zM), (0 ≤ x1 ∧ x1 ≤ 8) → okC h2 → zfC w_X8_change h h2 → (9 - x1).toNat < n → zJ shC l yX8_change cX8_change 5 none (rmL 1) 0 0 (q_X8_change h p1 p2) 0 0 4 [some (.inr 108), some (.inl p1), some (.inl p2), some (.inl x1), none] [] h2 := by
    intro n
    induction n with
    | zero => intro x1 h2 b38 s3 f4 m39; exact absurd m39 (Nat.not_lt_zero _)
    | succ n ih40 =>
      intro x1 h2 b38 s3 f4 m39
      refine zj_iload_n (zdk ttX8_change 4 rfl rfl) rfl ?_
      refine zj_iconst (zdk ttX8_change 5 rfl rfl) ?_
      refine zj_iadd (zdk ttX8_change 6 rfl rfl) ?_
      refine zj_iload_n (zdk ttX8_change 7 rfl rfl) rfl ?_
      refine zj_icmp_ge (t := 49) (zdk ttX8_change 8 rfl rfl) (by decide) (by omega) (by omega) (fun c41 => ?_) (fun c41 => ?_)
      · exact zj_vret rfl (zdk ttX8_change 33 rfl rfl) (Nat.le_refl _) (Nat.le_refl _) ⟨rfl, s3, f4⟩
      · refine zj_aload_n (zdk ttX8_change 9 rfl rfl) rfl (by decide) ?_
        refine zj_getr (r := 110) (zdk ttX8_change 10 rfl rfl) zf_RX8_15 rfl (k_L108 s3) (rf_L108_1 s3) ?_
        refine zj_iload_n (zdk ttX8_change 11 rfl rfl) rfl ?_
        have b42 : -2147483648 ≤ (h2.2 110 x1) ∧ (h2.2 110 x1) ≤ 2147483647 := ab_L108_1 s3 x1
        refine zj_iald (v := (h2.2 110 x1)) (zdk ttX8_change 12 rfl rfl) (ka_L108_1 s3) (by decide) (by omega) rfl ?_
        refine zj_istore (L' := [some (.inr 108), some (.inl p1), some (.inl p2), some (.inl x1), some (.inl (h2.2 110 x1))]) (zdk ttX8_change 13 rfl rfl) (by decide) rfl ?_
        refine zj_aload_n (zdk ttX8_change 14 rfl rfl) rfl (by decide) ?_
        refine zj_getr (r := 110) (zdk ttX8_change 15 rfl rfl) zf_RX8_15 rfl (k_L108 s3) (rf_L108_1 s3) ?_
        refine zj_iload_n (zdk ttX8_change 16 rfl rfl) rfl ?_
        refine zj_aload_n (zdk ttX8_change 17 rfl rfl) rfl (by decide) ?_
        refine zj_getr (r := 110) (zdk ttX8_change 18 rfl rfl) zf_RX8_15 rfl (k_L108 s3) (rf_L108_1 s3) ?_
        refine zj_iload_n (zdk ttX8_change 19 rfl rfl) rfl ?_
        refine zj_iconst (zdk ttX8_change 20 rfl rfl) ?_
        refine zj_iadd (zdk ttX8_change 21 rfl rfl) ?_
        have b43 : -2147483648 ≤ (h2.2 110 (x1 + 1)) ∧ (h2.2 110 (x1 + 1)) ≤ 2147483647 := ab_L108_1 s3 (x1 + 1)
        refine zj_iald (v := (h2.2 110 (x1 + 1))) (zdk ttX8_change 22 rfl rfl) (ka_L108_1 s3) (by decide) (by omega) rfl ?_
        refine zj_iast (zdk ttX8_change 23 rfl rfl) (ka_L108_1 s3) (by decide) (by omega) (fun h44 e45 => ?_)
        refine zj_aload_n (zdk ttX8_change 24 rfl rfl) rfl (by decide) ?_
        have s46 : okC h44 := aw_L108_1 s3 e45 (by omega)
        refine zj_getr (r := 110) (zdk ttX8_change 25 rfl rfl) zf_RX8_15 rfl (k_L108 s46) (rf_L108_1 s46) ?_
        refine zj_iload_n (zdk ttX8_change 26 rfl rfl) rfl ?_
        refine zj_iconst (zdk ttX8_change 27 rfl rfl) ?_
        refine zj_iadd (zdk ttX8_change 28 rfl rfl) ?_
        refine zj_iload (zdk ttX8_change 29 rfl rfl) rfl ?_
        refine zj_iast (zdk ttX8_change 30 rfl rfl) (ka_L108_1 s46) (by decide) (by omega) (fun h47 e48 => ?_)
        refine zj_iinc (L' := [some (.inr 108), some (.inl p1), some (.inl p2), some (.inl (x1 + 2)), some (.inl (h2.2 110 x1))]) (zdk ttX8_change 31 rfl rfl) rfl (by decide) rfl ?_
        refine zj_goto (t := 4) (zdk ttX8_change 32 rfl rfl) (by decide) ?_
        refine zj_kill (k := 4) (L' := [some (.inr 108), some (.inl p1), some (.inl p2), some (.inl (x1 + 2)), none]) rfl ?_
        have s49 : okC h47 := aw_L108_1 s46 e48 (by omega)
        have f51 : zfC w_X8_change h h44 := zfC_w f4 e45 (by omega)
        have f50 : zfC w_X8_change h h47 := zfC_w f51 e48 (by omega)
        exact ih40  (x1 + 2) h47 (by omega) s49 f50 (by omega)
  exact lp37 _ (p2 % 2) h (by omega) s0 (zfC_r _ _) (Nat.lt_succ_self _)

abbrev tX8_isInOrder : List (Nat × Instr × Nat) := [(0, .iconst 0, 1), (1, .istore_n 2, 1), (2, .iload_n 2, 1), (3, .iload_n 1, 1), (4, .if_icmp .ge 21, 3), (7, .aload_n 0, 1), (8, .getfield 15, 3), (11, .iload_n 2, 1), (12, .iaload, 1), (13, .iload_n 2, 1), (14, .if_icmp .eq 5, 3), (17, .iconst 0, 1), (18, .ireturn, 1), (19, .iinc 2 1, 3), (22, .goto (-20), 3), (25, .iconst 1, 1), (26, .ireturn, 1)]
theorem ttX8_isInOrder : zdt cX8_isInOrder tX8_isInOrder = true := by decide +kernel
abbrev q_X8_isInOrder (h : zM) (p1 : Int) : Option zV → zM → Prop := zqi fun v h' => h = h' ∧ (0 ≤ v ∧ v ≤ 1)
set_option maxRecDepth 100000 in
set_option maxHeartbeats 4000000 in
theorem s_X8_isInOrder (l : Launch) (h : zM) (p1 : Int) (s0 : okC h) (b_p1 : 3 ≤ p1 ∧ p1 ≤ 8) : zT shC l yX8_isInOrder cX8_isInOrder 3 (some .boolean) (rmL 1) 0 0 [.inr 108, .inl p1] h (q_X8_isInOrder h p1) := by
  refine zT_of (by decide +kernel) (L0 := [some (.inr 108), some (.inl p1), none]) rfl (Nat.le_of_ble_eq_true rfl) ?_
  refine zj_iconst (zdk ttX8_isInOrder 0 rfl rfl) ?_
  refine zj_istore_n (L' := [some (.inr 108), some (.inl p1), some (.inl 0)]) (zdk ttX8_isInOrder 1 rfl rfl) (by decide) rfl ?_
  have lp17 : ∀ (n : Nat) (x1 : Int), (0 ≤ x1 ∧ x1 ≤ 8) → (9 - x1).toNat < n → zJ shC l yX8_isInOrder cX8_isInOrder 3 (some .boolean) (rmL 1) 0 0 (q_X8_isInOrder h p1) 0 0 2 [some (.inr 108), some (.inl p1), some (.inl x1)] [] h := by
    intro n
    induction n with
    | zero => intro x1 b18 m19; exact absurd m19 (Nat.not_lt_zero _)
    | succ n ih20 =>
      intro x1 b18 m19
      refine zj_iload_n (zdk ttX8_isInOrder 2 rfl rfl) rfl ?_
      refine zj_iload_n (zdk ttX8_isInOrder 3 rfl rfl) rfl ?_
      refine zj_icmp_ge (t := 25) (zdk ttX8_isInOrder 4 rfl rfl) (by decide) (by omega) (by omega) (fun c21 => ?_) (fun c21 => ?_)
      · refine zj_iconst (zdk ttX8_isInOrder 15 rfl rfl) ?_
        exact zj_zret rfl (zdk ttX8_isInOrder 16 rfl rfl) (Nat.le_refl _) (Nat.le_refl _) (by omega) ⟨1, rfl, rfl, by omega⟩
      · refine zj_aload_n (zdk ttX8_isInOrder 5 rfl rfl) rfl (by decide) ?_
        refine zj_getr (r := 110) (zdk ttX8_isInOrder 6 rfl rfl) zf_RX8_15 rfl (k_L108 s0) (rf_L108_1 s0) ?_
        refine zj_iload_n (zdk ttX8_isInOrder 7 rfl rfl) rfl ?_
        have b22 : -2147483648 ≤ (h.2 110 x1) ∧ (h.2 110 x1) ≤ 2147483647 := ab_L108_1 s0 x1
        refine zj_iald (v := (h.2 110 x1)) (zdk ttX8_isInOrder 8 rfl rfl) (ka_L108_1 s0) (by decide) (by omega) rfl ?_
        refine zj_iload_n (zdk ttX8_isInOrder 9 rfl rfl) rfl ?_
        refine zj_icmp_eq (t := 19) (zdk ttX8_isInOrder 10 rfl rfl) (by decide) (by omega) (by omega) (fun c23 => ?_) (fun c23 => ?_)
        · refine zj_iinc (L' := [some (.inr 108), some (.inl p1), some (.inl (x1 + 1))]) (zdk ttX8_isInOrder 13 rfl rfl) rfl (by decide) rfl ?_
          refine zj_goto (t := 2) (zdk ttX8_isInOrder 14 rfl rfl) (by decide) ?_
          exact ih20  (x1 + 1) (by omega) (by omega)
        · refine zj_iconst (zdk ttX8_isInOrder 11 rfl rfl) ?_
          exact zj_zret rfl (zdk ttX8_isInOrder 12 rfl rfl) (Nat.le_refl _) (Nat.le_refl _) (by omega) ⟨0, rfl, rfl, by omega⟩
  exact lp17 _ 0 (by omega) (Nat.lt_succ_self _)

abbrev tX8_changesTillInOrder : List (Nat × Instr × Nat) := [(0, .aload_n 0, 1), (1, .iload_n 1, 1), (2, .invokevirtual 90, 3), (5, .iconst 0, 1), (6, .istore_n 2, 1), (7, .iload_n 2, 1), (8, .iconst 2, 1), (9, .iload_n 1, 1), (10, .imul, 1), (11, .if_icmp .ge 27, 3), (14, .aload_n 0, 1), (15, .iload_n 1, 1), (16, .iload_n 2, 1), (17, .invokevirtual 94, 3), (20, .aload_n 0, 1), (21, .iload_n 1, 1), (22, .invokevirtual 98, 3), (25, .ifCond .eq 7, 3), (28, .iload_n 2, 1), (29, .iconst 1, 1), (30, .iadd, 1), (31, .ireturn, 1), (32, .iinc 2 1, 3), (35, .goto (-28), 3), (38, .iconst 2, 1), (39, .iload_n 1, 1), (40, .imul, 1), (41, .ireturn, 1)]
theorem ttX8_changesTillInOrder : zdt cX8_changesTillInOrder tX8_changesTillInOrder = true := by decide +kernel
abbrev w_X8_changesTillInOrder (a b : Int) : Prop := a = 110
abbrev q_X8_changesTillInOrder (h : zM) (p1 : Int) : Option zV → zM → Prop := zqi fun v h' => ((-2147483648) ≤ v ∧ v ≤ 2147483647) ∧ okC h' ∧ zfC w_X8_changesTillInOrder h h'
set_option maxRecDepth 100000 in
set_option maxHeartbeats 4000000 in
theorem s_X8_changesTillInOrder (l : Launch) (h : zM) (p1 : Int) (s0 : okC h) (b_p1 : 3 ≤ p1 ∧ p1 ≤ 8) : zT shC l yX8_changesTillInOrder cX8_changesTillInOrder 3 (some .int) (rmL 2) 0 0 [.inr 108, .inl p1] h (q_X8_changesTillInOrder h p1) := by
  refine zT_of (by decide +kernel) (L0 := [some (.inr 108), some (.inl p1), none]) rfl (Nat.le_of_ble_eq_true rfl) ?_
  refine zj_aload_n (zdk ttX8_changesTillInOrder 0 rfl rfl) rfl (by decide) ?_
  refine zj_iload_n (zdk ttX8_changesTillInOrder 1 rfl rfl) rfl ?_
  refine zj_callV (av := [.inl p1]) (st := []) (zdk ttX8_changesTillInOrder 2 rfl rfl) mb_X8_ringInOrder mv_RX8_90 (ci := 8) rfl rfl (k_L108 s0) rfl rfl (Nat.le_of_ble_eq_true rfl) (s_X8_ringInOrder l h p1 s0 (by omega)) (rm_ok (by decide) (by decide)) (zq_v fun h3 q1 => ?_)
  obtain ⟨s5, f6⟩ := q1
  refine zj_iconst (zdk ttX8_changesTillInOrder 3 rfl rfl) ?_
  refine zj_istore_n (L' := [some (.inr 108), some (.inl p1), some (.inl 0)]) (zdk ttX8_changesTillInOrder 4 rfl rfl) (by decide) rfl ?_
  have lp107 : ∀ (n : Nat) (x7 : Int) (h8 : zM), (0 ≤ x7 ∧ x7 ≤ 16) → okC h8 → zfC w_X8_changesTillInOrder h h8 → (17 - x7).toNat < n → zJ shC l yX8_changesTillInOrder cX8_changesTillInOrder 3 (some .int) (rmL 2) 0 0 (q_X8_changesTillInOrder h p1) 0 0 7 [some (.inr 108), some (.inl p1), some (.inl x7)] [] h8 := by
    intro n
    induction n with
    | zero => intro x7 h8 b108 s9 f10 m109; exact absurd m109 (Nat.not_lt_zero _)
    | succ n ih110 =>
      intro x7 h8 b108 s9 f10 m109
      refine zj_iload_n (zdk ttX8_changesTillInOrder 5 rfl rfl) rfl ?_
      refine zj_iconst (zdk ttX8_changesTillInOrder 6 rfl rfl) ?_
      refine zj_iload_n (zdk ttX8_changesTillInOrder 7 rfl rfl) rfl ?_
      refine zj_imul (zdk ttX8_changesTillInOrder 8 rfl rfl) ?_
      refine zj_icmp_ge (t := 38) (zdk ttX8_changesTillInOrder 9 rfl rfl) (by decide) (by omega) (by omega) (fun c111 => ?_) (fun c111 => ?_)
      · refine zj_iconst (zdk ttX8_changesTillInOrder 24 rfl rfl) ?_
        refine zj_iload_n (zdk ttX8_changesTillInOrder 25 rfl rfl) rfl ?_
        refine zj_imul (zdk ttX8_changesTillInOrder 26 rfl rfl) ?_
        exact zj_iret rfl (zdk ttX8_changesTillInOrder 27 rfl rfl) (Nat.le_refl _) (Nat.le_refl _) ⟨(2 * p1), rfl, by omega, s9, f10⟩
      · refine zj_aload_n (zdk ttX8_changesTillInOrder 10 rfl rfl) rfl (by decide) ?_
        refine zj_iload_n (zdk ttX8_changesTillInOrder 11 rfl rfl) rfl ?_
        refine zj_iload_n (zdk ttX8_changesTillInOrder 12 rfl rfl) rfl ?_
        refine zj_callV (av := [.inl p1, .inl x7]) (st := []) (zdk ttX8_changesTillInOrder 13 rfl rfl) mb_X8_change mv_RX8_94 (ci := 8) rfl rfl (k_L108 s9) rfl rfl (Nat.le_of_ble_eq_true rfl) (s_X8_change l h8 p1 x7 s9 (by omega) (by omega)) (rm_ok (by decide) (by decide)) (zq_v fun h114 q112 => ?_)
        obtain ⟨s116, f117⟩ := q112
        refine zj_aload_n (zdk ttX8_changesTillInOrder 14 rfl rfl) rfl (by decide) ?_
        refine zj_iload_n (zdk ttX8_changesTillInOrder 15 rfl rfl) rfl ?_
        refine zj_callV (av := [.inl p1]) (st := []) (zdk ttX8_changesTillInOrder 16 rfl rfl) mb_X8_isInOrder mv_RX8_98 (ci := 8) rfl rfl (k_L108 s116) rfl rfl (Nat.le_of_ble_eq_true rfl) (s_X8_isInOrder l h114 p1 s116 (by omega)) (rm_ok (by decide) (by decide)) (zq_i fun v119 h120 q118 => ?_)
        obtain ⟨rfl, b121⟩ := q118
        refine zj_if_eq (t := 32) (zdk ttX8_changesTillInOrder 17 rfl rfl) (by decide) (by omega) (fun c122 => ?_) (fun c122 => ?_)
        · refine zj_iinc (L' := [some (.inr 108), some (.inl p1), some (.inl (x7 + 1))]) (zdk ttX8_changesTillInOrder 22 rfl rfl) rfl (by decide) rfl ?_
          refine zj_goto (t := 7) (zdk ttX8_changesTillInOrder 23 rfl rfl) (by decide) ?_
          have f123 : zfC w_X8_changesTillInOrder h h114 := zfC_t f10 f117 (fun a9 b9 z9 => by
            exact z9)
          exact ih110  (x7 + 1) h114 (by omega) s116 f123 (by omega)
        · refine zj_iload_n (zdk ttX8_changesTillInOrder 18 rfl rfl) rfl ?_
          refine zj_iconst (zdk ttX8_changesTillInOrder 19 rfl rfl) ?_
          refine zj_iadd (zdk ttX8_changesTillInOrder 20 rfl rfl) ?_
          have f124 : zfC w_X8_changesTillInOrder h h114 := zfC_t f10 f117 (fun a9 b9 z9 => by
            exact z9)
          exact zj_iret rfl (zdk ttX8_changesTillInOrder 21 rfl rfl) (Nat.le_refl _) (Nat.le_refl _) ⟨(x7 + 1), rfl, by omega, s116, f124⟩
  have f125 : zfC w_X8_changesTillInOrder h h3 := zfC_t (zfC_r _ _) f6 (fun a9 b9 z9 => by
    exact z9)
  exact lp107 _ 0 h3 (by omega) s5 f125 (Nat.lt_succ_self _)

abbrev tX8_bellAt : List (Nat × Instr × Nat) := [(0, .iload_n 1, 1), (1, .ifCond .le 11, 3), (4, .iload_n 2, 1), (5, .iconst 2, 1), (6, .iload_n 1, 1), (7, .imul, 1), (8, .irem, 1), (9, .goto 4, 3), (12, .iconst 0, 1), (13, .istore 4, 2), (15, .aload_n 0, 1), (16, .iload_n 1, 1), (17, .invokevirtual 90, 3), (20, .iconst 0, 1), (21, .istore 5, 2), (23, .iload 5, 2), (25, .iload 4, 2), (27, .if_icmp .ge 16, 3), (30, .aload_n 0, 1), (31, .iload_n 1, 1), (32, .iload 5, 2), (34, .invokevirtual 94, 3), (37, .iinc 5 1, 3), (40, .goto (-17), 3), (43, .aload_n 0, 1), (44, .getfield 15, 3), (47, .iload_n 3, 1), (48, .iaload, 1), (49, .ireturn, 1)]
theorem ttX8_bellAt : zdt cX8_bellAt tX8_bellAt = true := by decide +kernel
abbrev w_X8_bellAt (a b : Int) : Prop := a = 110
abbrev q_X8_bellAt (h : zM) (p1 : Int) (p2 : Int) (p3 : Int) : Option zV → zM → Prop := zqi fun v h' => ((-2147483648) ≤ v ∧ v ≤ 2147483647) ∧ okC h' ∧ zfC w_X8_bellAt h h'
set_option maxRecDepth 100000 in
set_option maxHeartbeats 4000000 in
theorem s_X8_bellAt (l : Launch) (h : zM) (p1 : Int) (p2 : Int) (p3 : Int) (s0 : okC h) (b_p1 : 3 ≤ p1 ∧ p1 ≤ 8) (b_p2 : 0 ≤ p2 ∧ p2 ≤ 1000000) (b_p3 : 0 ≤ p3 ∧ p3 ≤ 7) : zT shC l yX8_bellAt cX8_bellAt 6 (some .int) (rmL 2) 0 0 [.inr 108, .inl p1, .inl p2, .inl p3] h (q_X8_bellAt h p1 p2 p3) := by
  refine zT_of (by decide +kernel) (L0 := [some (.inr 108), some (.inl p1), some (.inl p2), some (.inl p3), none, none]) rfl (Nat.le_of_ble_eq_true rfl) ?_
  refine zj_iload_n (zdk ttX8_bellAt 0 rfl rfl) rfl ?_
  refine zj_if_le (t := 12) (zdk ttX8_bellAt 1 rfl rfl) (by decide) (by omega) (fun c1 => ?_) (fun c1 => ?_)
  · exact absurd c1 (by omega)
  · refine zj_iload_n (zdk ttX8_bellAt 2 rfl rfl) rfl ?_
    refine zj_iconst (zdk ttX8_bellAt 3 rfl rfl) ?_
    refine zj_iload_n (zdk ttX8_bellAt 4 rfl rfl) rfl ?_
    refine zj_imul (zdk ttX8_bellAt 5 rfl rfl) ?_
    refine zj_iremP (zdk ttX8_bellAt 6 rfl rfl) (by omega) (by omega) ?_
    have b2 := zmod_b (x := p2) (b := (2 * p1)) (by omega) (by omega)
    refine zj_goto (t := 13) (zdk ttX8_bellAt 7 rfl rfl) (by decide) ?_
    refine zj_istore (L' := [some (.inr 108), some (.inl p1), some (.inl p2), some (.inl p3), some (.inl (p2 % (2 * p1))), none]) (zdk ttX8_bellAt 9 rfl rfl) (by decide) rfl ?_
    refine zj_aload_n (zdk ttX8_bellAt 10 rfl rfl) rfl (by decide) ?_
    refine zj_iload_n (zdk ttX8_bellAt 11 rfl rfl) rfl ?_
    refine zj_callV (av := [.inl p1]) (st := []) (zdk ttX8_bellAt 12 rfl rfl) mb_X8_ringInOrder mv_RX8_90 (ci := 8) rfl rfl (k_L108 s0) rfl rfl (Nat.le_of_ble_eq_true rfl) (s_X8_ringInOrder l h p1 s0 (by omega)) (rm_ok (by decide) (by decide)) (zq_v fun h5 q3 => ?_)
    obtain ⟨s7, f8⟩ := q3
    refine zj_iconst (zdk ttX8_bellAt 13 rfl rfl) ?_
    refine zj_istore (L' := [some (.inr 108), some (.inl p1), some (.inl p2), some (.inl p3), some (.inl (p2 % (2 * p1))), some (.inl 0)]) (zdk ttX8_bellAt 14 rfl rfl) (by decide) rfl ?_
    have lp90 : ∀ (n : Nat) (x9 : Int) (h10 : zM), (0 ≤ x9 ∧ x9 ≤ 15) → okC h10 → zfC w_X8_bellAt h h10 → (16 - x9).toNat < n → zJ shC l yX8_bellAt cX8_bellAt 6 (some .int) (rmL 2) 0 0 (q_X8_bellAt h p1 p2 p3) 0 0 23 [some (.inr 108), some (.inl p1), some (.inl p2), some (.inl p3), some (.inl (p2 % (2 * p1))), some (.inl x9)] [] h10 := by
      intro n
      induction n with
      | zero => intro x9 h10 b91 s11 f12 m92; exact absurd m92 (Nat.not_lt_zero _)
      | succ n ih93 =>
        intro x9 h10 b91 s11 f12 m92
        refine zj_iload (zdk ttX8_bellAt 15 rfl rfl) rfl ?_
        refine zj_iload (zdk ttX8_bellAt 16 rfl rfl) rfl ?_
        refine zj_icmp_ge (t := 43) (zdk ttX8_bellAt 17 rfl rfl) (by decide) (by omega) (by omega) (fun c94 => ?_) (fun c94 => ?_)
        · refine zj_aload_n (zdk ttX8_bellAt 24 rfl rfl) rfl (by decide) ?_
          refine zj_getr (r := 110) (zdk ttX8_bellAt 25 rfl rfl) zf_RX8_15 rfl (k_L108 s11) (rf_L108_1 s11) ?_
          refine zj_iload_n (zdk ttX8_bellAt 26 rfl rfl) rfl ?_
          have b95 : -2147483648 ≤ (h10.2 110 p3) ∧ (h10.2 110 p3) ≤ 2147483647 := ab_L108_1 s11 p3
          refine zj_iald (v := (h10.2 110 p3)) (zdk ttX8_bellAt 27 rfl rfl) (ka_L108_1 s11) (by decide) (by omega) rfl ?_
          exact zj_iret rfl (zdk ttX8_bellAt 28 rfl rfl) (Nat.le_refl _) (Nat.le_refl _) ⟨(h10.2 110 p3), rfl, by omega, s11, f12⟩
        · refine zj_aload_n (zdk ttX8_bellAt 18 rfl rfl) rfl (by decide) ?_
          refine zj_iload_n (zdk ttX8_bellAt 19 rfl rfl) rfl ?_
          refine zj_iload (zdk ttX8_bellAt 20 rfl rfl) rfl ?_
          refine zj_callV (av := [.inl p1, .inl x9]) (st := []) (zdk ttX8_bellAt 21 rfl rfl) mb_X8_change mv_RX8_94 (ci := 8) rfl rfl (k_L108 s11) rfl rfl (Nat.le_of_ble_eq_true rfl) (s_X8_change l h10 p1 x9 s11 (by omega) (by omega)) (rm_ok (by decide) (by decide)) (zq_v fun h98 q96 => ?_)
          obtain ⟨s100, f101⟩ := q96
          refine zj_iinc (L' := [some (.inr 108), some (.inl p1), some (.inl p2), some (.inl p3), some (.inl (p2 % (2 * p1))), some (.inl (x9 + 1))]) (zdk ttX8_bellAt 22 rfl rfl) rfl (by decide) rfl ?_
          refine zj_goto (t := 23) (zdk ttX8_bellAt 23 rfl rfl) (by decide) ?_
          have f102 : zfC w_X8_bellAt h h98 := zfC_t f12 f101 (fun a9 b9 z9 => by
            exact z9)
          exact ih93  (x9 + 1) h98 (by omega) s100 f102 (by omega)
    have f103 : zfC w_X8_bellAt h h5 := zfC_t (zfC_r _ _) f8 (fun a9 b9 z9 => by
      exact z9)
    exact lp90 _ 0 h5 (by omega) s7 f103 (Nat.lt_succ_self _)

abbrev tX8_worthOfStep : List (Nat × Instr × Nat) := [(0, .iload_n 2, 1), (1, .iload_n 3, 1), (2, .iadd, 1), (3, .iload_n 1, 1), (4, .irem, 1), (5, .istore 4, 2), (7, .iload 4, 2), (9, .ifCond .ne 7, 3), (12, .iconst 1, 1), (13, .goto 11, 3), (16, .aload_n 0, 1), (17, .getfield 11, 3), (20, .iload 4, 2), (22, .iaload, 1), (23, .ineg, 1), (24, .ireturn, 1)]
theorem ttX8_worthOfStep : zdt cX8_worthOfStep tX8_worthOfStep = true := by decide +kernel
abbrev q_X8_worthOfStep (h : zM) (p1 : Int) (p2 : Int) (p3 : Int) : Option zV → zM → Prop := zqi fun v h' => h = h' ∧ ((-2147483648) ≤ v ∧ v ≤ 2147483647)
set_option maxRecDepth 100000 in
set_option maxHeartbeats 4000000 in
theorem s_X8_worthOfStep (l : Launch) (h : zM) (p1 : Int) (p2 : Int) (p3 : Int) (s0 : okC h) (b_p1 : 2 ≤ p1 ∧ p1 ≤ 60) (b_p2 : 0 ≤ p2 ∧ p2 ≤ 59) (b_p3 : 1 ≤ p3 ∧ p3 ≤ 10) : zT shC l yX8_worthOfStep cX8_worthOfStep 5 (some .int) (rmL 1) 0 0 [.inr 108, .inl p1, .inl p2, .inl p3] h (q_X8_worthOfStep h p1 p2 p3) := by
  refine zT_of (by decide +kernel) (L0 := [some (.inr 108), some (.inl p1), some (.inl p2), some (.inl p3), none]) rfl (Nat.le_of_ble_eq_true rfl) ?_
  refine zj_iload_n (zdk ttX8_worthOfStep 0 rfl rfl) rfl ?_
  refine zj_iload_n (zdk ttX8_worthOfStep 1 rfl rfl) rfl ?_
  refine zj_iadd (zdk ttX8_worthOfStep 2 rfl rfl) ?_
  refine zj_iload_n (zdk ttX8_worthOfStep 3 rfl rfl) rfl ?_
  refine zj_iremP (zdk ttX8_worthOfStep 4 rfl rfl) (by omega) (by omega) ?_
  have b1 := zmod_b (x := (p2 + p3)) (b := p1) (by omega) (by omega)
  refine zj_istore (L' := [some (.inr 108), some (.inl p1), some (.inl p2), some (.inl p3), some (.inl ((p2 + p3) % p1))]) (zdk ttX8_worthOfStep 5 rfl rfl) (by decide) rfl ?_
  refine zj_iload (zdk ttX8_worthOfStep 6 rfl rfl) rfl ?_
  refine zj_if_ne (t := 16) (zdk ttX8_worthOfStep 7 rfl rfl) (by decide) (by omega) (fun c2 => ?_) (fun c2 => ?_)
  · refine zj_aload_n (zdk ttX8_worthOfStep 10 rfl rfl) rfl (by decide) ?_
    refine zj_getr (r := 109) (zdk ttX8_worthOfStep 11 rfl rfl) zf_RX8_11 rfl (k_L108 s0) (rf_L108_0 s0) ?_
    refine zj_iload (zdk ttX8_worthOfStep 12 rfl rfl) rfl ?_
    have b3 : -2147483648 ≤ (h.2 109 ((p2 + p3) % p1)) ∧ (h.2 109 ((p2 + p3) % p1)) ≤ 2147483647 := ab_L108_0 s0 ((p2 + p3) % p1)
    refine zj_iald (v := (h.2 109 ((p2 + p3) % p1))) (zdk ttX8_worthOfStep 13 rfl rfl) (ka_L108_0 s0) (by decide) (by omega) rfl ?_
    refine zj_ineg (zdk ttX8_worthOfStep 14 rfl rfl) ?_
    refine zj_wrap ?_
    have b4 := zwp_in (-(h.2 109 ((p2 + p3) % p1)))
    exact zj_iret rfl (zdk ttX8_worthOfStep 15 rfl rfl) (Nat.le_refl _) (Nat.le_refl _) ⟨(zwp (-(h.2 109 ((p2 + p3) % p1)))), rfl, rfl, by omega⟩
  · refine zj_iconst (zdk ttX8_worthOfStep 8 rfl rfl) ?_
    refine zj_goto (t := 24) (zdk ttX8_worthOfStep 9 rfl rfl) (by decide) ?_
    exact zj_iret rfl (zdk ttX8_worthOfStep 15 rfl rfl) (Nat.le_refl _) (Nat.le_refl _) ⟨1, rfl, rfl, by omega⟩

abbrev tX8_bestFrom : List (Nat × Instr × Nat) := [(0, .iconst (-1), 1), (1, .istore 4, 2), (3, .iconst 1, 1), (4, .istore 5, 2), (6, .iload 5, 2), (8, .bipush 10, 2), (10, .if_icmp .gt 36, 3), (13, .iload_n 2, 1), (14, .iload 5, 2), (16, .iconst 1, 1), (17, .isub, 1), (18, .ishr, 1), (19, .iconst 1, 1), (20, .iand, 1), (21, .iconst 1, 1), (22, .if_icmp .ne 18, 3), (25, .iload 4, 2), (27, .aload_n 0, 1), (28, .iload_n 1, 1), (29, .iload_n 3, 1), (30, .iload 5, 2), (32, .invokevirtual 111, 3), (35, .invokestatic 37, 3), (38, .istore 4, 2), (40, .iinc 5 1, 3), (43, .goto (-37), 3), (46, .iload 4, 2), (48, .ireturn, 1)]
theorem ttX8_bestFrom : zdt cX8_bestFrom tX8_bestFrom = true := by decide +kernel
abbrev q_X8_bestFrom (h : zM) (p1 : Int) (p2 : Int) (p3 : Int) : Option zV → zM → Prop := zqi fun v h' => h = h' ∧ ((-2147483648) ≤ v ∧ v ≤ 2147483647)
set_option maxRecDepth 100000 in
set_option maxHeartbeats 4000000 in
theorem s_X8_bestFrom (l : Launch) (h : zM) (p1 : Int) (p2 : Int) (p3 : Int) (s0 : okC h) (b_p1 : 2 ≤ p1 ∧ p1 ≤ 60) (b_p2 : (-2147483648) ≤ p2 ∧ p2 ≤ 2147483647) (b_p3 : 0 ≤ p3 ∧ p3 ≤ 59) : zT shC l yX8_bestFrom cX8_bestFrom 6 (some .int) (rmL 2) 0 0 [.inr 108, .inl p1, .inl p2, .inl p3] h (q_X8_bestFrom h p1 p2 p3) := by
  refine zT_of (by decide +kernel) (L0 := [some (.inr 108), some (.inl p1), some (.inl p2), some (.inl p3), none, none]) rfl (Nat.le_of_ble_eq_true rfl) ?_
  refine zj_iconst (zdk ttX8_bestFrom 0 rfl rfl) ?_
  refine zj_istore (L' := [some (.inr 108), some (.inl p1), some (.inl p2), some (.inl p3), some (.inl (-1)), none]) (zdk ttX8_bestFrom 1 rfl rfl) (by decide) rfl ?_
  refine zj_iconst (zdk ttX8_bestFrom 2 rfl rfl) ?_
  refine zj_istore (L' := [some (.inr 108), some (.inl p1), some (.inl p2), some (.inl p3), some (.inl (-1)), some (.inl 1)]) (zdk ttX8_bestFrom 3 rfl rfl) (by decide) rfl ?_
  have lp57 : ∀ (n : Nat) (x1 x2 : Int), (-1 ≤ x1 ∧ x1 ≤ 2147483647) → (1 ≤ x2 ∧ x2 ≤ 11) → (12 - x2).toNat < n → zJ shC l yX8_bestFrom cX8_bestFrom 6 (some .int) (rmL 2) 0 0 (q_X8_bestFrom h p1 p2 p3) 0 0 6 [some (.inr 108), some (.inl p1), some (.inl p2), some (.inl p3), some (.inl x1), some (.inl x2)] [] h := by
    intro n
    induction n with
    | zero => intro x1 x2 b58 b59 m60; exact absurd m60 (Nat.not_lt_zero _)
    | succ n ih61 =>
      intro x1 x2 b58 b59 m60
      refine zj_iload (zdk ttX8_bestFrom 4 rfl rfl) rfl ?_
      refine zj_bipush (zdk ttX8_bestFrom 5 rfl rfl) (by decide) ?_
      refine zj_icmp_gt (t := 46) (zdk ttX8_bestFrom 6 rfl rfl) (by decide) (by omega) (by decide) (fun c62 => ?_) (fun c62 => ?_)
      · refine zj_iload (zdk ttX8_bestFrom 26 rfl rfl) rfl ?_
        exact zj_iret rfl (zdk ttX8_bestFrom 27 rfl rfl) (Nat.le_refl _) (Nat.le_refl _) ⟨x1, rfl, rfl, by omega⟩
      · refine zj_iload_n (zdk ttX8_bestFrom 7 rfl rfl) rfl ?_
        refine zj_iload (zdk ttX8_bestFrom 8 rfl rfl) rfl ?_
        refine zj_iconst (zdk ttX8_bestFrom 9 rfl rfl) ?_
        refine zj_isub (zdk ttX8_bestFrom 10 rfl rfl) ?_
        refine zj_ishr (zdk ttX8_bestFrom 11 rfl rfl) ?_
        have b63 := zshr_in p2 (x2 - 1)
        refine zj_iconst (zdk ttX8_bestFrom 12 rfl rfl) ?_
        refine zj_iand (zdk ttX8_bestFrom 13 rfl rfl) ?_
        have b64 := zand_m (d := 2) 1 (by decide) (c := 1) (by decide) (by decide) (zshr p2 (x2 - 1))
        refine zj_iconst (zdk ttX8_bestFrom 14 rfl rfl) ?_
        refine zj_icmp_ne (t := 40) (zdk ttX8_bestFrom 15 rfl rfl) (by decide) (by omega) (by decide) (fun c65 => ?_) (fun c65 => ?_)
        · refine zj_iinc (L' := [some (.inr 108), some (.inl p1), some (.inl p2), some (.inl p3), some (.inl x1), some (.inl (x2 + 1))]) (zdk ttX8_bestFrom 24 rfl rfl) rfl (by decide) rfl ?_
          refine zj_goto (t := 6) (zdk ttX8_bestFrom 25 rfl rfl) (by decide) ?_
          exact ih61  x1 (x2 + 1) (by omega) (by omega) (by omega)
        · refine zj_iload (zdk ttX8_bestFrom 16 rfl rfl) rfl ?_
          refine zj_aload_n (zdk ttX8_bestFrom 17 rfl rfl) rfl (by decide) ?_
          refine zj_iload_n (zdk ttX8_bestFrom 18 rfl rfl) rfl ?_
          refine zj_iload_n (zdk ttX8_bestFrom 19 rfl rfl) rfl ?_
          refine zj_iload (zdk ttX8_bestFrom 20 rfl rfl) rfl ?_
          refine zj_callV (av := [.inl p1, .inl p3, .inl x2]) (st := [.inl x1]) (zdk ttX8_bestFrom 21 rfl rfl) mb_X8_worthOfStep mv_RX8_111 (ci := 8) rfl rfl (k_L108 s0) rfl rfl (Nat.le_of_ble_eq_true rfl) (s_X8_worthOfStep l h p1 p3 x2 s0 (by omega) (by omega) (by omega)) (rm_ok (by decide) (by decide)) (zq_i fun v67 h68 q66 => ?_)
          obtain ⟨rfl, b69⟩ := q66
          refine zj_max (zdk ttX8_bestFrom 22 rfl rfl) mx_RX8_37 (by omega) (by omega) (Nat.le_of_ble_eq_true rfl) (rm_m (by decide)) ?_
          have b70 := zm_max_f x1 v67
          refine zj_istore (L' := [some (.inr 108), some (.inl p1), some (.inl p2), some (.inl p3), some (.inl (zm_max x1 v67)), some (.inl x2)]) (zdk ttX8_bestFrom 23 rfl rfl) (by decide) rfl ?_
          refine zj_iinc (L' := [some (.inr 108), some (.inl p1), some (.inl p2), some (.inl p3), some (.inl (zm_max x1 v67)), some (.inl (x2 + 1))]) (zdk ttX8_bestFrom 24 rfl rfl) rfl (by decide) rfl ?_
          refine zj_goto (t := 6) (zdk ttX8_bestFrom 25 rfl rfl) (by decide) ?_
          exact ih61  (zm_max x1 v67) (x2 + 1) (by omega) (by omega) (by omega)
  exact lp57 _ (-1) 1 (by omega) (by omega) (Nat.lt_succ_self _)

abbrev tX8_judgeHours : List (Nat × Instr × Nat) := [(0, .aload_n 0, 1), (1, .getfield 11, 3), (4, .iconst 0, 1), (5, .invokestatic 40, 3), (8, .iload_n 2, 1), (9, .ifCond .eq 7, 3), (12, .iconst 1, 1), (13, .goto 4, 3), (16, .iconst 0, 1), (17, .istore_n 3, 1), (18, .iconst 0, 1), (19, .istore 4, 2), (21, .iload 4, 2), (23, .iload_n 1, 1), (24, .if_icmp .gt 71, 3), (27, .iload_n 3, 1), (28, .ifCond .eq 67, 3), (31, .iconst 0, 1), (32, .istore_n 3, 1), (33, .iload_n 1, 1), (34, .iconst 1, 1), (35, .isub, 1), (36, .istore 5, 2), (38, .iload 5, 2), (40, .ifCond .lt 49, 3), (43, .aload_n 0, 1), (44, .getfield 11, 3), (47, .iload 5, 2), (49, .iaload, 1), (50, .ifCond .ne 14, 3), (53, .aload_n 0, 1), (54, .iload_n 1, 1), (55, .iload_n 2, 1), (56, .iload 5, 2), (58, .invokevirtual 107, 3), (61, .goto 4, 3), (64, .iconst 0, 1), (65, .istore 6, 2), (67, .iload 6, 2), (69, .ifCond .eq 14, 3), (72, .aload_n 0, 1), (73, .getfield 11, 3), (76, .iload 5, 2), (78, .iload 6, 2), (80, .iastore, 1), (81, .iconst 1, 1), (82, .istore_n 3, 1), (83, .iinc 5 (-1), 3), (86, .goto (-48), 3), (89, .iinc 4 1, 3), (92, .goto (-71), 3), (95, .return_, 1)]
theorem ttX8_judgeHours : zdt cX8_judgeHours tX8_judgeHours = true := by decide +kernel
abbrev w_X8_judgeHours (a b : Int) : Prop := a = 109
abbrev q_X8_judgeHours (h : zM) (p1 : Int) (p2 : Int) : Option zV → zM → Prop := zqv fun h' => okC h' ∧ zfC w_X8_judgeHours h h'
set_option maxRecDepth 100000 in
set_option maxHeartbeats 4000000 in
theorem s_X8_judgeHours (l : Launch) (h : zM) (p1 : Int) (p2 : Int) (s0 : okC h) (b_p1 : 2 ≤ p1 ∧ p1 ≤ 60) (b_p2 : (-2147483648) ≤ p2 ∧ p2 ≤ 2147483647) : zT shC l yX8_judgeHours cX8_judgeHours 7 none (rmL 3) 0 0 [.inr 108, .inl p1, .inl p2] h (q_X8_judgeHours h p1 p2) := by
  refine zT_of (by decide +kernel) (L0 := [some (.inr 108), some (.inl p1), some (.inl p2), none, none, none, none]) rfl (Nat.le_of_ble_eq_true rfl) ?_
  refine zj_aload_n (zdk ttX8_judgeHours 0 rfl rfl) rfl (by decide) ?_
  refine zj_getr (r := 109) (zdk ttX8_judgeHours 1 rfl rfl) zf_RX8_11 rfl (k_L108 s0) (rf_L108_0 s0) ?_
  refine zj_iconst (zdk ttX8_judgeHours 2 rfl rfl) ?_
  refine zj_callS (av := [.inr 109, .inl 0]) (st := []) (zdk ttX8_judgeHours 3 rfl rfl) mb_J7_fill_53178 ms_RX8_40 rfl rfl (Nat.le_of_ble_eq_true rfl) (s_J7_fill_53178 shC l h 109 0 (ka_L108_0 s0) (by decide)) (rm_ok (by decide) (by decide)) (zq_v fun h1 e2 => ?_)
  refine zj_iload_n (zdk ttX8_judgeHours 4 rfl rfl) rfl ?_
  have j5 : ∀ (y4 : Int), (0 ≤ y4 ∧ y4 ≤ 1) → zJ shC l yX8_judgeHours cX8_judgeHours 7 none (rmL 3) 0 0 (q_X8_judgeHours h p1 p2) 0 0 17 [some (.inr 108), some (.inl p1), some (.inl p2), none, none, none, none] [.inl y4] h1 := by
    intro y4 b6
    refine zj_istore_n (L' := [some (.inr 108), some (.inl p1), some (.inl p2), some (.inl y4), none, none, none]) (zdk ttX8_judgeHours 9 rfl rfl) (by decide) rfl ?_
    refine zj_iconst (zdk ttX8_judgeHours 10 rfl rfl) ?_
    refine zj_istore (L' := [some (.inr 108), some (.inl p1), some (.inl p2), some (.inl y4), some (.inl 0), none, none]) (zdk ttX8_judgeHours 11 rfl rfl) (by decide) rfl ?_
    have lp292 : ∀ (n : Nat) (x7 x8 : Int) (h9 : zM), (0 ≤ x7 ∧ x7 ≤ 1) → (0 ≤ x8 ∧ x8 ≤ 61) → okC h9 → zfC w_X8_judgeHours h h9 → (62 - x8).toNat < n → zJ shC l yX8_judgeHours cX8_judgeHours 7 none (rmL 3) 0 0 (q_X8_judgeHours h p1 p2) 0 0 21 [some (.inr 108), some (.inl p1), some (.inl p2), some (.inl x7), some (.inl x8), none, none] [] h9 := by
      intro n
      induction n with
      | zero => intro x7 x8 h9 b293 b294 s10 f11 m295; exact absurd m295 (Nat.not_lt_zero _)
      | succ n ih296 =>
        intro x7 x8 h9 b293 b294 s10 f11 m295
        refine zj_iload (zdk ttX8_judgeHours 12 rfl rfl) rfl ?_
        refine zj_iload_n (zdk ttX8_judgeHours 13 rfl rfl) rfl ?_
        refine zj_icmp_gt (t := 95) (zdk ttX8_judgeHours 14 rfl rfl) (by decide) (by omega) (by omega) (fun c297 => ?_) (fun c297 => ?_)
        · exact zj_vret rfl (zdk ttX8_judgeHours 51 rfl rfl) (Nat.le_refl _) (Nat.le_refl _) ⟨rfl, s10, f11⟩
        · refine zj_iload_n (zdk ttX8_judgeHours 15 rfl rfl) rfl ?_
          refine zj_if_eq (t := 95) (zdk ttX8_judgeHours 16 rfl rfl) (by decide) (by omega) (fun c298 => ?_) (fun c298 => ?_)
          · exact zj_vret rfl (zdk ttX8_judgeHours 51 rfl rfl) (Nat.le_refl _) (Nat.le_refl _) ⟨rfl, s10, f11⟩
          · refine zj_iconst (zdk ttX8_judgeHours 17 rfl rfl) ?_
            refine zj_istore_n (L' := [some (.inr 108), some (.inl p1), some (.inl p2), some (.inl 0), some (.inl x8), none, none]) (zdk ttX8_judgeHours 18 rfl rfl) (by decide) rfl ?_
            refine zj_iload_n (zdk ttX8_judgeHours 19 rfl rfl) rfl ?_
            refine zj_iconst (zdk ttX8_judgeHours 20 rfl rfl) ?_
            refine zj_isub (zdk ttX8_judgeHours 21 rfl rfl) ?_
            refine zj_istore (L' := [some (.inr 108), some (.inl p1), some (.inl p2), some (.inl 0), some (.inl x8), some (.inl (p1 - 1)), none]) (zdk ttX8_judgeHours 22 rfl rfl) (by decide) rfl ?_
            have lp337 : ∀ (n : Nat) (x299 x300 : Int) (h301 : zM), (0 ≤ x299 ∧ x299 ≤ 1) → (-1 ≤ x300 ∧ x300 ≤ 59) → okC h301 → zfC w_X8_judgeHours h h301 → (x300 - -2).toNat < n → zJ shC l yX8_judgeHours cX8_judgeHours 7 none (rmL 3) 0 0 (q_X8_judgeHours h p1 p2) 0 0 38 [some (.inr 108), some (.inl p1), some (.inl p2), some (.inl x299), some (.inl x8), some (.inl x300), none] [] h301 := by
              intro n
              induction n with
              | zero => intro x299 x300 h301 b338 b339 s302 f303 m340; exact absurd m340 (Nat.not_lt_zero _)
              | succ n ih341 =>
                intro x299 x300 h301 b338 b339 s302 f303 m340
                refine zj_iload (zdk ttX8_judgeHours 23 rfl rfl) rfl ?_
                refine zj_if_lt (t := 89) (zdk ttX8_judgeHours 24 rfl rfl) (by decide) (by omega) (fun c342 => ?_) (fun c342 => ?_)
                · refine zj_iinc (L' := [some (.inr 108), some (.inl p1), some (.inl p2), some (.inl x299), some (.inl (x8 + 1)), some (.inl x300), none]) (zdk ttX8_judgeHours 49 rfl rfl) rfl (by decide) rfl ?_
                  refine zj_goto (t := 21) (zdk ttX8_judgeHours 50 rfl rfl) (by decide) ?_
                  refine zj_kill (k := 5) (L' := [some (.inr 108), some (.inl p1), some (.inl p2), some (.inl x299), some (.inl (x8 + 1)), none, none]) rfl ?_
                  exact ih296  x299 (x8 + 1) h301 (by omega) (by omega) s302 f303 (by omega)
                · refine zj_aload_n (zdk ttX8_judgeHours 25 rfl rfl) rfl (by decide) ?_
                  refine zj_getr (r := 109) (zdk ttX8_judgeHours 26 rfl rfl) zf_RX8_11 rfl (k_L108 s302) (rf_L108_0 s302) ?_
                  refine zj_iload (zdk ttX8_judgeHours 27 rfl rfl) rfl ?_
                  have b343 : -2147483648 ≤ (h301.2 109 x300) ∧ (h301.2 109 x300) ≤ 2147483647 := ab_L108_0 s302 x300
                  refine zj_iald (v := (h301.2 109 x300)) (zdk ttX8_judgeHours 28 rfl rfl) (ka_L108_0 s302) (by decide) (by omega) rfl ?_
                  refine zj_if_ne (t := 64) (zdk ttX8_judgeHours 29 rfl rfl) (by decide) (by omega) (fun c344 => ?_) (fun c344 => ?_)
                  · refine zj_iconst (zdk ttX8_judgeHours 36 rfl rfl) ?_
                    refine zj_istore (L' := [some (.inr 108), some (.inl p1), some (.inl p2), some (.inl x299), some (.inl x8), some (.inl x300), some (.inl 0)]) (zdk ttX8_judgeHours 37 rfl rfl) (by decide) rfl ?_
                    refine zj_iload (zdk ttX8_judgeHours 38 rfl rfl) rfl ?_
                    refine zj_if_eq (t := 83) (zdk ttX8_judgeHours 39 rfl rfl) (by decide) (by decide) (fun c345 => ?_) (fun c345 => ?_)
                    · refine zj_iinc (L' := [some (.inr 108), some (.inl p1), some (.inl p2), some (.inl x299), some (.inl x8), some (.inl (x300 + (-1))), some (.inl 0)]) (zdk ttX8_judgeHours 47 rfl rfl) rfl (by decide) rfl ?_
                      refine zj_goto (t := 38) (zdk ttX8_judgeHours 48 rfl rfl) (by decide) ?_
                      refine zj_kill (k := 6) (L' := [some (.inr 108), some (.inl p1), some (.inl p2), some (.inl x299), some (.inl x8), some (.inl (x300 + (-1))), none]) rfl ?_
                      exact ih341  x299 (x300 + (-1)) h301 (by omega) (by omega) s302 f303 (by omega)
                    · exact absurd c345 (by omega)
                  · refine zj_aload_n (zdk ttX8_judgeHours 30 rfl rfl) rfl (by decide) ?_
                    refine zj_iload_n (zdk ttX8_judgeHours 31 rfl rfl) rfl ?_
                    refine zj_iload_n (zdk ttX8_judgeHours 32 rfl rfl) rfl ?_
                    refine zj_iload (zdk ttX8_judgeHours 33 rfl rfl) rfl ?_
                    refine zj_callV (av := [.inl p1, .inl p2, .inl x300]) (st := []) (zdk ttX8_judgeHours 34 rfl rfl) mb_X8_bestFrom mv_RX8_107 (ci := 8) rfl rfl (k_L108 s302) rfl rfl (Nat.le_of_ble_eq_true rfl) (s_X8_bestFrom l h301 p1 p2 x300 s302 (by omega) (by omega) (by omega)) (rm_ok (by decide) (by decide)) (zq_i fun v347 h348 q346 => ?_)
                    obtain ⟨rfl, b349⟩ := q346
                    refine zj_goto (t := 65) (zdk ttX8_judgeHours 35 rfl rfl) (by decide) ?_
                    refine zj_istore (L' := [some (.inr 108), some (.inl p1), some (.inl p2), some (.inl x299), some (.inl x8), some (.inl x300), some (.inl v347)]) (zdk ttX8_judgeHours 37 rfl rfl) (by decide) rfl ?_
                    refine zj_iload (zdk ttX8_judgeHours 38 rfl rfl) rfl ?_
                    refine zj_if_eq (t := 83) (zdk ttX8_judgeHours 39 rfl rfl) (by decide) (by omega) (fun c350 => ?_) (fun c350 => ?_)
                    · refine zj_iinc (L' := [some (.inr 108), some (.inl p1), some (.inl p2), some (.inl x299), some (.inl x8), some (.inl (x300 + (-1))), some (.inl v347)]) (zdk ttX8_judgeHours 47 rfl rfl) rfl (by decide) rfl ?_
                      refine zj_goto (t := 38) (zdk ttX8_judgeHours 48 rfl rfl) (by decide) ?_
                      refine zj_kill (k := 6) (L' := [some (.inr 108), some (.inl p1), some (.inl p2), some (.inl x299), some (.inl x8), some (.inl (x300 + (-1))), none]) rfl ?_
                      exact ih341  x299 (x300 + (-1)) h301 (by omega) (by omega) s302 f303 (by omega)
                    · refine zj_aload_n (zdk ttX8_judgeHours 40 rfl rfl) rfl (by decide) ?_
                      refine zj_getr (r := 109) (zdk ttX8_judgeHours 41 rfl rfl) zf_RX8_11 rfl (k_L108 s302) (rf_L108_0 s302) ?_
                      refine zj_iload (zdk ttX8_judgeHours 42 rfl rfl) rfl ?_
                      refine zj_iload (zdk ttX8_judgeHours 43 rfl rfl) rfl ?_
                      refine zj_iast (zdk ttX8_judgeHours 44 rfl rfl) (ka_L108_0 s302) (by decide) (by omega) (fun h351 e352 => ?_)
                      refine zj_iconst (zdk ttX8_judgeHours 45 rfl rfl) ?_
                      refine zj_istore_n (L' := [some (.inr 108), some (.inl p1), some (.inl p2), some (.inl 1), some (.inl x8), some (.inl x300), some (.inl v347)]) (zdk ttX8_judgeHours 46 rfl rfl) (by decide) rfl ?_
                      refine zj_iinc (L' := [some (.inr 108), some (.inl p1), some (.inl p2), some (.inl 1), some (.inl x8), some (.inl (x300 + (-1))), some (.inl v347)]) (zdk ttX8_judgeHours 47 rfl rfl) rfl (by decide) rfl ?_
                      refine zj_goto (t := 38) (zdk ttX8_judgeHours 48 rfl rfl) (by decide) ?_
                      refine zj_kill (k := 6) (L' := [some (.inr 108), some (.inl p1), some (.inl p2), some (.inl 1), some (.inl x8), some (.inl (x300 + (-1))), none]) rfl ?_
                      have s353 : okC h351 := aw_L108_0 s302 e352 (by omega)
                      have f354 : zfC w_X8_judgeHours h h351 := zfC_w f303 e352 (by omega)
                      exact ih341  1 (x300 + (-1)) h351 (by omega) (by omega) s353 f354 (by omega)
            exact lp337 _ 0 (p1 - 1) h9 (by omega) (by omega) s10 f11 (Nat.lt_succ_self _)
    have s355 : okC h1 := okC_fill s0 e2 (fun j => pa_L108_0 (v := 0) (by omega) j) (na_L108_0).1 (na_L108_0).2
    have f356 : zfC w_X8_judgeHours h h1 := zfC_fill (zfC_r _ _) e2 (fun _ => (by omega))
    exact lp292 _ y4 0 h1 (by omega) (by omega) s355 f356 (Nat.lt_succ_self _)
  refine zj_if_eq (t := 16) (zdk ttX8_judgeHours 5 rfl rfl) (by decide) (by omega) (fun c3 => ?_) (fun c3 => ?_)
  · refine zj_iconst (zdk ttX8_judgeHours 8 rfl rfl) ?_
    exact j5 0 (by omega)
  · refine zj_iconst (zdk ttX8_judgeHours 6 rfl rfl) ?_
    refine zj_goto (t := 17) (zdk ttX8_judgeHours 7 rfl rfl) (by decide) ?_
    exact j5 1 (by omega)
