abbrev tX10_glasses : List (Nat × Instr × Nat) := [(0, .iload_n 1, 1), (1, .iconst 1, 1), (2, .bipush 30, 2), (4, .invokestatic 77, 3), (7, .ifCond .eq 23, 3), (10, .iload_n 2, 1), (11, .iconst 1, 1), (12, .bipush 30, 2), (14, .invokestatic 77, 3), (17, .ifCond .eq 13, 3), (20, .iload_n 3, 1), (21, .iconst 1, 1), (22, .bipush 120, 2), (24, .invokestatic 77, 3), (27, .ifCond .ne 5, 3), (30, .iconst (-1), 1), (31, .ireturn, 1), (32, .aload_n 0, 1), (33, .getfield 41, 3), (36, .iload_n 1, 1), (37, .iload_n 2, 1), (38, .iload_n 3, 1), (39, .invokevirtual 284, 3), (42, .ireturn, 1)]
theorem ttX10_glasses : zdt cX10_glasses tX10_glasses = true := by decide +kernel
abbrev w_X10_glasses (a b : Int) : Prop := a = 113
abbrev q_X10_glasses (h : zM) (p1 : Int) (p2 : Int) (p3 : Int) : Option zV → zM → Prop := zqi fun v h' => ((-2147483648) ≤ v ∧ v ≤ 2147483647) ∧ okC h' ∧ zfC w_X10_glasses h h'
set_option maxRecDepth 100000 in
set_option maxHeartbeats 4000000 in
theorem s_X10_glasses (l : Launch) (h : zM) (p1 : Int) (p2 : Int) (p3 : Int) (s0 : okC h) (b_p1 : (-2147483648) ≤ p1 ∧ p1 ≤ 2147483647) (b_p2 : (-2147483648) ≤ p2 ∧ p2 ≤ 2147483647) (b_p3 : (-2147483648) ≤ p3 ∧ p3 ≤ 2147483647) : zT shC l yX10_glasses cX10_glasses 4 (some .int) (rmL 4) 0 0 [.inr 0, .inl p1, .inl p2, .inl p3] h (q_X10_glasses h p1 p2 p3) := by
  refine zT_of (by decide +kernel) (L0 := [some (.inr 0), some (.inl p1), some (.inl p2), some (.inl p3)]) rfl (Nat.le_of_ble_eq_true rfl) ?_
  refine zj_iload_n (zdk ttX10_glasses 0 rfl rfl) rfl ?_
  refine zj_iconst (zdk ttX10_glasses 1 rfl rfl) ?_
  refine zj_bipush (zdk ttX10_glasses 2 rfl rfl) (by decide) ?_
  refine zj_callS (av := [.inl p1, .inl 1, .inl 30]) (st := []) (zdk ttX10_glasses 3 rfl rfl) mb_X10_within ms_RX10_77 rfl rfl (Nat.le_of_ble_eq_true rfl) (s_X10_within l h p1 1 30 s0 (by omega) (by omega) (by omega)) (rm_ok (by decide) (by decide)) (zq_i fun v2 h3 q1 => ?_)
  obtain ⟨rfl, ⟨rfl, b4⟩ | ⟨rfl, b4⟩⟩ := q1
  · refine zj_if_eq (t := 30) (zdk ttX10_glasses 4 rfl rfl) (by decide) (by decide) (fun c5 => ?_) (fun c5 => ?_)
    · refine zj_iconst (zdk ttX10_glasses 15 rfl rfl) ?_
      exact zj_iret rfl (zdk ttX10_glasses 16 rfl rfl) (Nat.le_refl _) (Nat.le_refl _) ⟨(-1), rfl, by omega, s0, (zfC_r _ _)⟩
    · exact absurd c5 (by omega)
  · refine zj_if_eq (t := 30) (zdk ttX10_glasses 4 rfl rfl) (by decide) (by decide) (fun c6 => ?_) (fun c6 => ?_)
    · exact absurd c6 (by omega)
    · refine zj_iload_n (zdk ttX10_glasses 5 rfl rfl) rfl ?_
      refine zj_iconst (zdk ttX10_glasses 6 rfl rfl) ?_
      refine zj_bipush (zdk ttX10_glasses 7 rfl rfl) (by decide) ?_
      refine zj_callS (av := [.inl p2, .inl 1, .inl 30]) (st := []) (zdk ttX10_glasses 8 rfl rfl) mb_X10_within ms_RX10_77 rfl rfl (Nat.le_of_ble_eq_true rfl) (s_X10_within l h p2 1 30 s0 (by omega) (by omega) (by omega)) (rm_ok (by decide) (by decide)) (zq_i fun v8 h9 q7 => ?_)
      obtain ⟨rfl, ⟨rfl, b10⟩ | ⟨rfl, b10⟩⟩ := q7
      · refine zj_if_eq (t := 30) (zdk ttX10_glasses 9 rfl rfl) (by decide) (by decide) (fun c11 => ?_) (fun c11 => ?_)
        · refine zj_iconst (zdk ttX10_glasses 15 rfl rfl) ?_
          exact zj_iret rfl (zdk ttX10_glasses 16 rfl rfl) (Nat.le_refl _) (Nat.le_refl _) ⟨(-1), rfl, by omega, s0, (zfC_r _ _)⟩
        · exact absurd c11 (by omega)
      · refine zj_if_eq (t := 30) (zdk ttX10_glasses 9 rfl rfl) (by decide) (by decide) (fun c12 => ?_) (fun c12 => ?_)
        · exact absurd c12 (by omega)
        · refine zj_iload_n (zdk ttX10_glasses 10 rfl rfl) rfl ?_
          refine zj_iconst (zdk ttX10_glasses 11 rfl rfl) ?_
          refine zj_bipush (zdk ttX10_glasses 12 rfl rfl) (by decide) ?_
          refine zj_callS (av := [.inl p3, .inl 1, .inl 120]) (st := []) (zdk ttX10_glasses 13 rfl rfl) mb_X10_within ms_RX10_77 rfl rfl (Nat.le_of_ble_eq_true rfl) (s_X10_within l h p3 1 120 s0 (by omega) (by omega) (by omega)) (rm_ok (by decide) (by decide)) (zq_i fun v14 h15 q13 => ?_)
          obtain ⟨rfl, ⟨rfl, b16⟩ | ⟨rfl, b16⟩⟩ := q13
          · refine zj_if_ne (t := 32) (zdk ttX10_glasses 14 rfl rfl) (by decide) (by decide) (fun c17 => ?_) (fun c17 => ?_)
            · exact absurd c17 (by omega)
            · refine zj_iconst (zdk ttX10_glasses 15 rfl rfl) ?_
              exact zj_iret rfl (zdk ttX10_glasses 16 rfl rfl) (Nat.le_refl _) (Nat.le_refl _) ⟨(-1), rfl, by omega, s0, (zfC_r _ _)⟩
          · refine zj_if_ne (t := 32) (zdk ttX10_glasses 14 rfl rfl) (by decide) (by decide) (fun c18 => ?_) (fun c18 => ?_)
            · refine zj_aload_n (zdk ttX10_glasses 17 rfl rfl) rfl (by decide) ?_
              refine zj_getr (r := 108) (zdk ttX10_glasses 18 rfl rfl) zf_RX10_41 rfl (k_L0 s0) (rf_L0_5 s0) ?_
              refine zj_iload_n (zdk ttX10_glasses 19 rfl rfl) rfl ?_
              refine zj_iload_n (zdk ttX10_glasses 20 rfl rfl) rfl ?_
              refine zj_iload_n (zdk ttX10_glasses 21 rfl rfl) rfl ?_
              refine zj_callV (av := [.inl p1, .inl p2, .inl p3]) (st := []) (zdk ttX10_glasses 22 rfl rfl) mb_X8_fewestTurnings mv_RX10_284 (ci := 8) rfl rfl (k_L108 s0) rfl rfl (Nat.le_of_ble_eq_true rfl) (s_X8_fewestTurnings l h p1 p2 p3 s0 (by omega) (by omega) (by omega)) (rm_ok (by decide) (by decide)) (zq_i fun v20 h21 q19 => ?_)
              obtain ⟨b22, s23, f24⟩ := q19
              have f25 : zfC w_X10_glasses h h21 := zfC_t (zfC_r _ _) f24 (fun a9 b9 z9 => by
                exact z9)
              exact zj_iret rfl (zdk ttX10_glasses 23 rfl rfl) (Nat.le_refl _) (Nat.le_refl _) ⟨v20, rfl, by omega, s23, f25⟩
            · exact absurd c18 (by omega)

abbrev tX10_seat : List (Nat × Instr × Nat) := [(0, .aload_n 0, 1), (1, .getfield 10, 3), (4, .getfield 263, 3), (7, .iload_n 1, 1), (8, .invokevirtual 288, 3), (11, .ireturn, 1)]
theorem ttX10_seat : zdt cX10_seat tX10_seat = true := by decide +kernel
abbrev w_X10_seat (a b : Int) : Prop := (a = 28 ∧ b = 6) ∨ a = 32
abbrev q_X10_seat (h : zM) (p1 : Int) : Option zV → zM → Prop := zqi fun v h' => ((-2147483648) ≤ v ∧ v ≤ 2147483647) ∧ okC h' ∧ zfC w_X10_seat h h' ∧ (zcw (p1 = -1) (1 ≤ p1 ∧ p1 ≤ 99) 7 (h.2 28 6) v (h'.2 28 6))
set_option maxRecDepth 100000 in
set_option maxHeartbeats 4000000 in
theorem s_X10_seat (l : Launch) (h : zM) (p1 : Int) (s0 : okC h) (b_p1 : (-2147483648) ≤ p1 ∧ p1 ≤ 2147483647) : zT shC l yX10_seat cX10_seat 2 (some .int) (rmL 3) 0 0 [.inr 0, .inl p1] h (q_X10_seat h p1) := by
  refine zT_of (by decide +kernel) (L0 := [some (.inr 0), some (.inl p1)]) rfl (Nat.le_of_ble_eq_true rfl) ?_
  refine zj_aload_n (zdk ttX10_seat 0 rfl rfl) rfl (by decide) ?_
  refine zj_getr (r := 1) (zdk ttX10_seat 1 rfl rfl) zf_RX10_10 rfl (k_L0 s0) (rf_L0_0 s0) ?_
  refine zj_getr (r := 28) (zdk ttX10_seat 2 rfl rfl) zf_RX10_263 rfl (k_9_0 s0 zWd_1) (rf_9_0_6 s0 zWd_1) ?_
  refine zj_iload_n (zdk ttX10_seat 3 rfl rfl) rfl ?_
  refine zj_callV (av := [.inl p1]) (st := []) (zdk ttX10_seat 4 rfl rfl) mb_X5_tellSeat mv_RX10_288 (ci := 5) rfl rfl (k_5_0 s0 zPu_28) rfl rfl (Nat.le_of_ble_eq_true rfl) (s_X5_tellSeat l h 28 p1 s0 zPu_28 (by omega)) (rm_ok (by decide) (by decide)) (zq_i fun v2 h3 q1 => ?_)
  obtain ⟨b4, s5, f7, u6⟩ := q1
  have f8 : zfC w_X10_seat h h3 := zfC_t (zfC_r _ _) f7 (fun a9 b9 z9 => by
    rcases z9 with z9 | z9
    · exact (Or.inl z9)
    · exact (Or.inr z9))
  exact zj_iret rfl (zdk ttX10_seat 5 rfl rfl) (Nat.le_refl _) (Nat.le_refl _) ⟨v2, rfl, by omega, s5, f8, u6⟩

abbrev tX10_part : List (Nat × Instr × Nat) := [(0, .iload_n 1, 1), (1, .iconst 1, 1), (2, .sipush 9999, 3), (5, .invokestatic 77, 3), (8, .ifCond .eq 14, 3), (11, .iload_n 2, 1), (12, .iconst 1, 1), (13, .sipush 9999, 3), (16, .invokestatic 77, 3), (19, .ifCond .ne 5, 3), (22, .iconst (-1), 1), (23, .ireturn, 1), (24, .iload_n 3, 1), (25, .ifCond .ne 9, 3), (28, .iload_n 1, 1), (29, .iload_n 2, 1), (30, .invokestatic 295, 3), (33, .ireturn, 1), (34, .iload_n 3, 1), (35, .bipush 100, 2), (37, .sipush 399, 3), (40, .invokestatic 77, 3), (43, .ifCond .eq 19, 3), (46, .iload_n 1, 1), (47, .iload_n 2, 1), (48, .iload_n 3, 1), (49, .bipush 100, 2), (51, .idiv, 1), (52, .iload_n 3, 1), (53, .bipush 100, 2), (55, .irem, 1), (56, .invokestatic 298, 3), (59, .goto 4, 3), (62, .iconst (-1), 1), (63, .ireturn, 1)]
theorem ttX10_part : zdt cX10_part tX10_part = true := by decide +kernel
abbrev w_X10_part (a b : Int) : Prop := False
abbrev q_X10_part (h : zM) (p1 : Int) (p2 : Int) (p3 : Int) : Option zV → zM → Prop := zqi fun v h' => ((-2147483648) ≤ v ∧ v ≤ 2147483647) ∧ okC h' ∧ zfC w_X10_part h h'
set_option maxRecDepth 100000 in
set_option maxHeartbeats 4000000 in
theorem s_X10_part (l : Launch) (h : zM) (p1 : Int) (p2 : Int) (p3 : Int) (s0 : okC h) (b_p1 : (-2147483648) ≤ p1 ∧ p1 ≤ 2147483647) (b_p2 : (-2147483648) ≤ p2 ∧ p2 ≤ 2147483647) (b_p3 : (-2147483648) ≤ p3 ∧ p3 ≤ 2147483647) : zT shC l yX10_part cX10_part 4 (some .int) (rmL 2) 0 0 [.inr 0, .inl p1, .inl p2, .inl p3] h (q_X10_part h p1 p2 p3) := by
  refine zT_of (by decide +kernel) (L0 := [some (.inr 0), some (.inl p1), some (.inl p2), some (.inl p3)]) rfl (Nat.le_of_ble_eq_true rfl) ?_
  refine zj_iload_n (zdk ttX10_part 0 rfl rfl) rfl ?_
  refine zj_iconst (zdk ttX10_part 1 rfl rfl) ?_
  refine zj_sipush (zdk ttX10_part 2 rfl rfl) (by decide) ?_
  refine zj_callS (av := [.inl p1, .inl 1, .inl 9999]) (st := []) (zdk ttX10_part 3 rfl rfl) mb_X10_within ms_RX10_77 rfl rfl (Nat.le_of_ble_eq_true rfl) (s_X10_within l h p1 1 9999 s0 (by omega) (by omega) (by omega)) (rm_ok (by decide) (by decide)) (zq_i fun v2 h3 q1 => ?_)
  obtain ⟨rfl, ⟨rfl, b4⟩ | ⟨rfl, b4⟩⟩ := q1
  · refine zj_if_eq (t := 22) (zdk ttX10_part 4 rfl rfl) (by decide) (by decide) (fun c5 => ?_) (fun c5 => ?_)
    · refine zj_iconst (zdk ttX10_part 10 rfl rfl) ?_
      exact zj_iret rfl (zdk ttX10_part 11 rfl rfl) (Nat.le_refl _) (Nat.le_refl _) ⟨(-1), rfl, by omega, s0, (zfC_r _ _)⟩
    · exact absurd c5 (by omega)
  · refine zj_if_eq (t := 22) (zdk ttX10_part 4 rfl rfl) (by decide) (by decide) (fun c6 => ?_) (fun c6 => ?_)
    · exact absurd c6 (by omega)
    · refine zj_iload_n (zdk ttX10_part 5 rfl rfl) rfl ?_
      refine zj_iconst (zdk ttX10_part 6 rfl rfl) ?_
      refine zj_sipush (zdk ttX10_part 7 rfl rfl) (by decide) ?_
      refine zj_callS (av := [.inl p2, .inl 1, .inl 9999]) (st := []) (zdk ttX10_part 8 rfl rfl) mb_X10_within ms_RX10_77 rfl rfl (Nat.le_of_ble_eq_true rfl) (s_X10_within l h p2 1 9999 s0 (by omega) (by omega) (by omega)) (rm_ok (by decide) (by decide)) (zq_i fun v8 h9 q7 => ?_)
      obtain ⟨rfl, ⟨rfl, b10⟩ | ⟨rfl, b10⟩⟩ := q7
      · refine zj_if_ne (t := 24) (zdk ttX10_part 9 rfl rfl) (by decide) (by decide) (fun c11 => ?_) (fun c11 => ?_)
        · exact absurd c11 (by omega)
        · refine zj_iconst (zdk ttX10_part 10 rfl rfl) ?_
          exact zj_iret rfl (zdk ttX10_part 11 rfl rfl) (Nat.le_refl _) (Nat.le_refl _) ⟨(-1), rfl, by omega, s0, (zfC_r _ _)⟩
      · refine zj_if_ne (t := 24) (zdk ttX10_part 9 rfl rfl) (by decide) (by decide) (fun c12 => ?_) (fun c12 => ?_)
        · refine zj_iload_n (zdk ttX10_part 12 rfl rfl) rfl ?_
          refine zj_if_ne (t := 34) (zdk ttX10_part 13 rfl rfl) (by decide) (by omega) (fun c13 => ?_) (fun c13 => ?_)
          · refine zj_iload_n (zdk ttX10_part 18 rfl rfl) rfl ?_
            refine zj_bipush (zdk ttX10_part 19 rfl rfl) (by decide) ?_
            refine zj_sipush (zdk ttX10_part 20 rfl rfl) (by decide) ?_
            refine zj_callS (av := [.inl p3, .inl 100, .inl 399]) (st := []) (zdk ttX10_part 21 rfl rfl) mb_X10_within ms_RX10_77 rfl rfl (Nat.le_of_ble_eq_true rfl) (s_X10_within l h p3 100 399 s0 (by omega) (by omega) (by omega)) (rm_ok (by decide) (by decide)) (zq_i fun v15 h16 q14 => ?_)
            obtain ⟨rfl, ⟨rfl, b17⟩ | ⟨rfl, b17⟩⟩ := q14
            · refine zj_if_eq (t := 62) (zdk ttX10_part 22 rfl rfl) (by decide) (by decide) (fun c18 => ?_) (fun c18 => ?_)
              · refine zj_iconst (zdk ttX10_part 33 rfl rfl) ?_
                exact zj_iret rfl (zdk ttX10_part 34 rfl rfl) (Nat.le_refl _) (Nat.le_refl _) ⟨(-1), rfl, by omega, s0, (zfC_r _ _)⟩
              · exact absurd c18 (by omega)
            · refine zj_if_eq (t := 62) (zdk ttX10_part 22 rfl rfl) (by decide) (by decide) (fun c19 => ?_) (fun c19 => ?_)
              · exact absurd c19 (by omega)
              · refine zj_iload_n (zdk ttX10_part 23 rfl rfl) rfl ?_
                refine zj_iload_n (zdk ttX10_part 24 rfl rfl) rfl ?_
                refine zj_iload_n (zdk ttX10_part 25 rfl rfl) rfl ?_
                refine zj_bipush (zdk ttX10_part 26 rfl rfl) (by decide) ?_
                refine zj_idivP (zdk ttX10_part 27 rfl rfl) (by omega) (by omega) ?_
                refine zj_iload_n (zdk ttX10_part 28 rfl rfl) rfl ?_
                refine zj_bipush (zdk ttX10_part 29 rfl rfl) (by decide) ?_
                refine zj_iremP (zdk ttX10_part 30 rfl rfl) (by omega) (by omega) ?_
                refine zj_callS (av := [.inl p1, .inl p2, .inl (p3 / 100), .inl (p3 % 100)]) (st := []) (zdk ttX10_part 31 rfl rfl) mb_X8_partOf ms_RX10_298 rfl rfl (Nat.le_of_ble_eq_true rfl) (s_X8_partOf l h p1 p2 (p3 / 100) (p3 % 100) s0 (by omega) (by omega) (by omega) (by omega)) (rm_ok (by decide) (by decide)) (zq_i fun v21 h22 q20 => ?_)
                obtain ⟨rfl, b23⟩ := q20
                refine zj_goto (t := 63) (zdk ttX10_part 32 rfl rfl) (by decide) ?_
                exact zj_iret rfl (zdk ttX10_part 34 rfl rfl) (Nat.le_refl _) (Nat.le_refl _) ⟨v21, rfl, by omega, s0, (zfC_r _ _)⟩
          · refine zj_iload_n (zdk ttX10_part 14 rfl rfl) rfl ?_
            refine zj_iload_n (zdk ttX10_part 15 rfl rfl) rfl ?_
            refine zj_callS (av := [.inl p1, .inl p2]) (st := []) (zdk ttX10_part 16 rfl rfl) mb_X8_quotients ms_RX10_295 rfl rfl (Nat.le_of_ble_eq_true rfl) (s_X8_quotients l h p1 p2 s0 (by omega) (by omega)) (rm_ok (by decide) (by decide)) (zq_i fun v25 h26 q24 => ?_)
            obtain ⟨rfl, b27⟩ := q24
            exact zj_iret rfl (zdk ttX10_part 17 rfl rfl) (Nat.le_refl _) (Nat.le_refl _) ⟨v25, rfl, by omega, s0, (zfC_r _ _)⟩
        · exact absurd c12 (by omega)

abbrev tX10_bells : List (Nat × Instr × Nat) := [(0, .iload_n 1, 1), (1, .iconst 3, 1), (2, .bipush 8, 2), (4, .invokestatic 77, 3), (7, .ifCond .eq 25, 3), (10, .iload_n 2, 1), (11, .iconst 0, 1), (12, .ldc_w 302, 3), (15, .invokestatic 77, 3), (18, .ifCond .eq 14, 3), (21, .iload_n 3, 1), (22, .iconst (-1), 1), (23, .iload_n 1, 1), (24, .iconst 1, 1), (25, .isub, 1), (26, .invokestatic 77, 3), (29, .ifCond .ne 5, 3), (32, .iconst (-1), 1), (33, .ireturn, 1), (34, .iload_n 3, 1), (35, .iconst (-1), 1), (36, .if_icmp .ne 14, 3), (39, .aload_n 0, 1), (40, .getfield 41, 3), (43, .iload_n 1, 1), (44, .invokevirtual 303, 3), (47, .goto 13, 3), (50, .aload_n 0, 1), (51, .getfield 41, 3), (54, .iload_n 1, 1), (55, .iload_n 2, 1), (56, .iload_n 3, 1), (57, .invokevirtual 306, 3), (60, .ireturn, 1)]
theorem ttX10_bells : zdt cX10_bells tX10_bells = true := by decide +kernel
abbrev w_X10_bells (a b : Int) : Prop := a = 110
abbrev q_X10_bells (h : zM) (p1 : Int) (p2 : Int) (p3 : Int) : Option zV → zM → Prop := zqi fun v h' => ((-2147483648) ≤ v ∧ v ≤ 2147483647) ∧ okC h' ∧ zfC w_X10_bells h h'
set_option maxRecDepth 100000 in
set_option maxHeartbeats 4000000 in
theorem s_X10_bells (l : Launch) (h : zM) (p1 : Int) (p2 : Int) (p3 : Int) (s0 : okC h) (b_p1 : (-2147483648) ≤ p1 ∧ p1 ≤ 2147483647) (b_p2 : (-2147483648) ≤ p2 ∧ p2 ≤ 2147483647) (b_p3 : (-2147483648) ≤ p3 ∧ p3 ≤ 2147483647) : zT shC l yX10_bells cX10_bells 4 (some .int) (rmL 3) 0 0 [.inr 0, .inl p1, .inl p2, .inl p3] h (q_X10_bells h p1 p2 p3) := by
  refine zT_of (by decide +kernel) (L0 := [some (.inr 0), some (.inl p1), some (.inl p2), some (.inl p3)]) rfl (Nat.le_of_ble_eq_true rfl) ?_
  refine zj_iload_n (zdk ttX10_bells 0 rfl rfl) rfl ?_
  refine zj_iconst (zdk ttX10_bells 1 rfl rfl) ?_
  refine zj_bipush (zdk ttX10_bells 2 rfl rfl) (by decide) ?_
  refine zj_callS (av := [.inl p1, .inl 3, .inl 8]) (st := []) (zdk ttX10_bells 3 rfl rfl) mb_X10_within ms_RX10_77 rfl rfl (Nat.le_of_ble_eq_true rfl) (s_X10_within l h p1 3 8 s0 (by omega) (by omega) (by omega)) (rm_ok (by decide) (by decide)) (zq_i fun v2 h3 q1 => ?_)
  obtain ⟨rfl, ⟨rfl, b4⟩ | ⟨rfl, b4⟩⟩ := q1
  · refine zj_if_eq (t := 32) (zdk ttX10_bells 4 rfl rfl) (by decide) (by decide) (fun c5 => ?_) (fun c5 => ?_)
    · refine zj_iconst (zdk ttX10_bells 17 rfl rfl) ?_
      exact zj_iret rfl (zdk ttX10_bells 18 rfl rfl) (Nat.le_refl _) (Nat.le_refl _) ⟨(-1), rfl, by omega, s0, (zfC_r _ _)⟩
    · exact absurd c5 (by omega)
  · refine zj_if_eq (t := 32) (zdk ttX10_bells 4 rfl rfl) (by decide) (by decide) (fun c6 => ?_) (fun c6 => ?_)
    · exact absurd c6 (by omega)
    · refine zj_iload_n (zdk ttX10_bells 5 rfl rfl) rfl ?_
      refine zj_iconst (zdk ttX10_bells 6 rfl rfl) ?_
      refine zj_ldc_w (z := 1000000) (zdk ttX10_bells 7 rfl rfl) wc_RX10_302 ?_
      refine zj_callS (av := [.inl p2, .inl 0, .inl 1000000]) (st := []) (zdk ttX10_bells 8 rfl rfl) mb_X10_within ms_RX10_77 rfl rfl (Nat.le_of_ble_eq_true rfl) (s_X10_within l h p2 0 1000000 s0 (by omega) (by omega) (by omega)) (rm_ok (by decide) (by decide)) (zq_i fun v8 h9 q7 => ?_)
      obtain ⟨rfl, ⟨rfl, b10⟩ | ⟨rfl, b10⟩⟩ := q7
      · refine zj_if_eq (t := 32) (zdk ttX10_bells 9 rfl rfl) (by decide) (by decide) (fun c11 => ?_) (fun c11 => ?_)
        · refine zj_iconst (zdk ttX10_bells 17 rfl rfl) ?_
          exact zj_iret rfl (zdk ttX10_bells 18 rfl rfl) (Nat.le_refl _) (Nat.le_refl _) ⟨(-1), rfl, by omega, s0, (zfC_r _ _)⟩
        · exact absurd c11 (by omega)
      · refine zj_if_eq (t := 32) (zdk ttX10_bells 9 rfl rfl) (by decide) (by decide) (fun c12 => ?_) (fun c12 => ?_)
        · exact absurd c12 (by omega)
        · refine zj_iload_n (zdk ttX10_bells 10 rfl rfl) rfl ?_
          refine zj_iconst (zdk ttX10_bells 11 rfl rfl) ?_
          refine zj_iload_n (zdk ttX10_bells 12 rfl rfl) rfl ?_
          refine zj_iconst (zdk ttX10_bells 13 rfl rfl) ?_
          refine zj_isub (zdk ttX10_bells 14 rfl rfl) ?_
          refine zj_callS (av := [.inl p3, .inl (-1), .inl (p1 - 1)]) (st := []) (zdk ttX10_bells 15 rfl rfl) mb_X10_within ms_RX10_77 rfl rfl (Nat.le_of_ble_eq_true rfl) (s_X10_within l h p3 (-1) (p1 - 1) s0 (by omega) (by omega) (by omega)) (rm_ok (by decide) (by decide)) (zq_i fun v14 h15 q13 => ?_)
          obtain ⟨rfl, ⟨rfl, b16⟩ | ⟨rfl, b16⟩⟩ := q13
          · refine zj_if_ne (t := 34) (zdk ttX10_bells 16 rfl rfl) (by decide) (by decide) (fun c17 => ?_) (fun c17 => ?_)
            · exact absurd c17 (by omega)
            · refine zj_iconst (zdk ttX10_bells 17 rfl rfl) ?_
              exact zj_iret rfl (zdk ttX10_bells 18 rfl rfl) (Nat.le_refl _) (Nat.le_refl _) ⟨(-1), rfl, by omega, s0, (zfC_r _ _)⟩
          · refine zj_if_ne (t := 34) (zdk ttX10_bells 16 rfl rfl) (by decide) (by decide) (fun c18 => ?_) (fun c18 => ?_)
            · refine zj_iload_n (zdk ttX10_bells 19 rfl rfl) rfl ?_
              refine zj_iconst (zdk ttX10_bells 20 rfl rfl) ?_
              refine zj_icmp_ne (t := 50) (zdk ttX10_bells 21 rfl rfl) (by decide) (by omega) (by decide) (fun c19 => ?_) (fun c19 => ?_)
              · refine zj_aload_n (zdk ttX10_bells 27 rfl rfl) rfl (by decide) ?_
                refine zj_getr (r := 108) (zdk ttX10_bells 28 rfl rfl) zf_RX10_41 rfl (k_L0 s0) (rf_L0_5 s0) ?_
                refine zj_iload_n (zdk ttX10_bells 29 rfl rfl) rfl ?_
                refine zj_iload_n (zdk ttX10_bells 30 rfl rfl) rfl ?_
                refine zj_iload_n (zdk ttX10_bells 31 rfl rfl) rfl ?_
                refine zj_callV (av := [.inl p1, .inl p2, .inl p3]) (st := []) (zdk ttX10_bells 32 rfl rfl) mb_X8_bellAt mv_RX10_306 (ci := 8) rfl rfl (k_L108 s0) rfl rfl (Nat.le_of_ble_eq_true rfl) (s_X8_bellAt l h p1 p2 p3 s0 (by omega) (by omega) (by omega)) (rm_ok (by decide) (by decide)) (zq_i fun v21 h22 q20 => ?_)
                obtain ⟨b23, s24, f25⟩ := q20
                have f26 : zfC w_X10_bells h h22 := zfC_t (zfC_r _ _) f25 (fun a9 b9 z9 => by
                  exact z9)
                exact zj_iret rfl (zdk ttX10_bells 33 rfl rfl) (Nat.le_refl _) (Nat.le_refl _) ⟨v21, rfl, by omega, s24, f26⟩
              · refine zj_aload_n (zdk ttX10_bells 22 rfl rfl) rfl (by decide) ?_
                refine zj_getr (r := 108) (zdk ttX10_bells 23 rfl rfl) zf_RX10_41 rfl (k_L0 s0) (rf_L0_5 s0) ?_
                refine zj_iload_n (zdk ttX10_bells 24 rfl rfl) rfl ?_
                refine zj_callV (av := [.inl p1]) (st := []) (zdk ttX10_bells 25 rfl rfl) mb_X8_changesTillInOrder mv_RX10_303 (ci := 8) rfl rfl (k_L108 s0) rfl rfl (Nat.le_of_ble_eq_true rfl) (s_X8_changesTillInOrder l h p1 s0 (by omega)) (rm_ok (by decide) (by decide)) (zq_i fun v28 h29 q27 => ?_)
                obtain ⟨b30, s31, f32⟩ := q27
                refine zj_goto (t := 60) (zdk ttX10_bells 26 rfl rfl) (by decide) ?_
                have f33 : zfC w_X10_bells h h29 := zfC_t (zfC_r _ _) f32 (fun a9 b9 z9 => by
                  exact z9)
                exact zj_iret rfl (zdk ttX10_bells 33 rfl rfl) (Nat.le_refl _) (Nat.le_refl _) ⟨v28, rfl, by omega, s31, f33⟩
            · exact absurd c18 (by omega)

abbrev tX10_against : List (Nat × Instr × Nat) := [(0, .iload_n 1, 1), (1, .iconst 2, 1), (2, .bipush 16, 2), (4, .invokestatic 77, 3), (7, .ifCond .eq 25, 3), (10, .iload_n 2, 1), (11, .iconst 0, 1), (12, .sipush 999, 3), (15, .invokestatic 77, 3), (18, .ifCond .eq 14, 3), (21, .iload_n 3, 1), (22, .iconst 0, 1), (23, .iload_n 1, 1), (24, .iconst 1, 1), (25, .isub, 1), (26, .invokestatic 77, 3), (29, .ifCond .ne 5, 3), (32, .iconst (-1), 1), (33, .ireturn, 1), (34, .iload_n 1, 1), (35, .iload_n 2, 1), (36, .iload_n 3, 1), (37, .invokestatic 309, 3), (40, .ireturn, 1)]
theorem ttX10_against : zdt cX10_against tX10_against = true := by decide +kernel
abbrev w_X10_against (a b : Int) : Prop := False
abbrev q_X10_against (h : zM) (p1 : Int) (p2 : Int) (p3 : Int) : Option zV → zM → Prop := zqi fun v h' => ((-2147483648) ≤ v ∧ v ≤ 2147483647) ∧ okC h' ∧ zfC w_X10_against h h'
set_option maxRecDepth 100000 in
set_option maxHeartbeats 4000000 in
theorem s_X10_against (l : Launch) (h : zM) (p1 : Int) (p2 : Int) (p3 : Int) (s0 : okC h) (b_p1 : (-2147483648) ≤ p1 ∧ p1 ≤ 2147483647) (b_p2 : (-2147483648) ≤ p2 ∧ p2 ≤ 2147483647) (b_p3 : (-2147483648) ≤ p3 ∧ p3 ≤ 2147483647) : zT shC l yX10_against cX10_against 4 (some .int) (rmL 3) 0 0 [.inr 0, .inl p1, .inl p2, .inl p3] h (q_X10_against h p1 p2 p3) := by
  refine zT_of (by decide +kernel) (L0 := [some (.inr 0), some (.inl p1), some (.inl p2), some (.inl p3)]) rfl (Nat.le_of_ble_eq_true rfl) ?_
  refine zj_iload_n (zdk ttX10_against 0 rfl rfl) rfl ?_
  refine zj_iconst (zdk ttX10_against 1 rfl rfl) ?_
  refine zj_bipush (zdk ttX10_against 2 rfl rfl) (by decide) ?_
  refine zj_callS (av := [.inl p1, .inl 2, .inl 16]) (st := []) (zdk ttX10_against 3 rfl rfl) mb_X10_within ms_RX10_77 rfl rfl (Nat.le_of_ble_eq_true rfl) (s_X10_within l h p1 2 16 s0 (by omega) (by omega) (by omega)) (rm_ok (by decide) (by decide)) (zq_i fun v2 h3 q1 => ?_)
  obtain ⟨rfl, ⟨rfl, b4⟩ | ⟨rfl, b4⟩⟩ := q1
  · refine zj_if_eq (t := 32) (zdk ttX10_against 4 rfl rfl) (by decide) (by decide) (fun c5 => ?_) (fun c5 => ?_)
    · refine zj_iconst (zdk ttX10_against 17 rfl rfl) ?_
      exact zj_iret rfl (zdk ttX10_against 18 rfl rfl) (Nat.le_refl _) (Nat.le_refl _) ⟨(-1), rfl, by omega, s0, (zfC_r _ _)⟩
    · exact absurd c5 (by omega)
  · refine zj_if_eq (t := 32) (zdk ttX10_against 4 rfl rfl) (by decide) (by decide) (fun c6 => ?_) (fun c6 => ?_)
    · exact absurd c6 (by omega)
    · refine zj_iload_n (zdk ttX10_against 5 rfl rfl) rfl ?_
      refine zj_iconst (zdk ttX10_against 6 rfl rfl) ?_
      refine zj_sipush (zdk ttX10_against 7 rfl rfl) (by decide) ?_
      refine zj_callS (av := [.inl p2, .inl 0, .inl 999]) (st := []) (zdk ttX10_against 8 rfl rfl) mb_X10_within ms_RX10_77 rfl rfl (Nat.le_of_ble_eq_true rfl) (s_X10_within l h p2 0 999 s0 (by omega) (by omega) (by omega)) (rm_ok (by decide) (by decide)) (zq_i fun v8 h9 q7 => ?_)
      obtain ⟨rfl, ⟨rfl, b10⟩ | ⟨rfl, b10⟩⟩ := q7
      · refine zj_if_eq (t := 32) (zdk ttX10_against 9 rfl rfl) (by decide) (by decide) (fun c11 => ?_) (fun c11 => ?_)
        · refine zj_iconst (zdk ttX10_against 17 rfl rfl) ?_
          exact zj_iret rfl (zdk ttX10_against 18 rfl rfl) (Nat.le_refl _) (Nat.le_refl _) ⟨(-1), rfl, by omega, s0, (zfC_r _ _)⟩
        · exact absurd c11 (by omega)
      · refine zj_if_eq (t := 32) (zdk ttX10_against 9 rfl rfl) (by decide) (by decide) (fun c12 => ?_) (fun c12 => ?_)
        · exact absurd c12 (by omega)
        · refine zj_iload_n (zdk ttX10_against 10 rfl rfl) rfl ?_
          refine zj_iconst (zdk ttX10_against 11 rfl rfl) ?_
          refine zj_iload_n (zdk ttX10_against 12 rfl rfl) rfl ?_
          refine zj_iconst (zdk ttX10_against 13 rfl rfl) ?_
          refine zj_isub (zdk ttX10_against 14 rfl rfl) ?_
          refine zj_callS (av := [.inl p3, .inl 0, .inl (p1 - 1)]) (st := []) (zdk ttX10_against 15 rfl rfl) mb_X10_within ms_RX10_77 rfl rfl (Nat.le_of_ble_eq_true rfl) (s_X10_within l h p3 0 (p1 - 1) s0 (by omega) (by omega) (by omega)) (rm_ok (by decide) (by decide)) (zq_i fun v14 h15 q13 => ?_)
          obtain ⟨rfl, ⟨rfl, b16⟩ | ⟨rfl, b16⟩⟩ := q13
          · refine zj_if_ne (t := 34) (zdk ttX10_against 16 rfl rfl) (by decide) (by decide) (fun c17 => ?_) (fun c17 => ?_)
            · exact absurd c17 (by omega)
            · refine zj_iconst (zdk ttX10_against 17 rfl rfl) ?_
              exact zj_iret rfl (zdk ttX10_against 18 rfl rfl) (Nat.le_refl _) (Nat.le_refl _) ⟨(-1), rfl, by omega, s0, (zfC_r _ _)⟩
          · refine zj_if_ne (t := 34) (zdk ttX10_against 16 rfl rfl) (by decide) (by decide) (fun c18 => ?_) (fun c18 => ?_)
            · refine zj_iload_n (zdk ttX10_against 19 rfl rfl) rfl ?_
              refine zj_iload_n (zdk ttX10_against 20 rfl rfl) rfl ?_
              refine zj_iload_n (zdk ttX10_against 21 rfl rfl) rfl ?_
              refine zj_callS (av := [.inl p1, .inl p2, .inl p3]) (st := []) (zdk ttX10_against 22 rfl rfl) mb_X8_opponent ms_RX10_309 rfl rfl (Nat.le_of_ble_eq_true rfl) (s_X8_opponent l h p1 p2 p3 s0 (by omega) (by omega) (by omega)) (rm_ok (by decide) (by decide)) (zq_i fun v20 h21 q19 => ?_)
              obtain ⟨rfl, b22⟩ := q19
              exact zj_iret rfl (zdk ttX10_against 23 rfl rfl) (Nat.le_refl _) (Nat.le_refl _) ⟨v20, rfl, by omega, s0, (zfC_r _ _)⟩
            · exact absurd c18 (by omega)

abbrev tX10_calendar : List (Nat × Instr × Nat) := [(0, .iload_n 1, 1), (1, .sipush 1000, 3), (4, .idiv, 1), (5, .istore 4, 2), (7, .iload_n 1, 1), (8, .sipush 1000, 3), (11, .irem, 1), (12, .istore 5, 2), (14, .iload 5, 2), (16, .iconst 1, 1), (17, .sipush 400, 3), (20, .invokestatic 77, 3), (23, .ifCond .eq 27, 3), (26, .iload 4, 2), (28, .iconst 0, 1), (29, .iload 5, 2), (31, .iconst 1, 1), (32, .isub, 1), (33, .invokestatic 77, 3), (36, .ifCond .eq 14, 3), (39, .iload_n 2, 1), (40, .iconst 0, 1), (41, .sipush 9999, 3), (44, .invokestatic 77, 3), (47, .ifCond .ne 5, 3), (50, .iconst (-1), 1), (51, .ireturn, 1), (52, .iload_n 3, 1), (53, .lookupswitch 61 #[(0, 27), (1, 35)], 27), (80, .iload_n 2, 1), (81, .iload 4, 2), (83, .imul, 1), (84, .iload 5, 2), (86, .idiv, 1), (87, .ireturn, 1), (88, .iload_n 2, 1), (89, .ifCond .ne 7, 3), (92, .iconst 0, 1), (93, .goto 20, 3), (96, .iload_n 2, 1), (97, .iload 4, 2), (99, .imul, 1), (100, .iload 5, 2), (102, .idiv, 1), (103, .iload_n 2, 1), (104, .iconst 1, 1), (105, .isub, 1), (106, .iload 4, 2), (108, .imul, 1), (109, .iload 5, 2), (111, .idiv, 1), (112, .isub, 1), (113, .ireturn, 1), (114, .iconst (-1), 1), (115, .ireturn, 1)]
theorem ttX10_calendar : zdt cX10_calendar tX10_calendar = true := by decide +kernel
abbrev w_X10_calendar (a b : Int) : Prop := False
abbrev q_X10_calendar (h : zM) (p1 : Int) (p2 : Int) (p3 : Int) : Option zV → zM → Prop := zqi fun v h' => ((-2147483648) ≤ v ∧ v ≤ 2147483647) ∧ okC h' ∧ zfC w_X10_calendar h h'
set_option maxRecDepth 100000 in
set_option maxHeartbeats 4000000 in
theorem s_X10_calendar (l : Launch) (h : zM) (p1 : Int) (p2 : Int) (p3 : Int) (s0 : okC h) (b_p1 : (-2147483648) ≤ p1 ∧ p1 ≤ 2147483647) (b_p2 : (-2147483648) ≤ p2 ∧ p2 ≤ 2147483647) (b_p3 : (-2147483648) ≤ p3 ∧ p3 ≤ 2147483647) : zT shC l yX10_calendar cX10_calendar 6 (some .int) (rmL 2) 0 0 [.inr 0, .inl p1, .inl p2, .inl p3] h (q_X10_calendar h p1 p2 p3) := by
  refine zT_of (by decide +kernel) (L0 := [some (.inr 0), some (.inl p1), some (.inl p2), some (.inl p3), none, none]) rfl (Nat.le_of_ble_eq_true rfl) ?_
  refine zj_iload_n (zdk ttX10_calendar 0 rfl rfl) rfl ?_
  refine zj_sipush (zdk ttX10_calendar 1 rfl rfl) (by decide) ?_
  refine zj_idiv (zdk ttX10_calendar 2 rfl rfl) (by omega) (by decide) (by omega) ?_
  have b1 := ztd_c p1 1000 (by decide)
  refine zj_istore (L' := [some (.inr 0), some (.inl p1), some (.inl p2), some (.inl p3), some (.inl (p1.tdiv 1000)), none]) (zdk ttX10_calendar 3 rfl rfl) (by decide) rfl ?_
  refine zj_iload_n (zdk ttX10_calendar 4 rfl rfl) rfl ?_
  refine zj_sipush (zdk ttX10_calendar 5 rfl rfl) (by decide) ?_
  refine zj_irem (zdk ttX10_calendar 6 rfl rfl) (by omega) (by decide) (by omega) ?_
  have b2 := ztm_c p1 1000 (by decide)
  refine zj_istore (L' := [some (.inr 0), some (.inl p1), some (.inl p2), some (.inl p3), some (.inl (p1.tdiv 1000)), some (.inl (p1.tmod 1000))]) (zdk ttX10_calendar 7 rfl rfl) (by decide) rfl ?_
  refine zj_iload (zdk ttX10_calendar 8 rfl rfl) rfl ?_
  refine zj_iconst (zdk ttX10_calendar 9 rfl rfl) ?_
  refine zj_sipush (zdk ttX10_calendar 10 rfl rfl) (by decide) ?_
  refine zj_callS (av := [.inl (p1.tmod 1000), .inl 1, .inl 400]) (st := []) (zdk ttX10_calendar 11 rfl rfl) mb_X10_within ms_RX10_77 rfl rfl (Nat.le_of_ble_eq_true rfl) (s_X10_within l h (p1.tmod 1000) 1 400 s0 (by omega) (by omega) (by omega)) (rm_ok (by decide) (by decide)) (zq_i fun v4 h5 q3 => ?_)
  obtain ⟨rfl, ⟨rfl, b6⟩ | ⟨rfl, b6⟩⟩ := q3
  · refine zj_if_eq (t := 50) (zdk ttX10_calendar 12 rfl rfl) (by decide) (by decide) (fun c7 => ?_) (fun c7 => ?_)
    · refine zj_iconst (zdk ttX10_calendar 25 rfl rfl) ?_
      exact zj_iret rfl (zdk ttX10_calendar 26 rfl rfl) (Nat.le_refl _) (Nat.le_refl _) ⟨(-1), rfl, by omega, s0, (zfC_r _ _)⟩
    · exact absurd c7 (by omega)
  · refine zj_if_eq (t := 50) (zdk ttX10_calendar 12 rfl rfl) (by decide) (by decide) (fun c8 => ?_) (fun c8 => ?_)
    · exact absurd c8 (by omega)
    · refine zj_iload (zdk ttX10_calendar 13 rfl rfl) rfl ?_
      refine zj_iconst (zdk ttX10_calendar 14 rfl rfl) ?_
      refine zj_iload (zdk ttX10_calendar 15 rfl rfl) rfl ?_
      refine zj_iconst (zdk ttX10_calendar 16 rfl rfl) ?_
      refine zj_isub (zdk ttX10_calendar 17 rfl rfl) ?_
      refine zj_callS (av := [.inl (p1.tdiv 1000), .inl 0, .inl ((p1.tmod 1000) - 1)]) (st := []) (zdk ttX10_calendar 18 rfl rfl) mb_X10_within ms_RX10_77 rfl rfl (Nat.le_of_ble_eq_true rfl) (s_X10_within l h (p1.tdiv 1000) 0 ((p1.tmod 1000) - 1) s0 (by omega) (by omega) (by omega)) (rm_ok (by decide) (by decide)) (zq_i fun v10 h11 q9 => ?_)
      obtain ⟨rfl, ⟨rfl, b12⟩ | ⟨rfl, b12⟩⟩ := q9
      · refine zj_if_eq (t := 50) (zdk ttX10_calendar 19 rfl rfl) (by decide) (by decide) (fun c13 => ?_) (fun c13 => ?_)
        · refine zj_iconst (zdk ttX10_calendar 25 rfl rfl) ?_
          exact zj_iret rfl (zdk ttX10_calendar 26 rfl rfl) (Nat.le_refl _) (Nat.le_refl _) ⟨(-1), rfl, by omega, s0, (zfC_r _ _)⟩
        · exact absurd c13 (by omega)
      · refine zj_if_eq (t := 50) (zdk ttX10_calendar 19 rfl rfl) (by decide) (by decide) (fun c14 => ?_) (fun c14 => ?_)
        · exact absurd c14 (by omega)
        · refine zj_iload_n (zdk ttX10_calendar 20 rfl rfl) rfl ?_
          refine zj_iconst (zdk ttX10_calendar 21 rfl rfl) ?_
          refine zj_sipush (zdk ttX10_calendar 22 rfl rfl) (by decide) ?_
          refine zj_callS (av := [.inl p2, .inl 0, .inl 9999]) (st := []) (zdk ttX10_calendar 23 rfl rfl) mb_X10_within ms_RX10_77 rfl rfl (Nat.le_of_ble_eq_true rfl) (s_X10_within l h p2 0 9999 s0 (by omega) (by omega) (by omega)) (rm_ok (by decide) (by decide)) (zq_i fun v16 h17 q15 => ?_)
          obtain ⟨rfl, ⟨rfl, b18⟩ | ⟨rfl, b18⟩⟩ := q15
          · refine zj_if_ne (t := 52) (zdk ttX10_calendar 24 rfl rfl) (by decide) (by decide) (fun c19 => ?_) (fun c19 => ?_)
            · exact absurd c19 (by omega)
            · refine zj_iconst (zdk ttX10_calendar 25 rfl rfl) ?_
              exact zj_iret rfl (zdk ttX10_calendar 26 rfl rfl) (Nat.le_refl _) (Nat.le_refl _) ⟨(-1), rfl, by omega, s0, (zfC_r _ _)⟩
          · refine zj_if_ne (t := 52) (zdk ttX10_calendar 24 rfl rfl) (by decide) (by decide) (fun c20 => ?_) (fun c20 => ?_)
            · refine zj_iload_n (zdk ttX10_calendar 27 rfl rfl) rfl ?_
              have k22 : (¬ p3 = 0 ∧ ¬ p3 = 1) → zJ shC l yX10_calendar cX10_calendar 6 (some .int) (rmL 2) 0 0 (q_X10_calendar h p1 p2 p3) 0 0 114 [some (.inr 0), some (.inl p1), some (.inl p2), some (.inl p3), some (.inl (p1.tdiv 1000)), some (.inl (p1.tmod 1000))] [] h := by
                intro c21
                refine zj_iconst (zdk ttX10_calendar 53 rfl rfl) ?_
                exact zj_iret rfl (zdk ttX10_calendar 54 rfl rfl) (Nat.le_refl _) (Nat.le_refl _) ⟨(-1), rfl, by omega, s0, (zfC_r _ _)⟩
              have k23 : p3 = 0 → zJ shC l yX10_calendar cX10_calendar 6 (some .int) (rmL 2) 0 0 (q_X10_calendar h p1 p2 p3) 0 0 80 [some (.inr 0), some (.inl p1), some (.inl p2), some (.inl p3), some (.inl (p1.tdiv 1000)), some (.inl (p1.tmod 1000))] [] h := by
                intro c21
                refine zj_iload_n (zdk ttX10_calendar 29 rfl rfl) rfl ?_
                refine zj_iload (zdk ttX10_calendar 30 rfl rfl) rfl ?_
                refine zj_imul (zdk ttX10_calendar 31 rfl rfl) ?_
                have b24 : 0 ≤ (p2 * (p1.tdiv 1000)) ∧ (p2 * (p1.tdiv 1000)) ≤ 3989601 := zmul_b (a := 0) (b := 9999) (c := 0) (d := 399) (by omega) (by omega) (by decide)
                refine zj_iload (zdk ttX10_calendar 32 rfl rfl) rfl ?_
                refine zj_idivP (zdk ttX10_calendar 33 rfl rfl) (by omega) (by omega) ?_
                have b25 := zdiv_b (x := (p2 * (p1.tdiv 1000))) (b := (p1.tmod 1000)) (by omega) (by omega)
                exact zj_iret rfl (zdk ttX10_calendar 34 rfl rfl) (Nat.le_refl _) (Nat.le_refl _) ⟨((p2 * (p1.tdiv 1000)) / (p1.tmod 1000)), rfl, by omega, s0, (zfC_r _ _)⟩
              have k26 : p3 = 1 → zJ shC l yX10_calendar cX10_calendar 6 (some .int) (rmL 2) 0 0 (q_X10_calendar h p1 p2 p3) 0 0 88 [some (.inr 0), some (.inl p1), some (.inl p2), some (.inl p3), some (.inl (p1.tdiv 1000)), some (.inl (p1.tmod 1000))] [] h := by
                intro c21
                refine zj_iload_n (zdk ttX10_calendar 35 rfl rfl) rfl ?_
                refine zj_if_ne (t := 96) (zdk ttX10_calendar 36 rfl rfl) (by decide) (by omega) (fun c27 => ?_) (fun c27 => ?_)
                · refine zj_iload_n (zdk ttX10_calendar 39 rfl rfl) rfl ?_
                  refine zj_iload (zdk ttX10_calendar 40 rfl rfl) rfl ?_
                  refine zj_imul (zdk ttX10_calendar 41 rfl rfl) ?_
                  have b28 : 0 ≤ (p2 * (p1.tdiv 1000)) ∧ (p2 * (p1.tdiv 1000)) ≤ 3989601 := zmul_b (a := 1) (b := 9999) (c := 0) (d := 399) (by omega) (by omega) (by decide)
                  refine zj_iload (zdk ttX10_calendar 42 rfl rfl) rfl ?_
                  refine zj_idivP (zdk ttX10_calendar 43 rfl rfl) (by omega) (by omega) ?_
                  have b29 := zdiv_b (x := (p2 * (p1.tdiv 1000))) (b := (p1.tmod 1000)) (by omega) (by omega)
                  refine zj_iload_n (zdk ttX10_calendar 44 rfl rfl) rfl ?_
                  refine zj_iconst (zdk ttX10_calendar 45 rfl rfl) ?_
                  refine zj_isub (zdk ttX10_calendar 46 rfl rfl) ?_
                  refine zj_iload (zdk ttX10_calendar 47 rfl rfl) rfl ?_
                  refine zj_imul (zdk ttX10_calendar 48 rfl rfl) ?_
                  have b30 : 0 ≤ ((p2 - 1) * (p1.tdiv 1000)) ∧ ((p2 - 1) * (p1.tdiv 1000)) ≤ 3989202 := zmul_b (a := 0) (b := 9998) (c := 0) (d := 399) (by omega) (by omega) (by decide)
                  refine zj_iload (zdk ttX10_calendar 49 rfl rfl) rfl ?_
                  refine zj_idivP (zdk ttX10_calendar 50 rfl rfl) (by omega) (by omega) ?_
                  have b31 := zdiv_b (x := ((p2 - 1) * (p1.tdiv 1000))) (b := (p1.tmod 1000)) (by omega) (by omega)
                  refine zj_isub (zdk ttX10_calendar 51 rfl rfl) ?_
                  exact zj_iret rfl (zdk ttX10_calendar 52 rfl rfl) (Nat.le_refl _) (Nat.le_refl _) ⟨(((p2 * (p1.tdiv 1000)) / (p1.tmod 1000)) - (((p2 - 1) * (p1.tdiv 1000)) / (p1.tmod 1000))), rfl, by omega, s0, (zfC_r _ _)⟩
                · refine zj_iconst (zdk ttX10_calendar 37 rfl rfl) ?_
                  refine zj_goto (t := 113) (zdk ttX10_calendar 38 rfl rfl) (by decide) ?_
                  exact zj_iret rfl (zdk ttX10_calendar 52 rfl rfl) (Nat.le_refl _) (Nat.le_refl _) ⟨0, rfl, by omega, s0, (zfC_r _ _)⟩
              by_cases z32 : p3 = 0
              · exact zj_lookup (t := 80) (zdk ttX10_calendar 28 rfl rfl) (by omega) rfl (by rw [z32] <;> rfl) (by decide) (k23 z32)
              by_cases z33 : p3 = 1
              · exact zj_lookup (t := 88) (zdk ttX10_calendar 28 rfl rfl) (by omega) rfl (by rw [z33] <;> rfl) (by decide) (k26 z33)
              exact zj_lookup (t := 114) (zdk ttX10_calendar 28 rfl rfl) (by omega) rfl (by show Op.lookupswitch.offset [(0, 27), (1, 35)] 61 p3 = _; rw [Op.lookupswitch.offset_cons, if_neg (by omega), Op.lookupswitch.offset_cons, if_neg (by omega), Op.lookupswitch.offset_nil]) (by decide) (k22 (by omega))
            · exact absurd c20 (by omega)

abbrev tX10_rope : List (Nat × Instr × Nat) := [(0, .iload_n 1, 1), (1, .iconst 0, 1), (2, .bipush 20, 2), (4, .invokestatic 77, 3), (7, .ifCond .eq 13, 3), (10, .iload_n 2, 1), (11, .iconst 1, 1), (12, .bipush 9, 2), (14, .invokestatic 77, 3), (17, .ifCond .ne 5, 3), (20, .iconst (-1), 1), (21, .ireturn, 1), (22, .iconst 1, 1), (23, .iload_n 1, 1), (24, .ishl, 1), (25, .istore 4, 2), (27, .iload_n 3, 1), (28, .lookupswitch 40 #[(0, 28), (1, 35)], 28), (56, .iload_n 2, 1), (57, .iload 4, 2), (59, .imul, 1), (60, .iconst 1, 1), (61, .iadd, 1), (62, .ireturn, 1), (63, .iload 4, 2), (65, .iconst 1, 1), (66, .isub, 1), (67, .ireturn, 1), (68, .iconst (-1), 1), (69, .ireturn, 1)]
theorem ttX10_rope : zdt cX10_rope tX10_rope = true := by decide +kernel
abbrev q_X10_rope (h : zM) (p1 : Int) (p2 : Int) (p3 : Int) : Option zV → zM → Prop := zqi fun v h' => h = h' ∧ ((v = (-1) ∧ ((((p1 < 0) ∨ (0 ≤ p1 ∧ 20 < p1)) ∧ 0 = 0) ∨ ((0 ≤ p1 ∧ p1 ≤ 20) ∧ ¬ 1 = 0 ∧ ((p2 < 1) ∨ (1 ≤ p2 ∧ 9 < p2)) ∧ 0 = 0) ∨ ((0 ≤ p1 ∧ p1 ≤ 20) ∧ ¬ 1 = 0 ∧ (1 ≤ p2 ∧ p2 ≤ 9) ∧ ¬ 1 = 0 ∧ (¬ p3 = 0 ∧ ¬ p3 = 1)))) ∨ (((0 ≤ p1 ∧ p1 ≤ 20) ∧ ¬ 1 = 0 ∧ (1 ≤ p2 ∧ p2 ≤ 9) ∧ ¬ 1 = 0 ∧ p3 = 0) ∧ v = ((p2 * (zshl 1 p1)) + 1) ∧ 2 ≤ v ∧ v ≤ 9437185) ∨ (((0 ≤ p1 ∧ p1 ≤ 20) ∧ ¬ 1 = 0 ∧ (1 ≤ p2 ∧ p2 ≤ 9) ∧ ¬ 1 = 0 ∧ p3 = 1) ∧ v = ((zshl 1 p1) - 1) ∧ 0 ≤ v ∧ v ≤ 1048575))
set_option maxRecDepth 100000 in
set_option maxHeartbeats 4000000 in
theorem s_X10_rope (l : Launch) (h : zM) (p1 : Int) (p2 : Int) (p3 : Int) (s0 : okC h) (b_p1 : (-2147483648) ≤ p1 ∧ p1 ≤ 2147483647) (b_p2 : (-2147483648) ≤ p2 ∧ p2 ≤ 2147483647) (b_p3 : (-2147483648) ≤ p3 ∧ p3 ≤ 2147483647) : zT shC l yX10_rope cX10_rope 5 (some .int) (rmL 2) 0 0 [.inr 0, .inl p1, .inl p2, .inl p3] h (q_X10_rope h p1 p2 p3) := by
  refine zT_of (by decide +kernel) (L0 := [some (.inr 0), some (.inl p1), some (.inl p2), some (.inl p3), none]) rfl (Nat.le_of_ble_eq_true rfl) ?_
  refine zj_iload_n (zdk ttX10_rope 0 rfl rfl) rfl ?_
  refine zj_iconst (zdk ttX10_rope 1 rfl rfl) ?_
  refine zj_bipush (zdk ttX10_rope 2 rfl rfl) (by decide) ?_
  refine zj_callS (av := [.inl p1, .inl 0, .inl 20]) (st := []) (zdk ttX10_rope 3 rfl rfl) mb_X10_within ms_RX10_77 rfl rfl (Nat.le_of_ble_eq_true rfl) (s_X10_within l h p1 0 20 s0 (by omega) (by omega) (by omega)) (rm_ok (by decide) (by decide)) (zq_i fun v2 h3 q1 => ?_)
  obtain ⟨rfl, ⟨rfl, b4⟩ | ⟨rfl, b4⟩⟩ := q1
  · refine zj_if_eq (t := 20) (zdk ttX10_rope 4 rfl rfl) (by decide) (by decide) (fun c5 => ?_) (fun c5 => ?_)
    · refine zj_iconst (zdk ttX10_rope 10 rfl rfl) ?_
      exact zj_iret rfl (zdk ttX10_rope 11 rfl rfl) (Nat.le_refl _) (Nat.le_refl _) ⟨(-1), rfl, rfl, (Or.inl ⟨rfl, (Or.inl (by omega))⟩)⟩
    · exact absurd c5 (by omega)
  · refine zj_if_eq (t := 20) (zdk ttX10_rope 4 rfl rfl) (by decide) (by decide) (fun c6 => ?_) (fun c6 => ?_)
    · exact absurd c6 (by omega)
    · refine zj_iload_n (zdk ttX10_rope 5 rfl rfl) rfl ?_
      refine zj_iconst (zdk ttX10_rope 6 rfl rfl) ?_
      refine zj_bipush (zdk ttX10_rope 7 rfl rfl) (by decide) ?_
      refine zj_callS (av := [.inl p2, .inl 1, .inl 9]) (st := []) (zdk ttX10_rope 8 rfl rfl) mb_X10_within ms_RX10_77 rfl rfl (Nat.le_of_ble_eq_true rfl) (s_X10_within l h p2 1 9 s0 (by omega) (by omega) (by omega)) (rm_ok (by decide) (by decide)) (zq_i fun v8 h9 q7 => ?_)
      obtain ⟨rfl, ⟨rfl, b10⟩ | ⟨rfl, b10⟩⟩ := q7
      · refine zj_if_ne (t := 22) (zdk ttX10_rope 9 rfl rfl) (by decide) (by decide) (fun c11 => ?_) (fun c11 => ?_)
        · exact absurd c11 (by omega)
        · refine zj_iconst (zdk ttX10_rope 10 rfl rfl) ?_
          exact zj_iret rfl (zdk ttX10_rope 11 rfl rfl) (Nat.le_refl _) (Nat.le_refl _) ⟨(-1), rfl, rfl, (Or.inl ⟨rfl, (Or.inr (Or.inl (by omega)))⟩)⟩
      · refine zj_if_ne (t := 22) (zdk ttX10_rope 9 rfl rfl) (by decide) (by decide) (fun c12 => ?_) (fun c12 => ?_)
        · refine zj_iconst (zdk ttX10_rope 12 rfl rfl) ?_
          refine zj_iload_n (zdk ttX10_rope 13 rfl rfl) rfl ?_
          refine zj_ishl (zdk ttX10_rope 14 rfl rfl) ?_
          have b13 := zshl_1 (n := p1) (a := 0) (b := 20) (lo := 1) (hi := 1048576) (by omega) (by decide) (by decide) (by decide)
          refine zj_istore (L' := [some (.inr 0), some (.inl p1), some (.inl p2), some (.inl p3), some (.inl (zshl 1 p1))]) (zdk ttX10_rope 15 rfl rfl) (by decide) rfl ?_
          refine zj_iload_n (zdk ttX10_rope 16 rfl rfl) rfl ?_
          have k15 : (¬ p3 = 0 ∧ ¬ p3 = 1) → zJ shC l yX10_rope cX10_rope 5 (some .int) (rmL 2) 0 0 (q_X10_rope h p1 p2 p3) 0 0 68 [some (.inr 0), some (.inl p1), some (.inl p2), some (.inl p3), some (.inl (zshl 1 p1))] [] h := by
            intro c14
            refine zj_iconst (zdk ttX10_rope 28 rfl rfl) ?_
            exact zj_iret rfl (zdk ttX10_rope 29 rfl rfl) (Nat.le_refl _) (Nat.le_refl _) ⟨(-1), rfl, rfl, (Or.inl ⟨rfl, (Or.inr (Or.inr (by omega)))⟩)⟩
          have k16 : p3 = 0 → zJ shC l yX10_rope cX10_rope 5 (some .int) (rmL 2) 0 0 (q_X10_rope h p1 p2 p3) 0 0 56 [some (.inr 0), some (.inl p1), some (.inl p2), some (.inl p3), some (.inl (zshl 1 p1))] [] h := by
            intro c14
            refine zj_iload_n (zdk ttX10_rope 18 rfl rfl) rfl ?_
            refine zj_iload (zdk ttX10_rope 19 rfl rfl) rfl ?_
            refine zj_imul (zdk ttX10_rope 20 rfl rfl) ?_
            have b17 : 1 ≤ (p2 * (zshl 1 p1)) ∧ (p2 * (zshl 1 p1)) ≤ 9437184 := zmul_b (a := 1) (b := 9) (c := 1) (d := 1048576) (by omega) (by omega) (by decide)
            refine zj_iconst (zdk ttX10_rope 21 rfl rfl) ?_
            refine zj_iadd (zdk ttX10_rope 22 rfl rfl) ?_
            exact zj_iret rfl (zdk ttX10_rope 23 rfl rfl) (Nat.le_refl _) (Nat.le_refl _) ⟨((p2 * (zshl 1 p1)) + 1), rfl, rfl, (Or.inr (Or.inl ⟨by omega, rfl, by omega⟩))⟩
          have k18 : p3 = 1 → zJ shC l yX10_rope cX10_rope 5 (some .int) (rmL 2) 0 0 (q_X10_rope h p1 p2 p3) 0 0 63 [some (.inr 0), some (.inl p1), some (.inl p2), some (.inl p3), some (.inl (zshl 1 p1))] [] h := by
            intro c14
            refine zj_iload (zdk ttX10_rope 24 rfl rfl) rfl ?_
            refine zj_iconst (zdk ttX10_rope 25 rfl rfl) ?_
            refine zj_isub (zdk ttX10_rope 26 rfl rfl) ?_
            exact zj_iret rfl (zdk ttX10_rope 27 rfl rfl) (Nat.le_refl _) (Nat.le_refl _) ⟨((zshl 1 p1) - 1), rfl, rfl, (Or.inr (Or.inr ⟨by omega, rfl, by omega⟩))⟩
          by_cases z19 : p3 = 0
          · exact zj_lookup (t := 56) (zdk ttX10_rope 17 rfl rfl) (by omega) rfl (by rw [z19] <;> rfl) (by decide) (k16 z19)
          by_cases z20 : p3 = 1
          · exact zj_lookup (t := 63) (zdk ttX10_rope 17 rfl rfl) (by omega) rfl (by rw [z20] <;> rfl) (by decide) (k18 z20)
          exact zj_lookup (t := 68) (zdk ttX10_rope 17 rfl rfl) (by omega) rfl (by show Op.lookupswitch.offset [(0, 28), (1, 35)] 40 p3 = _; rw [Op.lookupswitch.offset_cons, if_neg (by omega), Op.lookupswitch.offset_cons, if_neg (by omega), Op.lookupswitch.offset_nil]) (by decide) (k15 (by omega))
        · exact absurd c12 (by omega)

abbrev tX10_meets : List (Nat × Instr × Nat) := [(0, .iload_n 1, 1), (1, .iconst 0, 1), (2, .sipush 499, 3), (5, .invokestatic 77, 3), (8, .ifCond .eq 37, 3), (11, .iload_n 3, 1), (12, .iconst 0, 1), (13, .sipush 499, 3), (16, .invokestatic 77, 3), (19, .ifCond .eq 26, 3), (22, .iload_n 2, 1), (23, .iconst 1, 1), (24, .sipush 500, 3), (27, .invokestatic 77, 3), (30, .ifCond .eq 15, 3), (33, .iload 4, 2), (35, .iconst 1, 1), (36, .sipush 500, 3), (39, .invokestatic 77, 3), (42, .ifCond .ne 5, 3), (45, .iconst (-1), 1), (46, .ireturn, 1), (47, .iload_n 1, 1), (48, .iload_n 2, 1), (49, .iload_n 3, 1), (50, .iload 4, 2), (52, .invokestatic 312, 3), (55, .ireturn, 1)]
theorem ttX10_meets : zdt cX10_meets tX10_meets = true := by decide +kernel
abbrev w_X10_meets (a b : Int) : Prop := False
abbrev q_X10_meets (h : zM) (p1 : Int) (p2 : Int) (p3 : Int) (p4 : Int) : Option zV → zM → Prop := zqi fun v h' => ((-2147483648) ≤ v ∧ v ≤ 2147483647) ∧ okC h' ∧ zfC w_X10_meets h h'
set_option maxRecDepth 100000 in
set_option maxHeartbeats 4000000 in
theorem s_X10_meets (l : Launch) (h : zM) (p1 : Int) (p2 : Int) (p3 : Int) (p4 : Int) (s0 : okC h) (b_p1 : (-2147483648) ≤ p1 ∧ p1 ≤ 2147483647) (b_p2 : (-2147483648) ≤ p2 ∧ p2 ≤ 2147483647) (b_p3 : (-2147483648) ≤ p3 ∧ p3 ≤ 2147483647) (b_p4 : (-2147483648) ≤ p4 ∧ p4 ≤ 2147483647) : zT shC l yX10_meets cX10_meets 5 (some .int) (rmL 2) 0 0 [.inr 0, .inl p1, .inl p2, .inl p3, .inl p4] h (q_X10_meets h p1 p2 p3 p4) := by
  refine zT_of (by decide +kernel) (L0 := [some (.inr 0), some (.inl p1), some (.inl p2), some (.inl p3), some (.inl p4)]) rfl (Nat.le_of_ble_eq_true rfl) ?_
  refine zj_iload_n (zdk ttX10_meets 0 rfl rfl) rfl ?_
  refine zj_iconst (zdk ttX10_meets 1 rfl rfl) ?_
  refine zj_sipush (zdk ttX10_meets 2 rfl rfl) (by decide) ?_
  refine zj_callS (av := [.inl p1, .inl 0, .inl 499]) (st := []) (zdk ttX10_meets 3 rfl rfl) mb_X10_within ms_RX10_77 rfl rfl (Nat.le_of_ble_eq_true rfl) (s_X10_within l h p1 0 499 s0 (by omega) (by omega) (by omega)) (rm_ok (by decide) (by decide)) (zq_i fun v2 h3 q1 => ?_)
  obtain ⟨rfl, ⟨rfl, b4⟩ | ⟨rfl, b4⟩⟩ := q1
  · refine zj_if_eq (t := 45) (zdk ttX10_meets 4 rfl rfl) (by decide) (by decide) (fun c5 => ?_) (fun c5 => ?_)
    · refine zj_iconst (zdk ttX10_meets 20 rfl rfl) ?_
      exact zj_iret rfl (zdk ttX10_meets 21 rfl rfl) (Nat.le_refl _) (Nat.le_refl _) ⟨(-1), rfl, by omega, s0, (zfC_r _ _)⟩
    · exact absurd c5 (by omega)
  · refine zj_if_eq (t := 45) (zdk ttX10_meets 4 rfl rfl) (by decide) (by decide) (fun c6 => ?_) (fun c6 => ?_)
    · exact absurd c6 (by omega)
    · refine zj_iload_n (zdk ttX10_meets 5 rfl rfl) rfl ?_
      refine zj_iconst (zdk ttX10_meets 6 rfl rfl) ?_
      refine zj_sipush (zdk ttX10_meets 7 rfl rfl) (by decide) ?_
      refine zj_callS (av := [.inl p3, .inl 0, .inl 499]) (st := []) (zdk ttX10_meets 8 rfl rfl) mb_X10_within ms_RX10_77 rfl rfl (Nat.le_of_ble_eq_true rfl) (s_X10_within l h p3 0 499 s0 (by omega) (by omega) (by omega)) (rm_ok (by decide) (by decide)) (zq_i fun v8 h9 q7 => ?_)
      obtain ⟨rfl, ⟨rfl, b10⟩ | ⟨rfl, b10⟩⟩ := q7
      · refine zj_if_eq (t := 45) (zdk ttX10_meets 9 rfl rfl) (by decide) (by decide) (fun c11 => ?_) (fun c11 => ?_)
        · refine zj_iconst (zdk ttX10_meets 20 rfl rfl) ?_
          exact zj_iret rfl (zdk ttX10_meets 21 rfl rfl) (Nat.le_refl _) (Nat.le_refl _) ⟨(-1), rfl, by omega, s0, (zfC_r _ _)⟩
        · exact absurd c11 (by omega)
      · refine zj_if_eq (t := 45) (zdk ttX10_meets 9 rfl rfl) (by decide) (by decide) (fun c12 => ?_) (fun c12 => ?_)
        · exact absurd c12 (by omega)
        · refine zj_iload_n (zdk ttX10_meets 10 rfl rfl) rfl ?_
          refine zj_iconst (zdk ttX10_meets 11 rfl rfl) ?_
          refine zj_sipush (zdk ttX10_meets 12 rfl rfl) (by decide) ?_
          refine zj_callS (av := [.inl p2, .inl 1, .inl 500]) (st := []) (zdk ttX10_meets 13 rfl rfl) mb_X10_within ms_RX10_77 rfl rfl (Nat.le_of_ble_eq_true rfl) (s_X10_within l h p2 1 500 s0 (by omega) (by omega) (by omega)) (rm_ok (by decide) (by decide)) (zq_i fun v14 h15 q13 => ?_)
          obtain ⟨rfl, ⟨rfl, b16⟩ | ⟨rfl, b16⟩⟩ := q13
          · refine zj_if_eq (t := 45) (zdk ttX10_meets 14 rfl rfl) (by decide) (by decide) (fun c17 => ?_) (fun c17 => ?_)
            · refine zj_iconst (zdk ttX10_meets 20 rfl rfl) ?_
              exact zj_iret rfl (zdk ttX10_meets 21 rfl rfl) (Nat.le_refl _) (Nat.le_refl _) ⟨(-1), rfl, by omega, s0, (zfC_r _ _)⟩
            · exact absurd c17 (by omega)
          · refine zj_if_eq (t := 45) (zdk ttX10_meets 14 rfl rfl) (by decide) (by decide) (fun c18 => ?_) (fun c18 => ?_)
            · exact absurd c18 (by omega)
            · refine zj_iload (zdk ttX10_meets 15 rfl rfl) rfl ?_
              refine zj_iconst (zdk ttX10_meets 16 rfl rfl) ?_
              refine zj_sipush (zdk ttX10_meets 17 rfl rfl) (by decide) ?_
              refine zj_callS (av := [.inl p4, .inl 1, .inl 500]) (st := []) (zdk ttX10_meets 18 rfl rfl) mb_X10_within ms_RX10_77 rfl rfl (Nat.le_of_ble_eq_true rfl) (s_X10_within l h p4 1 500 s0 (by omega) (by omega) (by omega)) (rm_ok (by decide) (by decide)) (zq_i fun v20 h21 q19 => ?_)
              obtain ⟨rfl, ⟨rfl, b22⟩ | ⟨rfl, b22⟩⟩ := q19
              · refine zj_if_ne (t := 47) (zdk ttX10_meets 19 rfl rfl) (by decide) (by decide) (fun c23 => ?_) (fun c23 => ?_)
                · exact absurd c23 (by omega)
                · refine zj_iconst (zdk ttX10_meets 20 rfl rfl) ?_
                  exact zj_iret rfl (zdk ttX10_meets 21 rfl rfl) (Nat.le_refl _) (Nat.le_refl _) ⟨(-1), rfl, by omega, s0, (zfC_r _ _)⟩
              · refine zj_if_ne (t := 47) (zdk ttX10_meets 19 rfl rfl) (by decide) (by decide) (fun c24 => ?_) (fun c24 => ?_)
                · refine zj_iload_n (zdk ttX10_meets 22 rfl rfl) rfl ?_
                  refine zj_iload_n (zdk ttX10_meets 23 rfl rfl) rfl ?_
                  refine zj_iload_n (zdk ttX10_meets 24 rfl rfl) rfl ?_
                  refine zj_iload (zdk ttX10_meets 25 rfl rfl) rfl ?_
                  refine zj_callS (av := [.inl p1, .inl p2, .inl p3, .inl p4]) (st := []) (zdk ttX10_meets 26 rfl rfl) mb_X8_firstMeeting ms_RX10_312 rfl rfl (Nat.le_of_ble_eq_true rfl) (s_X8_firstMeeting l h p1 p2 p3 p4 s0 (by omega) (by omega) (by omega) (by omega)) (rm_ok (by decide) (by decide)) (zq_i fun v26 h27 q25 => ?_)
                  obtain ⟨rfl, b28⟩ := q25
                  exact zj_iret rfl (zdk ttX10_meets 27 rfl rfl) (Nat.le_refl _) (Nat.le_refl _) ⟨v26, rfl, by omega, s0, (zfC_r _ _)⟩
                · exact absurd c24 (by omega)

abbrev tX10_arm : List (Nat × Instr × Nat) := [(0, .aload_n 0, 1), (1, .getfield 10, 3), (4, .getfield 263, 3), (7, .iload_n 1, 1), (8, .iload_n 2, 1), (9, .invokevirtual 315, 3), (12, .ireturn, 1)]
theorem ttX10_arm : zdt cX10_arm tX10_arm = true := by decide +kernel
abbrev w_X10_arm (a b : Int) : Prop := (a = 28 ∧ b = 9) ∨ (33 ≤ a ∧ a ≤ 34)
abbrev q_X10_arm (h : zM) (p1 : Int) (p2 : Int) : Option zV → zM → Prop := zqi fun v h' => ((-2147483648) ≤ v ∧ v ≤ 2147483647) ∧ okC h' ∧ zfC w_X10_arm h h' ∧ (zcw (p1 = -100) ((-9 ≤ p1 ∧ p1 ≤ 9) ∧ ¬ p1 = 0 ∧ (1 ≤ p2 ∧ p2 ≤ 20)) 6 (h.2 28 9) v (h'.2 28 9))
set_option maxRecDepth 100000 in
set_option maxHeartbeats 4000000 in
theorem s_X10_arm (l : Launch) (h : zM) (p1 : Int) (p2 : Int) (s0 : okC h) (b_p1 : (-2147483648) ≤ p1 ∧ p1 ≤ 2147483647) (b_p2 : (-2147483648) ≤ p2 ∧ p2 ≤ 2147483647) : zT shC l yX10_arm cX10_arm 3 (some .int) (rmL 3) 0 0 [.inr 0, .inl p1, .inl p2] h (q_X10_arm h p1 p2) := by
  refine zT_of (by decide +kernel) (L0 := [some (.inr 0), some (.inl p1), some (.inl p2)]) rfl (Nat.le_of_ble_eq_true rfl) ?_
  refine zj_aload_n (zdk ttX10_arm 0 rfl rfl) rfl (by decide) ?_
  refine zj_getr (r := 1) (zdk ttX10_arm 1 rfl rfl) zf_RX10_10 rfl (k_L0 s0) (rf_L0_0 s0) ?_
  refine zj_getr (r := 28) (zdk ttX10_arm 2 rfl rfl) zf_RX10_263 rfl (k_9_0 s0 zWd_1) (rf_9_0_6 s0 zWd_1) ?_
  refine zj_iload_n (zdk ttX10_arm 3 rfl rfl) rfl ?_
  refine zj_iload_n (zdk ttX10_arm 4 rfl rfl) rfl ?_
  refine zj_callV (av := [.inl p1, .inl p2]) (st := []) (zdk ttX10_arm 5 rfl rfl) mb_X5_tellArm mv_RX10_315 (ci := 5) rfl rfl (k_5_0 s0 zPu_28) rfl rfl (Nat.le_of_ble_eq_true rfl) (s_X5_tellArm l h 28 p1 p2 s0 zPu_28 (by omega) (by omega)) (rm_ok (by decide) (by decide)) (zq_i fun v2 h3 q1 => ?_)
  obtain ⟨b4, s5, f7, u6⟩ := q1
  have f8 : zfC w_X10_arm h h3 := zfC_t (zfC_r _ _) f7 (fun a9 b9 z9 => by
    rcases z9 with z9 | z9
    · exact (Or.inl z9)
    · exact (Or.inr z9))
  exact zj_iret rfl (zdk ttX10_arm 6 rfl rfl) (Nat.le_refl _) (Nat.le_refl _) ⟨v2, rfl, by omega, s5, f8, u6⟩

abbrev tX10_game : List (Nat × Instr × Nat) := [(0, .iload_n 1, 1), (1, .iconst 2, 1), (2, .bipush 60, 2), (4, .invokestatic 77, 3), (7, .ifCond .eq 35, 3), (10, .iload_n 2, 1), (11, .iconst 0, 1), (12, .sipush 1023, 3), (15, .invokestatic 77, 3), (18, .ifCond .eq 24, 3), (21, .iload_n 3, 1), (22, .iconst 0, 1), (23, .iload_n 1, 1), (24, .iconst 1, 1), (25, .isub, 1), (26, .invokestatic 77, 3), (29, .ifCond .eq 13, 3), (32, .iload 4, 2), (34, .iconst 0, 1), (35, .iconst 1, 1), (36, .invokestatic 77, 3), (39, .ifCond .ne 6, 3), (42, .bipush (-10), 2), (44, .ireturn, 1), (45, .aload_n 0, 1), (46, .getfield 41, 3), (49, .iload_n 1, 1), (50, .iload_n 2, 1), (51, .invokevirtual 322, 3), (54, .iload 4, 2), (56, .ifCond .ne 15, 3), (59, .aload_n 0, 1), (60, .getfield 41, 3), (63, .getfield 326, 3), (66, .iload_n 3, 1), (67, .iaload, 1), (68, .goto 13, 3), (71, .aload_n 0, 1), (72, .getfield 41, 3), (75, .iload_n 1, 1), (76, .iload_n 2, 1), (77, .iload_n 3, 1), (78, .invokevirtual 329, 3), (81, .ireturn, 1)]
theorem ttX10_game : zdt cX10_game tX10_game = true := by decide +kernel
abbrev w_X10_game (a b : Int) : Prop := a = 109
abbrev q_X10_game (h : zM) (p1 : Int) (p2 : Int) (p3 : Int) (p4 : Int) : Option zV → zM → Prop := zqi fun v h' => ((-2147483648) ≤ v ∧ v ≤ 2147483647) ∧ okC h' ∧ zfC w_X10_game h h'
set_option maxRecDepth 100000 in
set_option maxHeartbeats 4000000 in
theorem s_X10_game (l : Launch) (h : zM) (p1 : Int) (p2 : Int) (p3 : Int) (p4 : Int) (s0 : okC h) (b_p1 : (-2147483648) ≤ p1 ∧ p1 ≤ 2147483647) (b_p2 : (-2147483648) ≤ p2 ∧ p2 ≤ 2147483647) (b_p3 : (-2147483648) ≤ p3 ∧ p3 ≤ 2147483647) (b_p4 : (-2147483648) ≤ p4 ∧ p4 ≤ 2147483647) : zT shC l yX10_game cX10_game 5 (some .int) (rmL 4) 0 0 [.inr 0, .inl p1, .inl p2, .inl p3, .inl p4] h (q_X10_game h p1 p2 p3 p4) := by
  refine zT_of (by decide +kernel) (L0 := [some (.inr 0), some (.inl p1), some (.inl p2), some (.inl p3), some (.inl p4)]) rfl (Nat.le_of_ble_eq_true rfl) ?_
  refine zj_iload_n (zdk ttX10_game 0 rfl rfl) rfl ?_
  refine zj_iconst (zdk ttX10_game 1 rfl rfl) ?_
  refine zj_bipush (zdk ttX10_game 2 rfl rfl) (by decide) ?_
  refine zj_callS (av := [.inl p1, .inl 2, .inl 60]) (st := []) (zdk ttX10_game 3 rfl rfl) mb_X10_within ms_RX10_77 rfl rfl (Nat.le_of_ble_eq_true rfl) (s_X10_within l h p1 2 60 s0 (by omega) (by omega) (by omega)) (rm_ok (by decide) (by decide)) (zq_i fun v2 h3 q1 => ?_)
  obtain ⟨rfl, ⟨rfl, b4⟩ | ⟨rfl, b4⟩⟩ := q1
  · refine zj_if_eq (t := 42) (zdk ttX10_game 4 rfl rfl) (by decide) (by decide) (fun c5 => ?_) (fun c5 => ?_)
    · refine zj_bipush (zdk ttX10_game 22 rfl rfl) (by decide) ?_
      exact zj_iret rfl (zdk ttX10_game 23 rfl rfl) (Nat.le_refl _) (Nat.le_refl _) ⟨(-10), rfl, by omega, s0, (zfC_r _ _)⟩
    · exact absurd c5 (by omega)
  · refine zj_if_eq (t := 42) (zdk ttX10_game 4 rfl rfl) (by decide) (by decide) (fun c6 => ?_) (fun c6 => ?_)
    · exact absurd c6 (by omega)
    · refine zj_iload_n (zdk ttX10_game 5 rfl rfl) rfl ?_
      refine zj_iconst (zdk ttX10_game 6 rfl rfl) ?_
      refine zj_sipush (zdk ttX10_game 7 rfl rfl) (by decide) ?_
      refine zj_callS (av := [.inl p2, .inl 0, .inl 1023]) (st := []) (zdk ttX10_game 8 rfl rfl) mb_X10_within ms_RX10_77 rfl rfl (Nat.le_of_ble_eq_true rfl) (s_X10_within l h p2 0 1023 s0 (by omega) (by omega) (by omega)) (rm_ok (by decide) (by decide)) (zq_i fun v8 h9 q7 => ?_)
      obtain ⟨rfl, ⟨rfl, b10⟩ | ⟨rfl, b10⟩⟩ := q7
      · refine zj_if_eq (t := 42) (zdk ttX10_game 9 rfl rfl) (by decide) (by decide) (fun c11 => ?_) (fun c11 => ?_)
        · refine zj_bipush (zdk ttX10_game 22 rfl rfl) (by decide) ?_
          exact zj_iret rfl (zdk ttX10_game 23 rfl rfl) (Nat.le_refl _) (Nat.le_refl _) ⟨(-10), rfl, by omega, s0, (zfC_r _ _)⟩
        · exact absurd c11 (by omega)
      · refine zj_if_eq (t := 42) (zdk ttX10_game 9 rfl rfl) (by decide) (by decide) (fun c12 => ?_) (fun c12 => ?_)
        · exact absurd c12 (by omega)
        · refine zj_iload_n (zdk ttX10_game 10 rfl rfl) rfl ?_
          refine zj_iconst (zdk ttX10_game 11 rfl rfl) ?_
          refine zj_iload_n (zdk ttX10_game 12 rfl rfl) rfl ?_
          refine zj_iconst (zdk ttX10_game 13 rfl rfl) ?_
          refine zj_isub (zdk ttX10_game 14 rfl rfl) ?_
          refine zj_callS (av := [.inl p3, .inl 0, .inl (p1 - 1)]) (st := []) (zdk ttX10_game 15 rfl rfl) mb_X10_within ms_RX10_77 rfl rfl (Nat.le_of_ble_eq_true rfl) (s_X10_within l h p3 0 (p1 - 1) s0 (by omega) (by omega) (by omega)) (rm_ok (by decide) (by decide)) (zq_i fun v14 h15 q13 => ?_)
          obtain ⟨rfl, ⟨rfl, b16⟩ | ⟨rfl, b16⟩⟩ := q13
          · refine zj_if_eq (t := 42) (zdk ttX10_game 16 rfl rfl) (by decide) (by decide) (fun c17 => ?_) (fun c17 => ?_)
            · refine zj_bipush (zdk ttX10_game 22 rfl rfl) (by decide) ?_
              exact zj_iret rfl (zdk ttX10_game 23 rfl rfl) (Nat.le_refl _) (Nat.le_refl _) ⟨(-10), rfl, by omega, s0, (zfC_r _ _)⟩
            · exact absurd c17 (by omega)
          · refine zj_if_eq (t := 42) (zdk ttX10_game 16 rfl rfl) (by decide) (by decide) (fun c18 => ?_) (fun c18 => ?_)
            · exact absurd c18 (by omega)
            · refine zj_iload (zdk ttX10_game 17 rfl rfl) rfl ?_
              refine zj_iconst (zdk ttX10_game 18 rfl rfl) ?_
              refine zj_iconst (zdk ttX10_game 19 rfl rfl) ?_
              refine zj_callS (av := [.inl p4, .inl 0, .inl 1]) (st := []) (zdk ttX10_game 20 rfl rfl) mb_X10_within ms_RX10_77 rfl rfl (Nat.le_of_ble_eq_true rfl) (s_X10_within l h p4 0 1 s0 (by omega) (by omega) (by omega)) (rm_ok (by decide) (by decide)) (zq_i fun v20 h21 q19 => ?_)
              obtain ⟨rfl, ⟨rfl, b22⟩ | ⟨rfl, b22⟩⟩ := q19
              · refine zj_if_ne (t := 45) (zdk ttX10_game 21 rfl rfl) (by decide) (by decide) (fun c23 => ?_) (fun c23 => ?_)
                · exact absurd c23 (by omega)
                · refine zj_bipush (zdk ttX10_game 22 rfl rfl) (by decide) ?_
                  exact zj_iret rfl (zdk ttX10_game 23 rfl rfl) (Nat.le_refl _) (Nat.le_refl _) ⟨(-10), rfl, by omega, s0, (zfC_r _ _)⟩
              · refine zj_if_ne (t := 45) (zdk ttX10_game 21 rfl rfl) (by decide) (by decide) (fun c24 => ?_) (fun c24 => ?_)
                · refine zj_aload_n (zdk ttX10_game 24 rfl rfl) rfl (by decide) ?_
                  refine zj_getr (r := 108) (zdk ttX10_game 25 rfl rfl) zf_RX10_41 rfl (k_L0 s0) (rf_L0_5 s0) ?_
                  refine zj_iload_n (zdk ttX10_game 26 rfl rfl) rfl ?_
                  refine zj_iload_n (zdk ttX10_game 27 rfl rfl) rfl ?_
                  refine zj_callV (av := [.inl p1, .inl p2]) (st := []) (zdk ttX10_game 28 rfl rfl) mb_X8_judgeHours mv_RX10_322 (ci := 8) rfl rfl (k_L108 s0) rfl rfl (Nat.le_of_ble_eq_true rfl) (s_X8_judgeHours l h p1 p2 s0 (by omega) (by omega)) (rm_ok (by decide) (by decide)) (zq_v fun h27 q25 => ?_)
                  obtain ⟨s29, f30⟩ := q25
                  refine zj_iload (zdk ttX10_game 29 rfl rfl) rfl ?_
                  refine zj_if_ne (t := 71) (zdk ttX10_game 30 rfl rfl) (by decide) (by omega) (fun c31 => ?_) (fun c31 => ?_)
                  · refine zj_aload_n (zdk ttX10_game 37 rfl rfl) rfl (by decide) ?_
                    refine zj_getr (r := 108) (zdk ttX10_game 38 rfl rfl) zf_RX10_41 rfl (k_L0 s29) (rf_L0_5 s29) ?_
                    refine zj_iload_n (zdk ttX10_game 39 rfl rfl) rfl ?_
                    refine zj_iload_n (zdk ttX10_game 40 rfl rfl) rfl ?_
                    refine zj_iload_n (zdk ttX10_game 41 rfl rfl) rfl ?_
                    refine zj_callV (av := [.inl p1, .inl p2, .inl p3]) (st := []) (zdk ttX10_game 42 rfl rfl) mb_X8_stepThatKeeps mv_RX10_329 (ci := 8) rfl rfl (k_L108 s29) rfl rfl (Nat.le_of_ble_eq_true rfl) (s_X8_stepThatKeeps l h27 p1 p2 p3 s29 (by omega) (by omega) (by omega)) (rm_ok (by decide) (by decide)) (zq_i fun v33 h34 q32 => ?_)
                    obtain ⟨rfl, b35⟩ := q32
                    have f36 : zfC w_X10_game h h27 := zfC_t (zfC_r _ _) f30 (fun a9 b9 z9 => by
                      exact z9)
                    exact zj_iret rfl (zdk ttX10_game 43 rfl rfl) (Nat.le_refl _) (Nat.le_refl _) ⟨v33, rfl, by omega, s29, f36⟩
                  · refine zj_aload_n (zdk ttX10_game 31 rfl rfl) rfl (by decide) ?_
                    refine zj_getr (r := 108) (zdk ttX10_game 32 rfl rfl) zf_RX10_41 rfl (k_L0 s29) (rf_L0_5 s29) ?_
                    refine zj_getr (r := 109) (zdk ttX10_game 33 rfl rfl) zf_RX10_326 rfl (k_L108 s29) (rf_L108_0 s29) ?_
                    refine zj_iload_n (zdk ttX10_game 34 rfl rfl) rfl ?_
                    have b37 : -2147483648 ≤ (h27.2 109 p3) ∧ (h27.2 109 p3) ≤ 2147483647 := ab_L108_0 s29 p3
                    refine zj_iald (v := (h27.2 109 p3)) (zdk ttX10_game 35 rfl rfl) (ka_L108_0 s29) (by decide) (by omega) rfl ?_
                    refine zj_goto (t := 81) (zdk ttX10_game 36 rfl rfl) (by decide) ?_
                    have f38 : zfC w_X10_game h h27 := zfC_t (zfC_r _ _) f30 (fun a9 b9 z9 => by
                      exact z9)
                    exact zj_iret rfl (zdk ttX10_game 43 rfl rfl) (Nat.le_refl _) (Nat.le_refl _) ⟨(h27.2 109 p3), rfl, by omega, s29, f38⟩
                · exact absurd c24 (by omega)

abbrev tX10_undo : List (Nat × Instr × Nat) := [(0, .aload_n 0, 1), (1, .getfield 55, 3), (4, .ifCond .gt 5, 3), (7, .iconst 0, 1), (8, .ireturn, 1), (9, .aload_n 0, 1), (10, .dup, 1), (11, .getfield 55, 3), (14, .iconst 1, 1), (15, .isub, 1), (16, .putfield 55, 3), (19, .aload_n 0, 1), (20, .getfield 10, 3), (23, .getfield 67, 3), (26, .aload_n 0, 1), (27, .getfield 47, 3), (30, .aload_n 0, 1), (31, .getfield 55, 3), (34, .aaload, 1), (35, .invokevirtual 332, 3), (38, .aload_n 0, 1), (39, .getfield 10, 3), (42, .getfield 219, 3), (45, .aload_n 0, 1), (46, .getfield 51, 3), (49, .aload_n 0, 1), (50, .getfield 55, 3), (53, .iaload, 1), (54, .putfield 223, 3), (57, .iconst 1, 1), (58, .ireturn, 1)]
theorem ttX10_undo : zdt cX10_undo tX10_undo = true := by decide +kernel
abbrev w_X10_undo (a b : Int) : Prop := (a = 0 ∧ b = 8) ∨ (a = 2 ∧ 3 ≤ b ∧ b ≤ 13) ∨ (3 ≤ a ∧ a ≤ 5) ∨ (a = 23 ∧ b = 4)
abbrev tX10_image : List (Nat × Instr × Nat) := [(0, .iload_n 1, 1), (1, .ifCond .eq 21, 3), (4, .aload_n 0, 1), (5, .getfield 16, 3), (8, .aload_n 0, 1), (9, .getfield 10, 3), (12, .invokevirtual 237, 3), (15, .aload_n 0, 1), (16, .iconst 1, 1), (17, .putfield 59, 3), (20, .iconst 1, 1), (21, .ireturn, 1), (22, .aload_n 0, 1), (23, .getfield 59, 3), (26, .ifCond .ne 5, 3), (29, .iconst 0, 1), (30, .ireturn, 1), (31, .aload_n 0, 1), (32, .getfield 10, 3), (35, .aload_n 0, 1), (36, .getfield 16, 3), (39, .invokevirtual 237, 3), (42, .aload_n 0, 1), (43, .invokevirtual 74, 3), (46, .iconst 1, 1), (47, .ireturn, 1)]
theorem ttX10_image : zdt cX10_image tX10_image = true := by decide +kernel
abbrev w_X10_image (a b : Int) : Prop := (a = 0 ∧ 8 ≤ b ∧ b ≤ 9) ∨ (a = 2 ∧ 3 ≤ b ∧ b ≤ 13) ∨ (3 ≤ a ∧ a ≤ 5) ∨ (a = 6 ∧ 6 ≤ b ∧ b ≤ 7) ∨ (7 ≤ a ∧ a ≤ 11) ∨ (a = 13 ∧ b = 3) ∨ (14 ≤ a ∧ a ≤ 16) ∨ (a = 17 ∧ b = 3) ∨ (18 ≤ a ∧ a ≤ 20) ∨ (a = 21 ∧ b = 1) ∨ a = 22 ∨ (a = 23 ∧ b = 4) ∨ (24 ≤ a ∧ a ≤ 27) ∨ (a = 28 ∧ b = 2) ∨ (a = 28 ∧ b = 4) ∨ (a = 28 ∧ b = 6) ∨ (a = 28 ∧ b = 9) ∨ (29 ≤ a ∧ a ≤ 34) ∨ (a = 36 ∧ 3 ≤ b ∧ b ≤ 13) ∨ (37 ≤ a ∧ a ≤ 39) ∨ (a = 40 ∧ 6 ≤ b ∧ b ≤ 7) ∨ (41 ≤ a ∧ a ≤ 45) ∨ (a = 47 ∧ b = 3) ∨ (48 ≤ a ∧ a ≤ 50) ∨ (a = 51 ∧ b = 3) ∨ (52 ≤ a ∧ a ≤ 54) ∨ (a = 55 ∧ b = 1) ∨ a = 56 ∨ (a = 57 ∧ b = 4) ∨ (58 ≤ a ∧ a ≤ 61) ∨ (a = 62 ∧ b = 2) ∨ (a = 62 ∧ b = 4) ∨ (a = 62 ∧ b = 6) ∨ (a = 62 ∧ b = 9) ∨ (63 ≤ a ∧ a ≤ 68)
abbrev tX10_look : List (Nat × Instr × Nat) := [(0, .aload_n 0, 1), (1, .getfield 10, 3), (4, .getfield 67, 3), (7, .astore_n 2, 1), (8, .iload_n 1, 1), (9, .tableswitch 189 0 15 #[79, 84, 89, 94, 99, 104, 109, 114, 119, 124, 135, 140, 151, 162, 173, 184], 79), (88, .aload_n 2, 1), (89, .getfield 81, 3), (92, .ireturn, 1), (93, .aload_n 2, 1), (94, .getfield 240, 3), (97, .ireturn, 1), (98, .aload_n 2, 1), (99, .getfield 97, 3), (102, .ireturn, 1), (103, .aload_n 2, 1), (104, .getfield 100, 3), (107, .ireturn, 1), (108, .aload_n 2, 1), (109, .getfield 130, 3), (112, .ireturn, 1), (113, .aload_n 2, 1), (114, .getfield 335, 3), (117, .ireturn, 1), (118, .aload_n 2, 1), (119, .getfield 338, 3), (122, .ireturn, 1), (123, .aload_n 2, 1), (124, .getfield 103, 3), (127, .ireturn, 1), (128, .aload_n 2, 1), (129, .getfield 127, 3), (132, .ireturn, 1), (133, .aload_n 0, 1), (134, .getfield 10, 3), (137, .getfield 219, 3), (140, .getfield 223, 3), (143, .ireturn, 1), (144, .aload_n 2, 1), (145, .getfield 71, 3), (148, .ireturn, 1), (149, .aload_n 0, 1), (150, .getfield 10, 3), (153, .getfield 146, 3), (156, .getfield 160, 3), (159, .ireturn, 1), (160, .aload_n 0, 1), (161, .getfield 10, 3), (164, .getfield 163, 3), (167, .getfield 176, 3), (170, .ireturn, 1), (171, .aload_n 0, 1), (172, .getfield 10, 3), (175, .getfield 177, 3), (178, .getfield 176, 3), (181, .ireturn, 1), (182, .aload_n 0, 1), (183, .getfield 10, 3), (186, .getfield 184, 3), (189, .getfield 197, 3), (192, .ireturn, 1), (193, .aload_n 0, 1), (194, .getfield 55, 3), (197, .ireturn, 1), (198, .ldc_w 341, 3), (201, .ireturn, 1)]
theorem ttX10_look : zdt cX10_look tX10_look = true := by decide +kernel
abbrev w_X10_look (a b : Int) : Prop := False
abbrev tX8_waysToSit : List (Nat × Instr × Nat) := [(0, .iload_n 1, 1), (1, .aload_n 0, 1), (2, .getfield 62, 3), (5, .if_icmp .ge 9, 3), (8, .iload_n 1, 1), (9, .bipush 7, 2), (11, .if_icmp .lt 13, 3), (14, .iload_n 3, 1), (15, .ifCond .ne 7, 3), (18, .iconst 1, 1), (19, .goto 4, 3), (22, .iconst 0, 1), (23, .ireturn, 1), (24, .iconst 0, 1), (25, .istore 4, 2), (27, .iconst 0, 1), (28, .istore 5, 2), (30, .iload 5, 2), (32, .bipush 7, 2), (34, .if_icmp .ge 49, 3), (37, .iload_n 2, 1), (38, .iload 5, 2), (40, .ishr, 1), (41, .iconst 1, 1), (42, .iand, 1), (43, .ifCond .ne 34, 3), (46, .iload 4, 2), (48, .aload_n 0, 1), (49, .iload_n 1, 1), (50, .iconst 1, 1), (51, .iadd, 1), (52, .iload_n 2, 1), (53, .iconst 1, 1), (54, .iload 5, 2), (56, .ishl, 1), (57, .ior, 1), (58, .iload_n 3, 1), (59, .aload_n 0, 1), (60, .getfield 66, 3), (63, .iload_n 1, 1), (64, .iaload, 1), (65, .iload 5, 2), (67, .iconst 3, 1), (68, .isub, 1), (69, .imul, 1), (70, .iadd, 1), (71, .invokestatic 69, 3), (74, .iadd, 1), (75, .istore 4, 2), (77, .iinc 5 1, 3), (80, .goto (-50), 3), (83, .iload 4, 2), (85, .ireturn, 1)]
theorem ttX8_waysToSit : zdt cX8_waysToSit tX8_waysToSit = true := by decide +kernel
abbrev q_X8_waysToSit (h : zM) (p1 p2 p3 p4 : Int) : Option zV → zM → Prop := zqi fun v h' => h = h' ∧ ((-2147483648) ≤ v ∧ v ≤ 2147483647)
set_option maxRecDepth 100000 in
set_option maxHeartbeats 8000000 in
theorem s_X8_waysToSit (l : Launch) : ∀ n0 : Nat, (∀ (h : zM) (p1 p2 p3 p4 : Int), (okC h) → (zPu p1) → (0 ≤ p2 ∧ p2 ≤ 7) → ((-2147483648) ≤ p3 ∧ p3 ≤ 2147483647) → ((-2147483648) ≤ p4 ∧ p4 ≤ 2147483647) → (8 - p2).toNat < n0 → zT shC l yX8_waysToSit cX8_waysToSit 6 (some .int) (rmL (2 + 1 * n0 + 0)) 0 0 [.inr p1, .inl p2, .inl p3, .inl p4] h (q_X8_waysToSit h p1 p2 p3 p4)) := by
  intro n0
  induction n0 with
  | zero => exact (fun h p1 p2 p3 p4 s0 r_p1 b_p2 b_p3 b_p4 hm => absurd hm (Nat.not_lt_zero _))
  | succ n0 ihr =>
    have hr0 : ∀ (h : zM) (p1 p2 p3 p4 : Int), (okC h) → (zPu p1) → (0 ≤ p2 ∧ p2 ≤ 7) → ((-2147483648) ≤ p3 ∧ p3 ≤ 2147483647) → ((-2147483648) ≤ p4 ∧ p4 ≤ 2147483647) → (8 - p2).toNat < (n0 + 1) → zT shC l yX8_waysToSit cX8_waysToSit 6 (some .int) (rmL (2 + 1 * (n0 + 1) + 0)) 0 0 [.inr p1, .inl p2, .inl p3, .inl p4] h (q_X8_waysToSit h p1 p2 p3 p4) := by
      intro h p1 p2 p3 p4 s0 r_p1 b_p2 b_p3 b_p4 hm0
      refine zT_of (by decide +kernel) (L0 := [some (.inr p1), some (.inl p2), some (.inl p3), some (.inl p4), none, none]) rfl (Nat.le_of_ble_eq_true rfl) ?_
      have b1001 := zPu_b r_p1
      refine zj_iload_n (zdk ttX8_waysToSit 0 rfl rfl) rfl ?_
      refine zj_aload_n (zdk ttX8_waysToSit 1 rfl rfl) rfl (by omega) ?_
      have b1002 : 0 ≤ (h.2 p1 6) ∧ (h.2 p1 6) ≤ 7 := fb_5_0_6 s0 r_p1
      refine zj_geti (v := (h.2 p1 6)) (zdk ttX8_waysToSit 2 rfl rfl) zf_RX8_62 rfl (k_5_0 s0 r_p1) rfl ?_
      refine zj_icmp_ge (t := 14) (zdk ttX8_waysToSit 3 rfl rfl) (by decide) (by omega) (by omega) (fun c1003 => ?_) (fun c1003 => ?_)
      · refine zj_iload_n (zdk ttX8_waysToSit 7 rfl rfl) rfl ?_
        refine zj_if_ne (t := 22) (zdk ttX8_waysToSit 8 rfl rfl) (by decide) (by omega) (fun c1004 => ?_) (fun c1004 => ?_)
        · refine zj_iconst (zdk ttX8_waysToSit 11 rfl rfl) ?_
          exact zj_iret rfl (zdk ttX8_waysToSit 12 rfl rfl) (Nat.le_refl _) (Nat.le_refl _) ⟨0, rfl, rfl, by omega⟩
        · refine zj_iconst (zdk ttX8_waysToSit 9 rfl rfl) ?_
          refine zj_goto (t := 23) (zdk ttX8_waysToSit 10 rfl rfl) (by decide) ?_
          exact zj_iret rfl (zdk ttX8_waysToSit 12 rfl rfl) (Nat.le_refl _) (Nat.le_refl _) ⟨1, rfl, rfl, by omega⟩
      · refine zj_iload_n (zdk ttX8_waysToSit 4 rfl rfl) rfl ?_
        refine zj_bipush (zdk ttX8_waysToSit 5 rfl rfl) (by decide) ?_
        refine zj_icmp_lt (t := 24) (zdk ttX8_waysToSit 6 rfl rfl) (by decide) (by omega) (by decide) (fun c1005 => ?_) (fun c1005 => ?_)
        · refine zj_iconst (zdk ttX8_waysToSit 13 rfl rfl) ?_
          refine zj_istore (L' := [some (.inr p1), some (.inl p2), some (.inl p3), some (.inl p4), some (.inl 0), none]) (zdk ttX8_waysToSit 14 rfl rfl) (by decide) rfl ?_
          refine zj_iconst (zdk ttX8_waysToSit 15 rfl rfl) ?_
          refine zj_istore (L' := [some (.inr p1), some (.inl p2), some (.inl p3), some (.inl p4), some (.inl 0), some (.inl 0)]) (zdk ttX8_waysToSit 16 rfl rfl) (by decide) rfl ?_
          have lp1105 : ∀ (n : Nat) (x1006 x1007 : Int), (-2147483648 ≤ x1006 ∧ x1006 ≤ 2147483647) → (0 ≤ x1007 ∧ x1007 ≤ 7) → (8 - x1007).toNat < n → zJ shC l yX8_waysToSit cX8_waysToSit 6 (some .int) (rmL (2 + 1 * (n0 + 1) + 0)) 0 0 (q_X8_waysToSit h p1 p2 p3 p4) 0 0 30 [some (.inr p1), some (.inl p2), some (.inl p3), some (.inl p4), some (.inl x1006), some (.inl x1007)] [] h := by
            intro n
            induction n with
            | zero => intro x1006 x1007 b1106 b1107 m1108; exact absurd m1108 (Nat.not_lt_zero _)
            | succ n ih1109 =>
              intro x1006 x1007 b1106 b1107 m1108
              refine zj_iload (zdk ttX8_waysToSit 17 rfl rfl) rfl ?_
              refine zj_bipush (zdk ttX8_waysToSit 18 rfl rfl) (by decide) ?_
              refine zj_icmp_ge (t := 83) (zdk ttX8_waysToSit 19 rfl rfl) (by decide) (by omega) (by decide) (fun c1110 => ?_) (fun c1110 => ?_)
              · refine zj_iload (zdk ttX8_waysToSit 51 rfl rfl) rfl ?_
                exact zj_iret rfl (zdk ttX8_waysToSit 52 rfl rfl) (Nat.le_refl _) (Nat.le_refl _) ⟨x1006, rfl, rfl, by omega⟩
              · refine zj_iload_n (zdk ttX8_waysToSit 20 rfl rfl) rfl ?_
                refine zj_iload (zdk ttX8_waysToSit 21 rfl rfl) rfl ?_
                refine zj_ishr (zdk ttX8_waysToSit 22 rfl rfl) ?_
                have b1111 := zshr_in p3 x1007
                refine zj_iconst (zdk ttX8_waysToSit 23 rfl rfl) ?_
                refine zj_iand (zdk ttX8_waysToSit 24 rfl rfl) ?_
                have b1112 := zand_m (d := 2) 1 (by decide) (c := 1) (by decide) (by decide) (zshr p3 x1007)
                refine zj_if_ne (t := 77) (zdk ttX8_waysToSit 25 rfl rfl) (by decide) (by omega) (fun c1113 => ?_) (fun c1113 => ?_)
                · refine zj_iinc (L' := [some (.inr p1), some (.inl p2), some (.inl p3), some (.inl p4), some (.inl x1006), some (.inl (x1007 + 1))]) (zdk ttX8_waysToSit 49 rfl rfl) rfl (by decide) rfl ?_
                  refine zj_goto (t := 30) (zdk ttX8_waysToSit 50 rfl rfl) (by decide) ?_
                  exact ih1109  x1006 (x1007 + 1) (by omega) (by omega) (by omega)
                · refine zj_iload (zdk ttX8_waysToSit 26 rfl rfl) rfl ?_
                  refine zj_aload_n (zdk ttX8_waysToSit 27 rfl rfl) rfl (by omega) ?_
                  refine zj_iload_n (zdk ttX8_waysToSit 28 rfl rfl) rfl ?_
                  refine zj_iconst (zdk ttX8_waysToSit 29 rfl rfl) ?_
                  refine zj_iadd (zdk ttX8_waysToSit 30 rfl rfl) ?_
                  refine zj_iload_n (zdk ttX8_waysToSit 31 rfl rfl) rfl ?_
                  refine zj_iconst (zdk ttX8_waysToSit 32 rfl rfl) ?_
                  refine zj_iload (zdk ttX8_waysToSit 33 rfl rfl) rfl ?_
                  refine zj_ishl (zdk ttX8_waysToSit 34 rfl rfl) ?_
                  have b1114 := zshl_1 (n := x1007) (a := 0) (b := 6) (lo := 1) (hi := 64) (by omega) (by decide) (by decide) (by decide)
                  refine zj_ior (zdk ttX8_waysToSit 35 rfl rfl) ?_
                  have b1115 := zor_in p3 (zshl 1 x1007)
                  refine zj_iload_n (zdk ttX8_waysToSit 36 rfl rfl) rfl ?_
                  refine zj_aload_n (zdk ttX8_waysToSit 37 rfl rfl) rfl (by omega) ?_
                  refine zj_getr (r := (p1 + 4)) (zdk ttX8_waysToSit 38 rfl rfl) zf_RX8_66 rfl (k_5_0 s0 r_p1) (rf_5_0_5 s0 r_p1) ?_
                  refine zj_iload_n (zdk ttX8_waysToSit 39 rfl rfl) rfl ?_
                  have b1116 : -2147483648 ≤ (h.2 (p1 + 4) p2) ∧ (h.2 (p1 + 4) p2) ≤ 2147483647 := ab_5_0_5 s0 r_p1 p2
                  refine zj_iald (v := (h.2 (p1 + 4) p2)) (zdk ttX8_waysToSit 40 rfl rfl) (ka_5_0_5 s0 r_p1) (by decide) (by omega) rfl ?_
                  refine zj_iload (zdk ttX8_waysToSit 41 rfl rfl) rfl ?_
                  refine zj_iconst (zdk ttX8_waysToSit 42 rfl rfl) ?_
                  refine zj_isub (zdk ttX8_waysToSit 43 rfl rfl) ?_
                  refine zj_imul (zdk ttX8_waysToSit 44 rfl rfl) ?_
                  refine zj_wrap ?_
                  have b1117 := zwp_in ((h.2 (p1 + 4) p2) * (x1007 - 3))
                  refine zj_iadd (zdk ttX8_waysToSit 45 rfl rfl) ?_
                  refine zj_wrap ?_
                  have b1118 := zwp_in (p4 + (zwp ((h.2 (p1 + 4) p2) * (x1007 - 3))))
                  refine zj_callS (av := [.inr p1, .inl (p2 + 1), .inl (zor p3 (zshl 1 x1007)), .inl (zwp (p4 + (zwp ((h.2 (p1 + 4) p2) * (x1007 - 3)))))]) (st := [.inl x1006]) (zdk ttX8_waysToSit 46 rfl rfl) mb_X8_waysToSit ms_RX8_69 rfl rfl (Nat.le_of_ble_eq_true rfl) (ihr h p1 (p2 + 1) (zor p3 (zshl 1 x1007)) (zwp (p4 + (zwp ((h.2 (p1 + 4) p2) * (x1007 - 3))))) s0 r_p1 (by omega) (by omega) (by omega) (by omega)) (rm_ok (by omega) (by decide)) (zq_i fun v1120 h1121 q1119 => ?_)
                  obtain ⟨rfl, b1122⟩ := q1119
                  refine zj_iadd (zdk ttX8_waysToSit 47 rfl rfl) ?_
                  refine zj_wrap ?_
                  have b1123 := zwp_in (x1006 + v1120)
                  refine zj_istore (L' := [some (.inr p1), some (.inl p2), some (.inl p3), some (.inl p4), some (.inl (zwp (x1006 + v1120))), some (.inl x1007)]) (zdk ttX8_waysToSit 48 rfl rfl) (by decide) rfl ?_
                  refine zj_iinc (L' := [some (.inr p1), some (.inl p2), some (.inl p3), some (.inl p4), some (.inl (zwp (x1006 + v1120))), some (.inl (x1007 + 1))]) (zdk ttX8_waysToSit 49 rfl rfl) rfl (by decide) rfl ?_
                  refine zj_goto (t := 30) (zdk ttX8_waysToSit 50 rfl rfl) (by decide) ?_
                  exact ih1109  (zwp (x1006 + v1120)) (x1007 + 1) (by omega) (by omega) (by omega)
          exact lp1105 _ 0 0 (by omega) (by omega) (Nat.lt_succ_self _)
        · exact absurd c1005 (by omega)
    exact hr0

abbrev tX8_leastLean : List (Nat × Instr × Nat) := [(0, .iload_n 1, 1), (1, .aload_n 0, 1), (2, .getfield 73, 3), (5, .if_icmp .ge 9, 3), (8, .iload_n 1, 1), (9, .bipush 6, 2), (11, .if_icmp .lt 14, 3), (14, .iload_n 3, 1), (15, .invokestatic 76, 3), (18, .ldc 79, 2), (20, .imul, 1), (21, .iload 4, 2), (23, .iadd, 1), (24, .ireturn, 1), (25, .ldc 57, 2), (27, .istore 5, 2), (29, .iconst 0, 1), (30, .istore 6, 2), (32, .iload 6, 2), (34, .aload_n 0, 1), (35, .getfield 73, 3), (38, .if_icmp .ge 66, 3), (41, .iload_n 2, 1), (42, .iload 6, 2), (44, .ishr, 1), (45, .iconst 1, 1), (46, .iand, 1), (47, .ifCond .ne 51, 3), (50, .iload_n 3, 1), (51, .aload_n 0, 1), (52, .getfield 80, 3), (55, .iload_n 1, 1), (56, .iaload, 1), (57, .aload_n 0, 1), (58, .getfield 83, 3), (61, .iload 6, 2), (63, .iaload, 1), (64, .imul, 1), (65, .iadd, 1), (66, .istore 7, 2), (68, .iload 5, 2), (70, .aload_n 0, 1), (71, .iload_n 1, 1), (72, .iconst 1, 1), (73, .iadd, 1), (74, .iload_n 2, 1), (75, .iconst 1, 1), (76, .iload 6, 2), (78, .ishl, 1), (79, .ior, 1), (80, .iload 7, 2), (82, .iload 4, 2), (84, .bipush 10, 2), (86, .imul, 1), (87, .iload 6, 2), (89, .iadd, 1), (90, .invokestatic 86, 3), (93, .invokestatic 27, 3), (96, .istore 5, 2), (98, .iinc 6 1, 3), (101, .goto (-69), 3), (104, .iload 5, 2), (106, .ireturn, 1)]
theorem ttX8_leastLean : zdt cX8_leastLean tX8_leastLean = true := by decide +kernel
abbrev q_X8_leastLean (h : zM) (p1 p2 p3 p4 p5 : Int) : Option zV → zM → Prop := zqi fun v h' => h = h' ∧ ((-2147483648) ≤ v ∧ v ≤ 2147483647)
set_option maxRecDepth 100000 in
set_option maxHeartbeats 8000000 in
theorem s_X8_leastLean (l : Launch) : ∀ n0 : Nat, (∀ (h : zM) (p1 p2 p3 p4 p5 : Int), (okC h) → (zPu p1) → (0 ≤ p2 ∧ p2 ≤ 6) → ((-2147483648) ≤ p3 ∧ p3 ≤ 2147483647) → ((-2147483648) ≤ p4 ∧ p4 ≤ 2147483647) → ((-2147483648) ≤ p5 ∧ p5 ≤ 2147483647) → (7 - p2).toNat < n0 → zT shC l yX8_leastLean cX8_leastLean 8 (some .int) (rmL (2 + 1 * n0 + 0)) 0 0 [.inr p1, .inl p2, .inl p3, .inl p4, .inl p5] h (q_X8_leastLean h p1 p2 p3 p4 p5)) := by
  intro n0
  induction n0 with
  | zero => exact (fun h p1 p2 p3 p4 p5 s0 r_p1 b_p2 b_p3 b_p4 b_p5 hm => absurd hm (Nat.not_lt_zero _))
  | succ n0 ihr =>
    have hr0 : ∀ (h : zM) (p1 p2 p3 p4 p5 : Int), (okC h) → (zPu p1) → (0 ≤ p2 ∧ p2 ≤ 6) → ((-2147483648) ≤ p3 ∧ p3 ≤ 2147483647) → ((-2147483648) ≤ p4 ∧ p4 ≤ 2147483647) → ((-2147483648) ≤ p5 ∧ p5 ≤ 2147483647) → (7 - p2).toNat < (n0 + 1) → zT shC l yX8_leastLean cX8_leastLean 8 (some .int) (rmL (2 + 1 * (n0 + 1) + 0)) 0 0 [.inr p1, .inl p2, .inl p3, .inl p4, .inl p5] h (q_X8_leastLean h p1 p2 p3 p4 p5) := by
      intro h p1 p2 p3 p4 p5 s0 r_p1 b_p2 b_p3 b_p4 b_p5 hm0
      refine zT_of (by decide +kernel) (L0 := [some (.inr p1), some (.inl p2), some (.inl p3), some (.inl p4), some (.inl p5), none, none, none]) rfl (Nat.le_of_ble_eq_true rfl) ?_
      have b1001 := zPu_b r_p1
      refine zj_iload_n (zdk ttX8_leastLean 0 rfl rfl) rfl ?_
      refine zj_aload_n (zdk ttX8_leastLean 1 rfl rfl) rfl (by omega) ?_
      have b1002 : 0 ≤ (h.2 p1 9) ∧ (h.2 p1 9) ≤ 6 := fb_5_0_9 s0 r_p1
      refine zj_geti (v := (h.2 p1 9)) (zdk ttX8_leastLean 2 rfl rfl) zf_RX8_73 rfl (k_5_0 s0 r_p1) rfl ?_
      refine zj_icmp_ge (t := 14) (zdk ttX8_leastLean 3 rfl rfl) (by decide) (by omega) (by omega) (fun c1003 => ?_) (fun c1003 => ?_)
      · refine zj_iload_n (zdk ttX8_leastLean 7 rfl rfl) rfl ?_
        refine zj_abs (zdk ttX8_leastLean 8 rfl rfl) mx_RX8_76 (by omega) (Nat.le_of_ble_eq_true rfl) (rm_m (by omega)) ?_
        refine zj_wrap ?_
        have b1004 := zwp_in (p4.natAbs : Int)
        refine zj_ldc (z := 1000000) (zdk ttX8_leastLean 9 rfl rfl) wc_RX8_79 ?_
        refine zj_imul (zdk ttX8_leastLean 10 rfl rfl) ?_
        refine zj_wrap ?_
        have b1005 := zwp_in ((zwp (p4.natAbs : Int)) * 1000000)
        refine zj_iload (zdk ttX8_leastLean 11 rfl rfl) rfl ?_
        refine zj_iadd (zdk ttX8_leastLean 12 rfl rfl) ?_
        refine zj_wrap ?_
        have b1006 := zwp_in ((zwp ((zwp (p4.natAbs : Int)) * 1000000)) + p5)
        exact zj_iret rfl (zdk ttX8_leastLean 13 rfl rfl) (Nat.le_refl _) (Nat.le_refl _) ⟨(zwp ((zwp ((zwp (p4.natAbs : Int)) * 1000000)) + p5)), rfl, rfl, by omega⟩
      · refine zj_iload_n (zdk ttX8_leastLean 4 rfl rfl) rfl ?_
        refine zj_bipush (zdk ttX8_leastLean 5 rfl rfl) (by decide) ?_
        refine zj_icmp_lt (t := 25) (zdk ttX8_leastLean 6 rfl rfl) (by decide) (by omega) (by decide) (fun c1007 => ?_) (fun c1007 => ?_)
        · refine zj_ldc (z := 2147483647) (zdk ttX8_leastLean 14 rfl rfl) wc_RX8_57 ?_
          refine zj_istore (L' := [some (.inr p1), some (.inl p2), some (.inl p3), some (.inl p4), some (.inl p5), some (.inl 2147483647), none, none]) (zdk ttX8_leastLean 15 rfl rfl) (by decide) rfl ?_
          refine zj_iconst (zdk ttX8_leastLean 16 rfl rfl) ?_
          refine zj_istore (L' := [some (.inr p1), some (.inl p2), some (.inl p3), some (.inl p4), some (.inl p5), some (.inl 2147483647), some (.inl 0), none]) (zdk ttX8_leastLean 17 rfl rfl) (by decide) rfl ?_
          have lp1094 : ∀ (n : Nat) (x1008 x1009 : Int), (-2147483648 ≤ x1008 ∧ x1008 ≤ 2147483647) → (0 ≤ x1009 ∧ x1009 ≤ 6) → (7 - x1009).toNat < n → zJ shC l yX8_leastLean cX8_leastLean 8 (some .int) (rmL (2 + 1 * (n0 + 1) + 0)) 0 0 (q_X8_leastLean h p1 p2 p3 p4 p5) 0 0 32 [some (.inr p1), some (.inl p2), some (.inl p3), some (.inl p4), some (.inl p5), some (.inl x1008), some (.inl x1009), none] [] h := by
            intro n
            induction n with
            | zero => intro x1008 x1009 b1095 b1096 m1097; exact absurd m1097 (Nat.not_lt_zero _)
            | succ n ih1098 =>
              intro x1008 x1009 b1095 b1096 m1097
              refine zj_iload (zdk ttX8_leastLean 18 rfl rfl) rfl ?_
              refine zj_aload_n (zdk ttX8_leastLean 19 rfl rfl) rfl (by omega) ?_
              refine zj_geti (v := (h.2 p1 9)) (zdk ttX8_leastLean 20 rfl rfl) zf_RX8_73 rfl (k_5_0 s0 r_p1) rfl ?_
              refine zj_icmp_ge (t := 104) (zdk ttX8_leastLean 21 rfl rfl) (by decide) (by omega) (by omega) (fun c1099 => ?_) (fun c1099 => ?_)
              · refine zj_iload (zdk ttX8_leastLean 61 rfl rfl) rfl ?_
                exact zj_iret rfl (zdk ttX8_leastLean 62 rfl rfl) (Nat.le_refl _) (Nat.le_refl _) ⟨x1008, rfl, rfl, by omega⟩
              · refine zj_iload_n (zdk ttX8_leastLean 22 rfl rfl) rfl ?_
                refine zj_iload (zdk ttX8_leastLean 23 rfl rfl) rfl ?_
                refine zj_ishr (zdk ttX8_leastLean 24 rfl rfl) ?_
                have b1100 := zshr_in p3 x1009
                refine zj_iconst (zdk ttX8_leastLean 25 rfl rfl) ?_
                refine zj_iand (zdk ttX8_leastLean 26 rfl rfl) ?_
                have b1101 := zand_m (d := 2) 1 (by decide) (c := 1) (by decide) (by decide) (zshr p3 x1009)
                refine zj_if_ne (t := 98) (zdk ttX8_leastLean 27 rfl rfl) (by decide) (by omega) (fun c1102 => ?_) (fun c1102 => ?_)
                · refine zj_iinc (L' := [some (.inr p1), some (.inl p2), some (.inl p3), some (.inl p4), some (.inl p5), some (.inl x1008), some (.inl (x1009 + 1)), none]) (zdk ttX8_leastLean 59 rfl rfl) rfl (by decide) rfl ?_
                  refine zj_goto (t := 32) (zdk ttX8_leastLean 60 rfl rfl) (by decide) ?_
                  exact ih1098  x1008 (x1009 + 1) (by omega) (by omega) (by omega)
                · refine zj_iload_n (zdk ttX8_leastLean 28 rfl rfl) rfl ?_
                  refine zj_aload_n (zdk ttX8_leastLean 29 rfl rfl) rfl (by omega) ?_
                  refine zj_getr (r := (p1 + 6)) (zdk ttX8_leastLean 30 rfl rfl) zf_RX8_80 rfl (k_5_0 s0 r_p1) (rf_5_0_8 s0 r_p1) ?_
                  refine zj_iload_n (zdk ttX8_leastLean 31 rfl rfl) rfl ?_
                  have b1103 : -2147483648 ≤ (h.2 (p1 + 6) p2) ∧ (h.2 (p1 + 6) p2) ≤ 2147483647 := ab_5_0_8 s0 r_p1 p2
                  refine zj_iald (v := (h.2 (p1 + 6) p2)) (zdk ttX8_leastLean 32 rfl rfl) (ka_5_0_8 s0 r_p1) (by decide) (by omega) rfl ?_
                  refine zj_aload_n (zdk ttX8_leastLean 33 rfl rfl) rfl (by omega) ?_
                  refine zj_getr (r := (p1 + 5)) (zdk ttX8_leastLean 34 rfl rfl) zf_RX8_83 rfl (k_5_0 s0 r_p1) (rf_5_0_7 s0 r_p1) ?_
                  refine zj_iload (zdk ttX8_leastLean 35 rfl rfl) rfl ?_
                  have b1104 : -2147483648 ≤ (h.2 (p1 + 5) x1009) ∧ (h.2 (p1 + 5) x1009) ≤ 2147483647 := ab_5_0_7 s0 r_p1 x1009
                  refine zj_iald (v := (h.2 (p1 + 5) x1009)) (zdk ttX8_leastLean 36 rfl rfl) (ka_5_0_7 s0 r_p1) (by decide) (by omega) rfl ?_
                  refine zj_imul (zdk ttX8_leastLean 37 rfl rfl) ?_
                  refine zj_wrap ?_
                  have b1105 := zwp_in ((h.2 (p1 + 6) p2) * (h.2 (p1 + 5) x1009))
                  refine zj_iadd (zdk ttX8_leastLean 38 rfl rfl) ?_
                  refine zj_wrap ?_
                  have b1106 := zwp_in (p4 + (zwp ((h.2 (p1 + 6) p2) * (h.2 (p1 + 5) x1009))))
                  refine zj_istore (L' := [some (.inr p1), some (.inl p2), some (.inl p3), some (.inl p4), some (.inl p5), some (.inl x1008), some (.inl x1009), some (.inl (zwp (p4 + (zwp ((h.2 (p1 + 6) p2) * (h.2 (p1 + 5) x1009))))))]) (zdk ttX8_leastLean 39 rfl rfl) (by decide) rfl ?_
                  refine zj_iload (zdk ttX8_leastLean 40 rfl rfl) rfl ?_
                  refine zj_aload_n (zdk ttX8_leastLean 41 rfl rfl) rfl (by omega) ?_
                  refine zj_iload_n (zdk ttX8_leastLean 42 rfl rfl) rfl ?_
                  refine zj_iconst (zdk ttX8_leastLean 43 rfl rfl) ?_
                  refine zj_iadd (zdk ttX8_leastLean 44 rfl rfl) ?_
                  refine zj_iload_n (zdk ttX8_leastLean 45 rfl rfl) rfl ?_
                  refine zj_iconst (zdk ttX8_leastLean 46 rfl rfl) ?_
                  refine zj_iload (zdk ttX8_leastLean 47 rfl rfl) rfl ?_
                  refine zj_ishl (zdk ttX8_leastLean 48 rfl rfl) ?_
                  have b1107 := zshl_1 (n := x1009) (a := 0) (b := 5) (lo := 1) (hi := 32) (by omega) (by decide) (by decide) (by decide)
                  refine zj_ior (zdk ttX8_leastLean 49 rfl rfl) ?_
                  have b1108 := zor_in p3 (zshl 1 x1009)
                  refine zj_iload (zdk ttX8_leastLean 50 rfl rfl) rfl ?_
                  refine zj_iload (zdk ttX8_leastLean 51 rfl rfl) rfl ?_
                  refine zj_bipush (zdk ttX8_leastLean 52 rfl rfl) (by decide) ?_
                  refine zj_imul (zdk ttX8_leastLean 53 rfl rfl) ?_
                  refine zj_wrap ?_
                  have b1109 := zwp_in (p5 * 10)
                  refine zj_iload (zdk ttX8_leastLean 54 rfl rfl) rfl ?_
                  refine zj_iadd (zdk ttX8_leastLean 55 rfl rfl) ?_
                  refine zj_wrap ?_
                  have b1110 := zwp_in ((zwp (p5 * 10)) + x1009)
                  refine zj_callS (av := [.inr p1, .inl (p2 + 1), .inl (zor p3 (zshl 1 x1009)), .inl (zwp (p4 + (zwp ((h.2 (p1 + 6) p2) * (h.2 (p1 + 5) x1009))))), .inl (zwp ((zwp (p5 * 10)) + x1009))]) (st := [.inl x1008]) (zdk ttX8_leastLean 56 rfl rfl) mb_X8_leastLean ms_RX8_86 rfl rfl (Nat.le_of_ble_eq_true rfl) (ihr h p1 (p2 + 1) (zor p3 (zshl 1 x1009)) (zwp (p4 + (zwp ((h.2 (p1 + 6) p2) * (h.2 (p1 + 5) x1009))))) (zwp ((zwp (p5 * 10)) + x1009)) s0 r_p1 (by omega) (by omega) (by omega) (by omega) (by omega)) (rm_ok (by omega) (by decide)) (zq_i fun v1112 h1113 q1111 => ?_)
                  obtain ⟨rfl, b1114⟩ := q1111
                  refine zj_min (zdk ttX8_leastLean 57 rfl rfl) mx_RX8_27 (by omega) (by omega) (Nat.le_of_ble_eq_true rfl) (rm_m (by omega)) ?_
                  have b1115 := zm_min_f x1008 v1112
                  refine zj_istore (L' := [some (.inr p1), some (.inl p2), some (.inl p3), some (.inl p4), some (.inl p5), some (.inl (zm_min x1008 v1112)), some (.inl x1009), some (.inl (zwp (p4 + (zwp ((h.2 (p1 + 6) p2) * (h.2 (p1 + 5) x1009))))))]) (zdk ttX8_leastLean 58 rfl rfl) (by decide) rfl ?_
                  refine zj_iinc (L' := [some (.inr p1), some (.inl p2), some (.inl p3), some (.inl p4), some (.inl p5), some (.inl (zm_min x1008 v1112)), some (.inl (x1009 + 1)), some (.inl (zwp (p4 + (zwp ((h.2 (p1 + 6) p2) * (h.2 (p1 + 5) x1009))))))]) (zdk ttX8_leastLean 59 rfl rfl) rfl (by decide) rfl ?_
                  refine zj_goto (t := 32) (zdk ttX8_leastLean 60 rfl rfl) (by decide) ?_
                  refine zj_kill (k := 7) (L' := [some (.inr p1), some (.inl p2), some (.inl p3), some (.inl p4), some (.inl p5), some (.inl (zm_min x1008 v1112)), some (.inl (x1009 + 1)), none]) rfl ?_
                  exact ih1098  (zm_min x1008 v1112) (x1009 + 1) (by omega) (by omega) (by omega)
          exact lp1094 _ 2147483647 0 (by omega) (by omega) (Nat.lt_succ_self _)
        · exact absurd c1007 (by omega)
    exact hr0

abbrev tX10_level : List (Nat × Instr × Nat) := [(0, .aload_n 0, 1), (1, .getfield 10, 3), (4, .getfield 263, 3), (7, .iconst 0, 1), (8, .iconst 0, 1), (9, .iconst 0, 1), (10, .invokestatic 291, 3), (13, .ireturn, 1)]
theorem ttX10_level : zdt cX10_level tX10_level = true := by decide +kernel
abbrev w_X10_level (a b : Int) : Prop := False
abbrev q_X10_level (h : zM) : Option zV → zM → Prop := zqi fun v h' => ((-2147483648) ≤ v ∧ v ≤ 2147483647) ∧ okC h' ∧ zfC w_X10_level h h'
set_option maxRecDepth 100000 in
set_option maxHeartbeats 4000000 in
theorem s_X10_level (l : Launch) (h : zM) (s0 : okC h) : zT shC l yX10_level cX10_level 1 (some .int) (rmL 13) 0 0 [.inr 0] h (q_X10_level h) := by
  refine zT_of (by decide +kernel) (L0 := [some (.inr 0)]) rfl (Nat.le_of_ble_eq_true rfl) ?_
  refine zj_aload_n (zdk ttX10_level 0 rfl rfl) rfl (by decide) ?_
  refine zj_getr (r := 1) (zdk ttX10_level 1 rfl rfl) zf_RX10_10 rfl (k_L0 s0) (rf_L0_0 s0) ?_
  refine zj_getr (r := 28) (zdk ttX10_level 2 rfl rfl) zf_RX10_263 rfl (k_9_0 s0 zWd_1) (rf_9_0_6 s0 zWd_1) ?_
  refine zj_iconst (zdk ttX10_level 3 rfl rfl) ?_
  refine zj_iconst (zdk ttX10_level 4 rfl rfl) ?_
  refine zj_iconst (zdk ttX10_level 5 rfl rfl) ?_
  refine zj_callS (av := [.inr 28, .inl 0, .inl 0, .inl 0]) (st := []) (zdk ttX10_level 6 rfl rfl) mb_X8_waysToSit ms_RX10_291 rfl rfl (Nat.le_of_ble_eq_true rfl) ((s_X8_waysToSit l 9) h 28 0 0 0 s0 zPu_28 (by omega) (by omega) (by omega) (by omega)) (rm_ok (by decide) (by decide)) (zq_i fun v2 h3 q1 => ?_)
  obtain ⟨rfl, b4⟩ := q1
  exact zj_iret rfl (zdk ttX10_level 7 rfl rfl) (Nat.le_refl _) (Nat.le_refl _) ⟨v2, rfl, by omega, s0, (zfC_r _ _)⟩

abbrev tX10_hung : List (Nat × Instr × Nat) := [(0, .iload_n 1, 1), (1, .iconst 0, 1), (2, .iconst 1, 1), (3, .invokestatic 77, 3), (6, .ifCond .ne 5, 3), (9, .iconst (-1), 1), (10, .ireturn, 1), (11, .aload_n 0, 1), (12, .getfield 10, 3), (15, .getfield 263, 3), (18, .iconst 0, 1), (19, .iconst 0, 1), (20, .iconst 0, 1), (21, .iconst 0, 1), (22, .invokestatic 318, 3), (25, .istore_n 2, 1), (26, .iload_n 1, 1), (27, .ifCond .ne 11, 3), (30, .iload_n 2, 1), (31, .ldc_w 302, 3), (34, .idiv, 1), (35, .goto 8, 3), (38, .iload_n 2, 1), (39, .ldc_w 302, 3), (42, .irem, 1), (43, .ireturn, 1)]
theorem ttX10_hung : zdt cX10_hung tX10_hung = true := by decide +kernel
abbrev w_X10_hung (a b : Int) : Prop := False
abbrev q_X10_hung (h : zM) (p1 : Int) : Option zV → zM → Prop := zqi fun v h' => ((-2147483648) ≤ v ∧ v ≤ 2147483647) ∧ okC h' ∧ zfC w_X10_hung h h'
set_option maxRecDepth 100000 in
set_option maxHeartbeats 4000000 in
theorem s_X10_hung (l : Launch) (h : zM) (p1 : Int) (s0 : okC h) (b_p1 : (-2147483648) ≤ p1 ∧ p1 ≤ 2147483647) : zT shC l yX10_hung cX10_hung 3 (some .int) (rmL 13) 0 0 [.inr 0, .inl p1] h (q_X10_hung h p1) := by
  refine zT_of (by decide +kernel) (L0 := [some (.inr 0), some (.inl p1), none]) rfl (Nat.le_of_ble_eq_true rfl) ?_
  refine zj_iload_n (zdk ttX10_hung 0 rfl rfl) rfl ?_
  refine zj_iconst (zdk ttX10_hung 1 rfl rfl) ?_
  refine zj_iconst (zdk ttX10_hung 2 rfl rfl) ?_
  refine zj_callS (av := [.inl p1, .inl 0, .inl 1]) (st := []) (zdk ttX10_hung 3 rfl rfl) mb_X10_within ms_RX10_77 rfl rfl (Nat.le_of_ble_eq_true rfl) (s_X10_within l h p1 0 1 s0 (by omega) (by omega) (by omega)) (rm_ok (by decide) (by decide)) (zq_i fun v2 h3 q1 => ?_)
  obtain ⟨rfl, ⟨rfl, b4⟩ | ⟨rfl, b4⟩⟩ := q1
  · refine zj_if_ne (t := 11) (zdk ttX10_hung 4 rfl rfl) (by decide) (by decide) (fun c5 => ?_) (fun c5 => ?_)
    · exact absurd c5 (by omega)
    · refine zj_iconst (zdk ttX10_hung 5 rfl rfl) ?_
      exact zj_iret rfl (zdk ttX10_hung 6 rfl rfl) (Nat.le_refl _) (Nat.le_refl _) ⟨(-1), rfl, by omega, s0, (zfC_r _ _)⟩
  · refine zj_if_ne (t := 11) (zdk ttX10_hung 4 rfl rfl) (by decide) (by decide) (fun c6 => ?_) (fun c6 => ?_)
    · refine zj_aload_n (zdk ttX10_hung 7 rfl rfl) rfl (by decide) ?_
      refine zj_getr (r := 1) (zdk ttX10_hung 8 rfl rfl) zf_RX10_10 rfl (k_L0 s0) (rf_L0_0 s0) ?_
      refine zj_getr (r := 28) (zdk ttX10_hung 9 rfl rfl) zf_RX10_263 rfl (k_9_0 s0 zWd_1) (rf_9_0_6 s0 zWd_1) ?_
      refine zj_iconst (zdk ttX10_hung 10 rfl rfl) ?_
      refine zj_iconst (zdk ttX10_hung 11 rfl rfl) ?_
      refine zj_iconst (zdk ttX10_hung 12 rfl rfl) ?_
      refine zj_iconst (zdk ttX10_hung 13 rfl rfl) ?_
      refine zj_callS (av := [.inr 28, .inl 0, .inl 0, .inl 0, .inl 0]) (st := []) (zdk ttX10_hung 14 rfl rfl) mb_X8_leastLean ms_RX10_318 rfl rfl (Nat.le_of_ble_eq_true rfl) ((s_X8_leastLean l 8) h 28 0 0 0 0 s0 zPu_28 (by omega) (by omega) (by omega) (by omega) (by omega)) (rm_ok (by decide) (by decide)) (zq_i fun v8 h9 q7 => ?_)
      obtain ⟨rfl, b10⟩ := q7
      refine zj_istore_n (L' := [some (.inr 0), some (.inl p1), some (.inl v8)]) (zdk ttX10_hung 15 rfl rfl) (by decide) rfl ?_
      refine zj_iload_n (zdk ttX10_hung 16 rfl rfl) rfl ?_
      refine zj_if_ne (t := 38) (zdk ttX10_hung 17 rfl rfl) (by decide) (by omega) (fun c11 => ?_) (fun c11 => ?_)
      · refine zj_iload_n (zdk ttX10_hung 22 rfl rfl) rfl ?_
        refine zj_ldc_w (z := 1000000) (zdk ttX10_hung 23 rfl rfl) wc_RX10_302 ?_
        refine zj_irem (zdk ttX10_hung 24 rfl rfl) (by omega) (by decide) (by omega) ?_
        have b12 := ztm_c v8 1000000 (by decide)
        exact zj_iret rfl (zdk ttX10_hung 25 rfl rfl) (Nat.le_refl _) (Nat.le_refl _) ⟨(v8.tmod 1000000), rfl, by omega, s0, (zfC_r _ _)⟩
      · refine zj_iload_n (zdk ttX10_hung 18 rfl rfl) rfl ?_
        refine zj_ldc_w (z := 1000000) (zdk ttX10_hung 19 rfl rfl) wc_RX10_302 ?_
        refine zj_idiv (zdk ttX10_hung 20 rfl rfl) (by omega) (by decide) (by omega) ?_
        have b13 := ztd_c v8 1000000 (by decide)
        refine zj_goto (t := 43) (zdk ttX10_hung 21 rfl rfl) (by decide) ?_
        exact zj_iret rfl (zdk ttX10_hung 25 rfl rfl) (Nat.le_refl _) (Nat.le_refl _) ⟨(v8.tdiv 1000000), rfl, by omega, s0, (zfC_r _ _)⟩
    · exact absurd c6 (by omega)

