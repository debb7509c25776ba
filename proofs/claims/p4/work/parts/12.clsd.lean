abbrev tX6_isWord : List (Nat × Instr × Nat) := [(0, .aload_n 0, 1), (1, .getfield 31, 3), (4, .sipush 200, 3), (7, .iload_n 1, 1), (8, .iadd, 1), (9, .if_icmp .lt 19, 3), (12, .aload_n 0, 1), (13, .getfield 31, 3), (16, .sipush 200, 3), (19, .iload_n 2, 1), (20, .iadd, 1), (21, .if_icmp .gt 7, 3), (24, .iconst 1, 1), (25, .goto 4, 3), (28, .iconst 0, 1), (29, .ireturn, 1)]
theorem ttX6_isWord : zdt cX6_isWord tX6_isWord = true := by decide +kernel
abbrev q_X6_isWord (h : zM) (p1 : Int) (p2 : Int) : Option zV → zM → Prop := zqi fun v h' => h = h' ∧ ((-2147483648) ≤ (h.2 103 6) ∧ (h.2 103 6) ≤ 2147483647) ∧ ((v = 0 ∧ (((h.2 103 6) < (200 + p1)) ∨ ((200 + p1) ≤ (h.2 103 6) ∧ (200 + p2) < (h.2 103 6)))) ∨ (v = 1 ∧ ((200 + p1) ≤ (h.2 103 6) ∧ (h.2 103 6) ≤ (200 + p2))))
set_option maxRecDepth 100000 in
set_option maxHeartbeats 4000000 in
theorem s_X6_isWord (l : Launch) (h : zM) (p1 : Int) (p2 : Int) (s0 : okC h) (b_p1 : 0 ≤ p1 ∧ p1 ≤ 20) (b_p2 : 0 ≤ p2 ∧ p2 ≤ 20) : zT shC l yX6_isWord cX6_isWord 3 (some .boolean) (rmL 1) 0 0 [.inr 103, .inl p1, .inl p2] h (q_X6_isWord h p1 p2) := by
  refine zT_of (by decide +kernel) (L0 := [some (.inr 103), some (.inl p1), some (.inl p2)]) rfl (Nat.le_of_ble_eq_true rfl) ?_
  have b1 : (-2147483648) ≤ (h.2 103 6) ∧ (h.2 103 6) ≤ 2147483647 := fb_L103_6 s0
  refine zj_aload_n (zdk ttX6_isWord 0 rfl rfl) rfl (by decide) ?_
  refine zj_geti (v := (h.2 103 6)) (zdk ttX6_isWord 1 rfl rfl) zf_RX6_31 rfl (k_L103 s0) rfl ?_
  refine zj_sipush (zdk ttX6_isWord 2 rfl rfl) (by decide) ?_
  refine zj_iload_n (zdk ttX6_isWord 3 rfl rfl) rfl ?_
  refine zj_iadd (zdk ttX6_isWord 4 rfl rfl) ?_
  refine zj_icmp_lt (t := 28) (zdk ttX6_isWord 5 rfl rfl) (by decide) (by omega) (by omega) (fun c2 => ?_) (fun c2 => ?_)
  · refine zj_iconst (zdk ttX6_isWord 14 rfl rfl) ?_
    exact zj_zret rfl (zdk ttX6_isWord 15 rfl rfl) (Nat.le_refl _) (Nat.le_refl _) (by omega) ⟨0, rfl, rfl, b1, (Or.inl ⟨rfl, (Or.inl (by omega))⟩)⟩
  · refine zj_aload_n (zdk ttX6_isWord 6 rfl rfl) rfl (by decide) ?_
    refine zj_geti (v := (h.2 103 6)) (zdk ttX6_isWord 7 rfl rfl) zf_RX6_31 rfl (k_L103 s0) rfl ?_
    refine zj_sipush (zdk ttX6_isWord 8 rfl rfl) (by decide) ?_
    refine zj_iload_n (zdk ttX6_isWord 9 rfl rfl) rfl ?_
    refine zj_iadd (zdk ttX6_isWord 10 rfl rfl) ?_
    refine zj_icmp_gt (t := 28) (zdk ttX6_isWord 11 rfl rfl) (by decide) (by omega) (by omega) (fun c3 => ?_) (fun c3 => ?_)
    · refine zj_iconst (zdk ttX6_isWord 14 rfl rfl) ?_
      exact zj_zret rfl (zdk ttX6_isWord 15 rfl rfl) (Nat.le_refl _) (Nat.le_refl _) (by omega) ⟨0, rfl, rfl, b1, (Or.inl ⟨rfl, (Or.inr (by omega))⟩)⟩
    · refine zj_iconst (zdk ttX6_isWord 12 rfl rfl) ?_
      refine zj_goto (t := 29) (zdk ttX6_isWord 13 rfl rfl) (by decide) ?_
      exact zj_zret rfl (zdk ttX6_isWord 15 rfl rfl) (Nat.le_refl _) (Nat.le_refl _) (by omega) ⟨1, rfl, rfl, b1, (Or.inr ⟨rfl, by omega⟩)⟩

abbrev tX6_pass : List (Nat × Instr × Nat) := [(0, .aload_n 0, 1), (1, .getfield 28, 3), (4, .iconst 1, 1), (5, .iadd, 1), (6, .aload_n 0, 1), (7, .getfield 25, 3), (10, .if_icmp .ge 26, 3), (13, .aload_n 0, 1), (14, .dup, 1), (15, .getfield 28, 3), (18, .iconst 1, 1), (19, .iadd, 1), (20, .putfield 28, 3), (23, .aload_n 0, 1), (24, .aload_n 0, 1), (25, .getfield 15, 3), (28, .aload_n 0, 1), (29, .getfield 28, 3), (32, .iaload, 1), (33, .putfield 31, 3), (36, .return_, 1)]
theorem ttX6_pass : zdt cX6_pass tX6_pass = true := by decide +kernel
abbrev w_X6_pass (a b : Int) : Prop := (a = 103 ∧ 5 ≤ b ∧ b ≤ 6)
abbrev q_X6_pass (h : zM) : Option zV → zM → Prop := zqv fun h' => okC h' ∧ zfC w_X6_pass h h'
set_option maxRecDepth 100000 in
set_option maxHeartbeats 4000000 in
theorem s_X6_pass (l : Launch) (h : zM) (s0 : okC h) : zT shC l yX6_pass cX6_pass 1 none (rmL 1) 0 0 [.inr 103] h (q_X6_pass h) := by
  refine zT_of (by decide +kernel) (L0 := [some (.inr 103)]) rfl (Nat.le_of_ble_eq_true rfl) ?_
  refine zj_aload_n (zdk ttX6_pass 0 rfl rfl) rfl (by decide) ?_
  have b1 : 0 ≤ (h.2 103 5) ∧ (h.2 103 5) ≤ 400 := fb_L103_5 s0
  refine zj_geti (v := (h.2 103 5)) (zdk ttX6_pass 1 rfl rfl) zf_RX6_28 rfl (k_L103 s0) rfl ?_
  refine zj_iconst (zdk ttX6_pass 2 rfl rfl) ?_
  refine zj_iadd (zdk ttX6_pass 3 rfl rfl) ?_
  refine zj_aload_n (zdk ttX6_pass 4 rfl rfl) rfl (by decide) ?_
  have b2 : 0 ≤ (h.2 103 4) ∧ (h.2 103 4) ≤ 401 := fb_L103_4 s0
  refine zj_geti (v := (h.2 103 4)) (zdk ttX6_pass 5 rfl rfl) zf_RX6_25 rfl (k_L103 s0) rfl ?_
  refine zj_icmp_ge (t := 36) (zdk ttX6_pass 6 rfl rfl) (by decide) (by omega) (by omega) (fun c3 => ?_) (fun c3 => ?_)
  · exact zj_vret rfl (zdk ttX6_pass 20 rfl rfl) (Nat.le_refl _) (Nat.le_refl _) ⟨rfl, s0, (zfC_r _ _)⟩
  · refine zj_aload_n (zdk ttX6_pass 7 rfl rfl) rfl (by decide) ?_
    refine zj_dup (zdk ttX6_pass 8 rfl rfl) ?_
    refine zj_geti (v := (h.2 103 5)) (zdk ttX6_pass 9 rfl rfl) zf_RX6_28 rfl (k_L103 s0) rfl ?_
    refine zj_iconst (zdk ttX6_pass 10 rfl rfl) ?_
    refine zj_iadd (zdk ttX6_pass 11 rfl rfl) ?_
    refine zj_puti (zdk ttX6_pass 12 rfl rfl) zf_RX6_28 rfl (k_L103 s0) (Or.inl zw_RX6_28) (k2 := 5) rfl (fun h4 e5 => ?_)
    refine zj_aload_n (zdk ttX6_pass 13 rfl rfl) rfl (by decide) ?_
    refine zj_aload_n (zdk ttX6_pass 14 rfl rfl) rfl (by decide) ?_
    have s6 : okC h4 := fw_L103_5 s0 e5 (by omega)
    refine zj_getr (r := 105) (zdk ttX6_pass 15 rfl rfl) zf_RX6_15 rfl (k_L103 s6) (rf_L103_1 s6) ?_
    refine zj_aload_n (zdk ttX6_pass 16 rfl rfl) rfl (by decide) ?_
    refine zj_geti (v := ((h.2 103 5) + 1)) (zdk ttX6_pass 17 rfl rfl) zf_RX6_28 rfl (k_L103 s6) (zwr_v e5) ?_
    have b7 : -2147483648 ≤ (h.2 105 ((h.2 103 5) + 1)) ∧ (h.2 105 ((h.2 103 5) + 1)) ≤ 2147483647 := ab_L103_1 s0 ((h.2 103 5) + 1)
    refine zj_iald (v := (h.2 105 ((h.2 103 5) + 1))) (zdk ttX6_pass 18 rfl rfl) (ka_L103_1 s6) (by decide) (by omega) (zwr_r e5 (by first | decide | exact (absurd ·.1 (by decide)) | exact (absurd ·.2 (by decide)) | omega)) ?_
    refine zj_puti (zdk ttX6_pass 19 rfl rfl) zf_RX6_31 rfl (k_L103 s6) (Or.inl zw_RX6_31) (k2 := 6) rfl (fun h8 e9 => ?_)
    have s10 : okC h8 := fw_L103_6 s6 e9 (by omega)
    have f12 : zfC w_X6_pass h h4 := zfC_w (zfC_r _ _) e5 (by omega)
    have f11 : zfC w_X6_pass h h8 := zfC_w f12 e9 (by omega)
    exact zj_vret rfl (zdk ttX6_pass 20 rfl rfl) (Nat.le_refl _) (Nat.le_refl _) ⟨rfl, s10, f11⟩

abbrev tX6_refuse : List (Nat × Instr × Nat) := [(0, .aload_n 0, 1), (1, .iload_n 1, 1), (2, .putfield 34, 3), (5, .aload_n 0, 1), (6, .aload_n 0, 1), (7, .getfield 18, 3), (10, .aload_n 0, 1), (11, .getfield 28, 3), (14, .iaload, 1), (15, .putfield 37, 3), (18, .iconst 0, 1), (19, .ireturn, 1)]
theorem ttX6_refuse : zdt cX6_refuse tX6_refuse = true := by decide +kernel
abbrev w_X6_refuse (a b : Int) : Prop := (a = 103 ∧ 7 ≤ b ∧ b ≤ 8)
abbrev q_X6_refuse (h : zM) (p1 : Int) : Option zV → zM → Prop := zqi fun v h' => (0 ≤ v ∧ v ≤ 0) ∧ okC h' ∧ zfC w_X6_refuse h h'
set_option maxRecDepth 100000 in
set_option maxHeartbeats 4000000 in
theorem s_X6_refuse (l : Launch) (h : zM) (p1 : Int) (s0 : okC h) (b_p1 : (-2147483648) ≤ p1 ∧ p1 ≤ 2147483647) : zT shC l yX6_refuse cX6_refuse 2 (some .boolean) (rmL 1) 0 0 [.inr 103, .inl p1] h (q_X6_refuse h p1) := by
  refine zT_of (by decide +kernel) (L0 := [some (.inr 103), some (.inl p1)]) rfl (Nat.le_of_ble_eq_true rfl) ?_
  refine zj_aload_n (zdk ttX6_refuse 0 rfl rfl) rfl (by decide) ?_
  refine zj_iload_n (zdk ttX6_refuse 1 rfl rfl) rfl ?_
  refine zj_puti (zdk ttX6_refuse 2 rfl rfl) zf_RX6_34 rfl (k_L103 s0) (Or.inl zw_RX6_34) (k2 := 7) rfl (fun h1 e2 => ?_)
  refine zj_aload_n (zdk ttX6_refuse 3 rfl rfl) rfl (by decide) ?_
  refine zj_aload_n (zdk ttX6_refuse 4 rfl rfl) rfl (by decide) ?_
  have s3 : okC h1 := fw_L103_7 s0 e2 (by omega)
  refine zj_getr (r := 106) (zdk ttX6_refuse 5 rfl rfl) zf_RX6_18 rfl (k_L103 s3) (rf_L103_2 s3) ?_
  refine zj_aload_n (zdk ttX6_refuse 6 rfl rfl) rfl (by decide) ?_
  have b4 : 0 ≤ (h.2 103 5) ∧ (h.2 103 5) ≤ 400 := fb_L103_5 s0
  refine zj_geti (v := (h.2 103 5)) (zdk ttX6_refuse 7 rfl rfl) zf_RX6_28 rfl (k_L103 s3) (zwr_r e2 (by first | decide | exact (absurd ·.1 (by decide)) | exact (absurd ·.2 (by decide)) | omega)) ?_
  have b5 : -2147483648 ≤ (h.2 106 (h.2 103 5)) ∧ (h.2 106 (h.2 103 5)) ≤ 2147483647 := ab_L103_2 s0 (h.2 103 5)
  refine zj_iald (v := (h.2 106 (h.2 103 5))) (zdk ttX6_refuse 8 rfl rfl) (ka_L103_2 s3) (by decide) (by omega) (zwr_r e2 (by first | decide | exact (absurd ·.1 (by decide)) | exact (absurd ·.2 (by decide)) | omega)) ?_
  refine zj_puti (zdk ttX6_refuse 9 rfl rfl) zf_RX6_37 rfl (k_L103 s3) (Or.inl zw_RX6_37) (k2 := 8) rfl (fun h6 e7 => ?_)
  refine zj_iconst (zdk ttX6_refuse 10 rfl rfl) ?_
  have s8 : okC h6 := fw_L103_8 s3 e7 (by omega)
  have f10 : zfC w_X6_refuse h h1 := zfC_w (zfC_r _ _) e2 (by omega)
  have f9 : zfC w_X6_refuse h h6 := zfC_w f10 e7 (by omega)
  exact zj_zret rfl (zdk ttX6_refuse 11 rfl rfl) (Nat.le_refl _) (Nat.le_refl _) (by omega) ⟨0, rfl, by omega, s8, f9⟩

abbrev tX6_takes : List (Nat × Instr × Nat) := [(0, .aload_n 0, 1), (1, .getfield 31, 3), (4, .iload_n 1, 1), (5, .if_icmp .eq 9, 3), (8, .aload_n 0, 1), (9, .iconst 1, 1), (10, .invokevirtual 81, 3), (13, .ireturn, 1), (14, .aload_n 0, 1), (15, .invokevirtual 84, 3), (18, .iconst 1, 1), (19, .ireturn, 1)]
theorem ttX6_takes : zdt cX6_takes tX6_takes = true := by decide +kernel
abbrev w_X6_takes (a b : Int) : Prop := (a = 103 ∧ 5 ≤ b ∧ b ≤ 8)
abbrev q_X6_takes (h : zM) (p1 : Int) : Option zV → zM → Prop := zqi fun v h' => (0 ≤ v ∧ v ≤ 1) ∧ okC h' ∧ zfC w_X6_takes h h'
set_option maxRecDepth 100000 in
set_option maxHeartbeats 4000000 in
theorem s_X6_takes (l : Launch) (h : zM) (p1 : Int) (s0 : okC h) (b_p1 : (-2147483648) ≤ p1 ∧ p1 ≤ 2147483647) : zT shC l yX6_takes cX6_takes 2 (some .boolean) (rmL 2) 0 0 [.inr 103, .inl p1] h (q_X6_takes h p1) := by
  refine zT_of (by decide +kernel) (L0 := [some (.inr 103), some (.inl p1)]) rfl (Nat.le_of_ble_eq_true rfl) ?_
  refine zj_aload_n (zdk ttX6_takes 0 rfl rfl) rfl (by decide) ?_
  have b1 : -2147483648 ≤ (h.2 103 6) ∧ (h.2 103 6) ≤ 2147483647 := fb_L103_6 s0
  refine zj_geti (v := (h.2 103 6)) (zdk ttX6_takes 1 rfl rfl) zf_RX6_31 rfl (k_L103 s0) rfl ?_
  refine zj_iload_n (zdk ttX6_takes 2 rfl rfl) rfl ?_
  refine zj_icmp_eq (t := 14) (zdk ttX6_takes 3 rfl rfl) (by decide) (by omega) (by omega) (fun c2 => ?_) (fun c2 => ?_)
  · refine zj_aload_n (zdk ttX6_takes 8 rfl rfl) rfl (by decide) ?_
    refine zj_callV (av := []) (st := []) (zdk ttX6_takes 9 rfl rfl) mb_X6_pass mv_RX6_84 (ci := 6) rfl rfl (k_L103 s0) rfl rfl (Nat.le_of_ble_eq_true rfl) (s_X6_pass l h s0) (rm_ok (by decide) (by decide)) (zq_v fun h5 q3 => ?_)
    obtain ⟨s7, f8⟩ := q3
    refine zj_iconst (zdk ttX6_takes 10 rfl rfl) ?_
    have f9 : zfC w_X6_takes h h5 := zfC_t (zfC_r _ _) f8 (fun a9 b9 z9 => by
      exact (by omega))
    exact zj_zret rfl (zdk ttX6_takes 11 rfl rfl) (Nat.le_refl _) (Nat.le_refl _) (by omega) ⟨1, rfl, by omega, s7, f9⟩
  · refine zj_aload_n (zdk ttX6_takes 4 rfl rfl) rfl (by decide) ?_
    refine zj_iconst (zdk ttX6_takes 5 rfl rfl) ?_
    refine zj_callV (av := [.inl 1]) (st := []) (zdk ttX6_takes 6 rfl rfl) mb_X6_refuse mv_RX6_81 (ci := 6) rfl rfl (k_L103 s0) rfl rfl (Nat.le_of_ble_eq_true rfl) (s_X6_refuse l h 1 s0 (by omega)) (rm_ok (by decide) (by decide)) (zq_i fun v11 h12 q10 => ?_)
    obtain ⟨b13, s14, f15⟩ := q10
    have f16 : zfC w_X6_takes h h12 := zfC_t (zfC_r _ _) f15 (fun a9 b9 z9 => by
      exact (by omega))
    exact zj_zret rfl (zdk ttX6_takes 7 rfl rfl) (Nat.le_refl _) (Nat.le_refl _) (by omega) ⟨v11, rfl, by omega, s14, f16⟩

abbrev tX6_takesNumber : List (Nat × Instr × Nat) := [(0, .aload_n 0, 1), (1, .invokevirtual 87, 3), (4, .ifCond .ne 9, 3), (7, .aload_n 0, 1), (8, .iconst 1, 1), (9, .invokevirtual 81, 3), (12, .ireturn, 1), (13, .aload_n 0, 1), (14, .aload_n 0, 1), (15, .getfield 31, 3), (18, .sipush 1000, 3), (21, .isub, 1), (22, .putfield 40, 3), (25, .aload_n 0, 1), (26, .getfield 40, 3), (29, .iload_n 1, 1), (30, .iload_n 2, 1), (31, .invokestatic 91, 3), (34, .ifCond .ne 9, 3), (37, .aload_n 0, 1), (38, .iconst 2, 1), (39, .invokevirtual 81, 3), (42, .ireturn, 1), (43, .aload_n 0, 1), (44, .invokevirtual 84, 3), (47, .iconst 1, 1), (48, .ireturn, 1)]
theorem ttX6_takesNumber : zdt cX6_takesNumber tX6_takesNumber = true := by decide +kernel
abbrev w_X6_takesNumber (a b : Int) : Prop := (a = 103 ∧ 5 ≤ b ∧ b ≤ 9)
abbrev q_X6_takesNumber (h : zM) (p1 : Int) (p2 : Int) : Option zV → zM → Prop := zqi fun v h' => (0 ≤ v ∧ v ≤ 1) ∧ okC h' ∧ zfC w_X6_takesNumber h h'
set_option maxRecDepth 100000 in
set_option maxHeartbeats 4000000 in
theorem s_X6_takesNumber (l : Launch) (h : zM) (p1 : Int) (p2 : Int) (s0 : okC h) (b_p1 : (-2147483648) ≤ p1 ∧ p1 ≤ 2147483647) (b_p2 : (-2147483648) ≤ p2 ∧ p2 ≤ 2147483647) : zT shC l yX6_takesNumber cX6_takesNumber 3 (some .boolean) (rmL 2) 0 0 [.inr 103, .inl p1, .inl p2] h (q_X6_takesNumber h p1 p2) := by
  refine zT_of (by decide +kernel) (L0 := [some (.inr 103), some (.inl p1), some (.inl p2)]) rfl (Nat.le_of_ble_eq_true rfl) ?_
  refine zj_aload_n (zdk ttX6_takesNumber 0 rfl rfl) rfl (by decide) ?_
  refine zj_callV (av := []) (st := []) (zdk ttX6_takesNumber 1 rfl rfl) mb_X6_isNumber mv_RX6_87 (ci := 6) rfl rfl (k_L103 s0) rfl rfl (Nat.le_of_ble_eq_true rfl) (s_X6_isNumber l h s0) (rm_ok (by decide) (by decide)) (zq_i fun v2 h3 q1 => ?_)
  obtain ⟨rfl, b5, ⟨rfl, b4⟩ | ⟨rfl, b4⟩⟩ := q1
  · refine zj_if_ne (t := 13) (zdk ttX6_takesNumber 2 rfl rfl) (by decide) (by decide) (fun c6 => ?_) (fun c6 => ?_)
    · exact absurd c6 (by omega)
    · refine zj_aload_n (zdk ttX6_takesNumber 3 rfl rfl) rfl (by decide) ?_
      refine zj_iconst (zdk ttX6_takesNumber 4 rfl rfl) ?_
      refine zj_callV (av := [.inl 1]) (st := []) (zdk ttX6_takesNumber 5 rfl rfl) mb_X6_refuse mv_RX6_81 (ci := 6) rfl rfl (k_L103 s0) rfl rfl (Nat.le_of_ble_eq_true rfl) (s_X6_refuse l h 1 s0 (by omega)) (rm_ok (by decide) (by decide)) (zq_i fun v8 h9 q7 => ?_)
      obtain ⟨b10, s11, f12⟩ := q7
      have f13 : zfC w_X6_takesNumber h h9 := zfC_t (zfC_r _ _) f12 (fun a9 b9 z9 => by
        exact (by omega))
      exact zj_zret rfl (zdk ttX6_takesNumber 6 rfl rfl) (Nat.le_refl _) (Nat.le_refl _) (by omega) ⟨v8, rfl, by omega, s11, f13⟩
  · refine zj_if_ne (t := 13) (zdk ttX6_takesNumber 2 rfl rfl) (by decide) (by decide) (fun c14 => ?_) (fun c14 => ?_)
    · refine zj_aload_n (zdk ttX6_takesNumber 7 rfl rfl) rfl (by decide) ?_
      refine zj_aload_n (zdk ttX6_takesNumber 8 rfl rfl) rfl (by decide) ?_
      refine zj_geti (v := (h.2 103 6)) (zdk ttX6_takesNumber 9 rfl rfl) zf_RX6_31 rfl (k_L103 s0) rfl ?_
      refine zj_sipush (zdk ttX6_takesNumber 10 rfl rfl) (by decide) ?_
      refine zj_isub (zdk ttX6_takesNumber 11 rfl rfl) ?_
      refine zj_puti (zdk ttX6_takesNumber 12 rfl rfl) zf_RX6_40 rfl (k_L103 s0) (Or.inl zw_RX6_40) (k2 := 9) rfl (fun h15 e16 => ?_)
      refine zj_aload_n (zdk ttX6_takesNumber 13 rfl rfl) rfl (by decide) ?_
      have s17 : okC h15 := fw_L103_9 s0 e16 (by omega)
      refine zj_geti (v := ((h.2 103 6) - 1000)) (zdk ttX6_takesNumber 14 rfl rfl) zf_RX6_40 rfl (k_L103 s17) (zwr_v e16) ?_
      refine zj_iload_n (zdk ttX6_takesNumber 15 rfl rfl) rfl ?_
      refine zj_iload_n (zdk ttX6_takesNumber 16 rfl rfl) rfl ?_
      refine zj_callS (av := [.inl ((h.2 103 6) - 1000), .inl p1, .inl p2]) (st := []) (zdk ttX6_takesNumber 17 rfl rfl) mb_X10_within ms_RX6_91 rfl rfl (Nat.le_of_ble_eq_true rfl) (s_X10_within l h15 ((h.2 103 6) - 1000) p1 p2 s17 (by omega) (by omega) (by omega)) (rm_ok (by decide) (by decide)) (zq_i fun v19 h20 q18 => ?_)
      obtain ⟨rfl, ⟨rfl, b21⟩ | ⟨rfl, b21⟩⟩ := q18
      · refine zj_if_ne (t := 43) (zdk ttX6_takesNumber 18 rfl rfl) (by decide) (by decide) (fun c22 => ?_) (fun c22 => ?_)
        · exact absurd c22 (by omega)
        · refine zj_aload_n (zdk ttX6_takesNumber 19 rfl rfl) rfl (by decide) ?_
          refine zj_iconst (zdk ttX6_takesNumber 20 rfl rfl) ?_
          refine zj_callV (av := [.inl 2]) (st := []) (zdk ttX6_takesNumber 21 rfl rfl) mb_X6_refuse mv_RX6_81 (ci := 6) rfl rfl (k_L103 s17) rfl rfl (Nat.le_of_ble_eq_true rfl) (s_X6_refuse l h15 2 s17 (by omega)) (rm_ok (by decide) (by decide)) (zq_i fun v24 h25 q23 => ?_)
          obtain ⟨b26, s27, f28⟩ := q23
          have f30 : zfC w_X6_takesNumber h h15 := zfC_w (zfC_r _ _) e16 (by omega)
          have f29 : zfC w_X6_takesNumber h h25 := zfC_t f30 f28 (fun a9 b9 z9 => by
            exact (by omega))
          exact zj_zret rfl (zdk ttX6_takesNumber 22 rfl rfl) (Nat.le_refl _) (Nat.le_refl _) (by omega) ⟨v24, rfl, by omega, s27, f29⟩
      · refine zj_if_ne (t := 43) (zdk ttX6_takesNumber 18 rfl rfl) (by decide) (by decide) (fun c31 => ?_) (fun c31 => ?_)
        · refine zj_aload_n (zdk ttX6_takesNumber 23 rfl rfl) rfl (by decide) ?_
          refine zj_callV (av := []) (st := []) (zdk ttX6_takesNumber 24 rfl rfl) mb_X6_pass mv_RX6_84 (ci := 6) rfl rfl (k_L103 s17) rfl rfl (Nat.le_of_ble_eq_true rfl) (s_X6_pass l h15 s17) (rm_ok (by decide) (by decide)) (zq_v fun h34 q32 => ?_)
          obtain ⟨s36, f37⟩ := q32
          refine zj_iconst (zdk ttX6_takesNumber 25 rfl rfl) ?_
          have f39 : zfC w_X6_takesNumber h h15 := zfC_w (zfC_r _ _) e16 (by omega)
          have f38 : zfC w_X6_takesNumber h h34 := zfC_t f39 f37 (fun a9 b9 z9 => by
            exact (by omega))
          exact zj_zret rfl (zdk ttX6_takesNumber 26 rfl rfl) (Nat.le_refl _) (Nat.le_refl _) (by omega) ⟨1, rfl, by omega, s36, f38⟩
        · exact absurd c31 (by omega)
    · exact absurd c14 (by omega)

abbrev tX10_forget : List (Nat × Instr × Nat) := [(0, .aload_n 0, 1), (1, .iconst 0, 1), (2, .putfield 55, 3), (5, .return_, 1)]
theorem ttX10_forget : zdt cX10_forget tX10_forget = true := by decide +kernel
abbrev w_X10_forget (a b : Int) : Prop := (a = 0 ∧ b = 8)
abbrev q_X10_forget (h : zM) : Option zV → zM → Prop := zqv fun h' => okC h' ∧ zfC w_X10_forget h h' ∧ (h'.2 0 8 = 0)
set_option maxRecDepth 100000 in
set_option maxHeartbeats 4000000 in
theorem s_X10_forget (l : Launch) (h : zM) (s0 : okC h) : zT shC l yX10_forget cX10_forget 1 none (rmL 1) 0 0 [.inr 0] h (q_X10_forget h) := by
  refine zT_of (by decide +kernel) (L0 := [some (.inr 0)]) rfl (Nat.le_of_ble_eq_true rfl) ?_
  refine zj_aload_n (zdk ttX10_forget 0 rfl rfl) rfl (by decide) ?_
  refine zj_iconst (zdk ttX10_forget 1 rfl rfl) ?_
  refine zj_puti (zdk ttX10_forget 2 rfl rfl) zf_RX10_55 rfl (k_L0 s0) (Or.inl zw_RX10_55) (k2 := 8) rfl (fun h1 e2 => ?_)
  have s3 : okC h1 := fw_L0_8 s0 e2 (by omega)
  have f4 : zfC w_X10_forget h h1 := zfC_w (zfC_r _ _) e2 (by omega)
  have b5 : h1.2 0 8 = 0 := (zwr_v e2)
  exact zj_vret rfl (zdk ttX10_forget 3 rfl rfl) (Nat.le_refl _) (Nat.le_refl _) ⟨rfl, s3, f4, by omega⟩

abbrev tX10_state : List (Nat × Instr × Nat) := [(0, .aload_n 0, 1), (1, .getfield 10, 3), (4, .getfield 67, 3), (7, .getfield 71, 3), (10, .istore_n 2, 1), (11, .aload_n 0, 1), (12, .getfield 10, 3), (15, .getfield 67, 3), (18, .iload_n 1, 1), (19, .putfield 71, 3), (22, .aload_n 0, 1), (23, .invokevirtual 74, 3), (26, .iload_n 2, 1), (27, .ireturn, 1)]
theorem ttX10_state : zdt cX10_state tX10_state = true := by decide +kernel
abbrev w_X10_state (a b : Int) : Prop := (a = 0 ∧ b = 8) ∨ (a = 2 ∧ b = 13)
abbrev q_X10_state (h : zM) (p1 : Int) : Option zV → zM → Prop := zqi fun v h' => ((-2147483648) ≤ v ∧ v ≤ 2147483647) ∧ okC h' ∧ zfC w_X10_state h h' ∧ (zJP h → zJP h')
set_option maxRecDepth 100000 in
set_option maxHeartbeats 4000000 in
theorem s_X10_state (l : Launch) (h : zM) (p1 : Int) (s0 : okC h) (b_p1 : (-2147483648) ≤ p1 ∧ p1 ≤ 2147483647) : zT shC l yX10_state cX10_state 3 (some .int) (rmL 2) 0 0 [.inr 0, .inl p1] h (q_X10_state h p1) := by
  refine zT_of (by decide +kernel) (L0 := [some (.inr 0), some (.inl p1), none]) rfl (Nat.le_of_ble_eq_true rfl) ?_
  refine zj_aload_n (zdk ttX10_state 0 rfl rfl) rfl (by decide) ?_
  refine zj_getr (r := 1) (zdk ttX10_state 1 rfl rfl) zf_RX10_10 rfl (k_L0 s0) (rf_L0_0 s0) ?_
  refine zj_getr (r := 2) (zdk ttX10_state 2 rfl rfl) zf_RX10_67 rfl (k_9_0 s0 zWd_1) (rf_9_0_0 s0 zWd_1) ?_
  have b1 : -2147483648 ≤ (h.2 2 13) ∧ (h.2 2 13) ≤ 2147483647 := fb_1_0_13 s0 zIs_2
  refine zj_geti (v := (h.2 2 13)) (zdk ttX10_state 3 rfl rfl) zf_RX10_71 rfl (k_1_0 s0 zIs_2) rfl ?_
  refine zj_istore_n (L' := [some (.inr 0), some (.inl p1), some (.inl (h.2 2 13))]) (zdk ttX10_state 4 rfl rfl) (by decide) rfl ?_
  refine zj_aload_n (zdk ttX10_state 5 rfl rfl) rfl (by decide) ?_
  refine zj_getr (r := 1) (zdk ttX10_state 6 rfl rfl) zf_RX10_10 rfl (k_L0 s0) (rf_L0_0 s0) ?_
  refine zj_getr (r := 2) (zdk ttX10_state 7 rfl rfl) zf_RX10_67 rfl (k_9_0 s0 zWd_1) (rf_9_0_0 s0 zWd_1) ?_
  refine zj_iload_n (zdk ttX10_state 8 rfl rfl) rfl ?_
  refine zj_puti (zdk ttX10_state 9 rfl rfl) zf_RX10_71 rfl (k_1_0 s0 zIs_2) (Or.inl zw_RX10_71) (k2 := 13) rfl (fun h2 e3 => ?_)
  refine zj_aload_n (zdk ttX10_state 10 rfl rfl) rfl (by decide) ?_
  have s4 : okC h2 := fw_1_0_13 s0 zIs_2 e3 (by omega)
  refine zj_callV (av := []) (st := []) (zdk ttX10_state 11 rfl rfl) mb_X10_forget mv_RX10_74 (ci := 10) rfl rfl (k_L0 s4) rfl rfl (Nat.le_of_ble_eq_true rfl) (s_X10_forget l h2 s4) (rm_ok (by decide) (by decide)) (zq_v fun h7 q5 => ?_)
  obtain ⟨s9, f11, u10⟩ := q5
  refine zj_iload_n (zdk ttX10_state 12 rfl rfl) rfl ?_
  have f13 : zfC w_X10_state h h2 := zfC_w (zfC_r _ _) e3 (Or.inr (by omega))
  have f12 : zfC w_X10_state h h7 := zfC_t f13 f11 (fun a9 b9 z9 => by
    exact (Or.inl z9))
  exact zj_iret rfl (zdk ttX10_state 13 rfl rfl) (Nat.le_refl _) (Nat.le_refl _) ⟨(h.2 2 13), rfl, by omega, s9, f12, (fun _ => zJP_0 (by omega))⟩

abbrev tX10_islander : List (Nat × Instr × Nat) := [(0, .aload_n 0, 1), (1, .getfield 10, 3), (4, .getfield 67, 3), (7, .astore_n 3, 1), (8, .iload_n 1, 1), (9, .iconst 1, 1), (10, .sipush 200, 3), (13, .invokestatic 77, 3), (16, .ifCond .eq 22, 3), (19, .iload_n 2, 1), (20, .iconst 0, 1), (21, .bipush 9, 2), (23, .invokestatic 77, 3), (26, .ifCond .eq 12, 3), (29, .aload_n 3, 1), (30, .getfield 81, 3), (33, .bipush 18, 2), (35, .if_icmp .lt 5, 3), (38, .iconst (-1), 1), (39, .ireturn, 1), (40, .aload_n 0, 1), (41, .invokevirtual 74, 3), (44, .aload_n 3, 1), (45, .iload_n 1, 1), (46, .iload_n 2, 1), (47, .invokevirtual 84, 3), (50, .ireturn, 1)]
theorem ttX10_islander : zdt cX10_islander tX10_islander = true := by decide +kernel
abbrev w_X10_islander (a b : Int) : Prop := (a = 0 ∧ b = 8) ∨ (a = 2 ∧ 3 ≤ b ∧ b ≤ 4) ∨ (3 ≤ a ∧ a ≤ 5)
abbrev q_X10_islander (h : zM) (p1 : Int) (p2 : Int) : Option zV → zM → Prop := zqi fun v h' => ((-2147483648) ≤ v ∧ v ≤ 2147483647) ∧ okC h' ∧ zfC w_X10_islander h h' ∧ (zis p1 p2 (h.2 2 3) v (h'.2 2 3)) ∧ (zJP h → zJP h')
set_option maxRecDepth 100000 in
set_option maxHeartbeats 4000000 in
theorem s_X10_islander (l : Launch) (h : zM) (p1 : Int) (p2 : Int) (s0 : okC h) (b_p1 : (-2147483648) ≤ p1 ∧ p1 ≤ 2147483647) (b_p2 : (-2147483648) ≤ p2 ∧ p2 ≤ 2147483647) : zT shC l yX10_islander cX10_islander 4 (some .int) (rmL 2) 0 0 [.inr 0, .inl p1, .inl p2] h (q_X10_islander h p1 p2) := by
  refine zT_of (by decide +kernel) (L0 := [some (.inr 0), some (.inl p1), some (.inl p2), none]) rfl (Nat.le_of_ble_eq_true rfl) ?_
  refine zj_aload_n (zdk ttX10_islander 0 rfl rfl) rfl (by decide) ?_
  refine zj_getr (r := 1) (zdk ttX10_islander 1 rfl rfl) zf_RX10_10 rfl (k_L0 s0) (rf_L0_0 s0) ?_
  refine zj_getr (r := 2) (zdk ttX10_islander 2 rfl rfl) zf_RX10_67 rfl (k_9_0 s0 zWd_1) (rf_9_0_0 s0 zWd_1) ?_
  refine zj_astore_n (L' := [some (.inr 0), some (.inl p1), some (.inl p2), some (.inr 2)]) (zdk ttX10_islander 3 rfl rfl) (by decide) (by decide) rfl ?_
  refine zj_iload_n (zdk ttX10_islander 4 rfl rfl) rfl ?_
  refine zj_iconst (zdk ttX10_islander 5 rfl rfl) ?_
  refine zj_sipush (zdk ttX10_islander 6 rfl rfl) (by decide) ?_
  refine zj_callS (av := [.inl p1, .inl 1, .inl 200]) (st := []) (zdk ttX10_islander 7 rfl rfl) mb_X10_within ms_RX10_77 rfl rfl (Nat.le_of_ble_eq_true rfl) (s_X10_within l h p1 1 200 s0 (by omega) (by omega) (by omega)) (rm_ok (by decide) (by decide)) (zq_i fun v2 h3 q1 => ?_)
  obtain ⟨rfl, ⟨rfl, b4⟩ | ⟨rfl, b4⟩⟩ := q1
  · refine zj_if_eq (t := 38) (zdk ttX10_islander 8 rfl rfl) (by decide) (by decide) (fun c5 => ?_) (fun c5 => ?_)
    · refine zj_iconst (zdk ttX10_islander 18 rfl rfl) ?_
      exact zj_iret rfl (zdk ttX10_islander 19 rfl rfl) (Nat.le_refl _) (Nat.le_refl _) ⟨(-1), rfl, by omega, s0, (zfC_r _ _), by unfold zis zisG; omega, (fun j => j)⟩
    · exact absurd c5 (by omega)
  · refine zj_if_eq (t := 38) (zdk ttX10_islander 8 rfl rfl) (by decide) (by decide) (fun c6 => ?_) (fun c6 => ?_)
    · exact absurd c6 (by omega)
    · refine zj_iload_n (zdk ttX10_islander 9 rfl rfl) rfl ?_
      refine zj_iconst (zdk ttX10_islander 10 rfl rfl) ?_
      refine zj_bipush (zdk ttX10_islander 11 rfl rfl) (by decide) ?_
      refine zj_callS (av := [.inl p2, .inl 0, .inl 9]) (st := []) (zdk ttX10_islander 12 rfl rfl) mb_X10_within ms_RX10_77 rfl rfl (Nat.le_of_ble_eq_true rfl) (s_X10_within l h p2 0 9 s0 (by omega) (by omega) (by omega)) (rm_ok (by decide) (by decide)) (zq_i fun v8 h9 q7 => ?_)
      obtain ⟨rfl, ⟨rfl, b10⟩ | ⟨rfl, b10⟩⟩ := q7
      · refine zj_if_eq (t := 38) (zdk ttX10_islander 13 rfl rfl) (by decide) (by decide) (fun c11 => ?_) (fun c11 => ?_)
        · refine zj_iconst (zdk ttX10_islander 18 rfl rfl) ?_
          exact zj_iret rfl (zdk ttX10_islander 19 rfl rfl) (Nat.le_refl _) (Nat.le_refl _) ⟨(-1), rfl, by omega, s0, (zfC_r _ _), by unfold zis zisG; omega, (fun j => j)⟩
        · exact absurd c11 (by omega)
      · refine zj_if_eq (t := 38) (zdk ttX10_islander 13 rfl rfl) (by decide) (by decide) (fun c12 => ?_) (fun c12 => ?_)
        · exact absurd c12 (by omega)
        · refine zj_aload_n (zdk ttX10_islander 14 rfl rfl) rfl (by decide) ?_
          have b13 : 0 ≤ (h.2 2 3) ∧ (h.2 2 3) ≤ 18 := fb_1_0_3 s0 zIs_2
          refine zj_geti (v := (h.2 2 3)) (zdk ttX10_islander 15 rfl rfl) zf_RX10_81 rfl (k_1_0 s0 zIs_2) rfl ?_
          refine zj_bipush (zdk ttX10_islander 16 rfl rfl) (by decide) ?_
          refine zj_icmp_lt (t := 40) (zdk ttX10_islander 17 rfl rfl) (by decide) (by omega) (by decide) (fun c14 => ?_) (fun c14 => ?_)
          · refine zj_aload_n (zdk ttX10_islander 20 rfl rfl) rfl (by decide) ?_
            refine zj_callV (av := []) (st := []) (zdk ttX10_islander 21 rfl rfl) mb_X10_forget mv_RX10_74 (ci := 10) rfl rfl (k_L0 s0) rfl rfl (Nat.le_of_ble_eq_true rfl) (s_X10_forget l h s0) (rm_ok (by decide) (by decide)) (zq_v fun h17 q15 => ?_)
            obtain ⟨s19, f21, u20⟩ := q15
            refine zj_aload_n (zdk ttX10_islander 22 rfl rfl) rfl (by decide) ?_
            refine zj_iload_n (zdk ttX10_islander 23 rfl rfl) rfl ?_
            refine zj_iload_n (zdk ttX10_islander 24 rfl rfl) rfl ?_
            refine zj_callV (av := [.inl p1, .inl p2]) (st := []) (zdk ttX10_islander 25 rfl rfl) mb_X1_comes mv_RX10_84 (ci := 1) rfl rfl (k_1_0 s19 zIs_2) rfl rfl (Nat.le_of_ble_eq_true rfl) (s_X1_comes l h17 2 p1 p2 s19 zIs_2 (by omega) (by omega)) (rm_ok (by decide) (by decide)) (zq_i fun v23 h24 q22 => ?_)
            obtain ⟨b25, s26, f28, u27⟩ := q22
            have f30 : zfC w_X10_islander h h17 := zfC_t (zfC_r _ _) f21 (fun a9 b9 z9 => by
              exact (Or.inl z9))
            have f29 : zfC w_X10_islander h h24 := zfC_t f30 f28 (fun a9 b9 z9 => by
              rcases z9 with z9 | z9
              · exact (Or.inr (Or.inl z9))
              · exact (Or.inr (Or.inr z9)))
            have b31 : h17.2 2 3 = (h.2 2 3) := (zfC_a f21 (fun z9 => by unfold w_X10_forget at z9; first | (revert z9; decide) | omega))
            have b32 : h24.2 0 8 = (h17.2 0 8) := (zfC_a f28 (fun z9 => by unfold w_X1_comes at z9; first | (revert z9; decide) | omega))
            exact zj_iret rfl (zdk ttX10_islander 26 rfl rfl) (Nat.le_refl _) (Nat.le_refl _) ⟨v23, rfl, by omega, s26, f29, by have z9 := u27; unfold zcm at z9; unfold zis zisG; omega, (fun _ => zJP_0 (by omega))⟩
          · refine zj_iconst (zdk ttX10_islander 18 rfl rfl) ?_
            exact zj_iret rfl (zdk ttX10_islander 19 rfl rfl) (Nat.le_refl _) (Nat.le_refl _) ⟨(-1), rfl, by omega, s0, (zfC_r _ _), by unfold zis zisG; omega, (fun j => j)⟩

abbrev tX10_canBeSet : List (Nat × Instr × Nat) := [(0, .iload_n 1, 1), (1, .tableswitch 125 0 4 #[35, 66, 96, 105, 116], 35), (36, .aload_n 0, 1), (37, .getfield 10, 3), (40, .getfield 67, 3), (43, .iload_n 2, 1), (44, .invokevirtual 106, 3), (47, .ifCond .eq 18, 3), (50, .iload_n 3, 1), (51, .iconst 1, 1), (52, .sipush 200, 3), (55, .invokestatic 77, 3), (58, .ifCond .eq 7, 3), (61, .iconst 1, 1), (62, .goto 4, 3), (65, .iconst 0, 1), (66, .ireturn, 1), (67, .aload_n 0, 1), (68, .getfield 10, 3), (71, .getfield 67, 3), (74, .iload_n 2, 1), (75, .invokevirtual 106, 3), (78, .ifCond .eq 17, 3), (81, .iload_n 3, 1), (82, .iconst 0, 1), (83, .bipush 9, 2), (85, .invokestatic 77, 3), (88, .ifCond .eq 7, 3), (91, .iconst 1, 1), (92, .goto 4, 3), (95, .iconst 0, 1), (96, .ireturn, 1), (97, .iload_n 3, 1), (98, .iconst 0, 1), (99, .sipush 719, 3), (102, .invokestatic 77, 3), (105, .ireturn, 1), (106, .iload_n 3, 1), (107, .sipush (-9999), 3), (110, .sipush 9999, 3), (113, .invokestatic 77, 3), (116, .ireturn, 1), (117, .iload_n 3, 1), (118, .iconst 0, 1), (119, .sipush 9999, 3), (122, .invokestatic 77, 3), (125, .ireturn, 1), (126, .iconst 0, 1), (127, .ireturn, 1)]
theorem ttX10_canBeSet : zdt cX10_canBeSet tX10_canBeSet = true := by decide +kernel
abbrev q_X10_canBeSet (h : zM) (p1 : Int) (p2 : Int) (p3 : Int) : Option zV → zM → Prop := zqi fun v h' => h = h' ∧ (0 ≤ (h.2 2 3) ∧ (h.2 2 3) ≤ 18) ∧ ((v = 0 ∧ (((p1 < 0 ∨ 4 < p1)) ∨ (p1 = 0 ∧ ((p2 < 0) ∨ (0 ≤ p2 ∧ (h.2 2 3) ≤ p2)) ∧ 0 = 0) ∨ (p1 = 0 ∧ (0 ≤ p2 ∧ p2 < (h.2 2 3)) ∧ ¬ 1 = 0 ∧ ((p3 < 1) ∨ (1 ≤ p3 ∧ 200 < p3)) ∧ 0 = 0) ∨ (p1 = 1 ∧ ((p2 < 0) ∨ (0 ≤ p2 ∧ (h.2 2 3) ≤ p2)) ∧ 0 = 0) ∨ (p1 = 1 ∧ (0 ≤ p2 ∧ p2 < (h.2 2 3)) ∧ ¬ 1 = 0 ∧ ((p3 < 0) ∨ (0 ≤ p3 ∧ 9 < p3)) ∧ 0 = 0) ∨ (p1 = 2 ∧ ((p3 < 0) ∨ (0 ≤ p3 ∧ 719 < p3))) ∨ (p1 = 3 ∧ ((p3 < (-9999)) ∨ ((-9999) ≤ p3 ∧ 9999 < p3))) ∨ (p1 = 4 ∧ ((p3 < 0) ∨ (0 ≤ p3 ∧ 9999 < p3))))) ∨ (v = 1 ∧ ((p1 = 0 ∧ (0 ≤ p2 ∧ p2 < (h.2 2 3)) ∧ ¬ 1 = 0 ∧ (1 ≤ p3 ∧ p3 ≤ 200) ∧ ¬ 1 = 0) ∨ (p1 = 1 ∧ (0 ≤ p2 ∧ p2 < (h.2 2 3)) ∧ ¬ 1 = 0 ∧ (0 ≤ p3 ∧ p3 ≤ 9) ∧ ¬ 1 = 0) ∨ (p1 = 2 ∧ (0 ≤ p3 ∧ p3 ≤ 719)) ∨ (p1 = 3 ∧ ((-9999) ≤ p3 ∧ p3 ≤ 9999)) ∨ (p1 = 4 ∧ (0 ≤ p3 ∧ p3 ≤ 9999)))))
set_option maxRecDepth 100000 in
set_option maxHeartbeats 4000000 in
theorem s_X10_canBeSet (l : Launch) (h : zM) (p1 : Int) (p2 : Int) (p3 : Int) (s0 : okC h) (b_p1 : (-2147483648) ≤ p1 ∧ p1 ≤ 2147483647) (b_p2 : (-2147483648) ≤ p2 ∧ p2 ≤ 2147483647) (b_p3 : (-2147483648) ≤ p3 ∧ p3 ≤ 2147483647) : zT shC l yX10_canBeSet cX10_canBeSet 4 (some .boolean) (rmL 2) 0 0 [.inr 0, .inl p1, .inl p2, .inl p3] h (q_X10_canBeSet h p1 p2 p3) := by
  refine zT_of (by decide +kernel) (L0 := [some (.inr 0), some (.inl p1), some (.inl p2), some (.inl p3)]) rfl (Nat.le_of_ble_eq_true rfl) ?_
  have b1 : 0 ≤ (h.2 2 3) ∧ (h.2 2 3) ≤ 18 := fb_1_0_3 s0 zIs_2
  refine zj_iload_n (zdk ttX10_canBeSet 0 rfl rfl) rfl ?_
  have k3 : (p1 < 0 ∨ 4 < p1) → zJ shC l yX10_canBeSet cX10_canBeSet 4 (some .boolean) (rmL 2) 0 0 (q_X10_canBeSet h p1 p2 p3) 0 0 126 [some (.inr 0), some (.inl p1), some (.inl p2), some (.inl p3)] [] h := by
    intro c2
    refine zj_iconst (zdk ttX10_canBeSet 47 rfl rfl) ?_
    exact zj_zret rfl (zdk ttX10_canBeSet 48 rfl rfl) (Nat.le_refl _) (Nat.le_refl _) (by omega) ⟨0, rfl, rfl, b1, (Or.inl ⟨rfl, (Or.inl (by omega))⟩)⟩
  have k4 : p1 = 0 → zJ shC l yX10_canBeSet cX10_canBeSet 4 (some .boolean) (rmL 2) 0 0 (q_X10_canBeSet h p1 p2 p3) 0 0 36 [some (.inr 0), some (.inl p1), some (.inl p2), some (.inl p3)] [] h := by
    intro c2
    refine zj_aload_n (zdk ttX10_canBeSet 2 rfl rfl) rfl (by decide) ?_
    refine zj_getr (r := 1) (zdk ttX10_canBeSet 3 rfl rfl) zf_RX10_10 rfl (k_L0 s0) (rf_L0_0 s0) ?_
    refine zj_getr (r := 2) (zdk ttX10_canBeSet 4 rfl rfl) zf_RX10_67 rfl (k_9_0 s0 zWd_1) (rf_9_0_0 s0 zWd_1) ?_
    refine zj_iload_n (zdk ttX10_canBeSet 5 rfl rfl) rfl ?_
    refine zj_callV (av := [.inl p2]) (st := []) (zdk ttX10_canBeSet 6 rfl rfl) mb_X1_knows mv_RX10_106 (ci := 1) rfl rfl (k_1_0 s0 zIs_2) rfl rfl (Nat.le_of_ble_eq_true rfl) (s_X1_knows l h 2 p2 s0 zIs_2 (by omega)) (rm_ok (by decide) (by decide)) (zq_i fun v6 h7 q5 => ?_)
    obtain ⟨rfl, b9, ⟨rfl, b8⟩ | ⟨rfl, b8⟩⟩ := q5
    · refine zj_if_eq (t := 65) (zdk ttX10_canBeSet 7 rfl rfl) (by decide) (by decide) (fun c10 => ?_) (fun c10 => ?_)
      · refine zj_iconst (zdk ttX10_canBeSet 15 rfl rfl) ?_
        exact zj_zret rfl (zdk ttX10_canBeSet 16 rfl rfl) (Nat.le_refl _) (Nat.le_refl _) (by omega) ⟨0, rfl, rfl, b1, (Or.inl ⟨rfl, (Or.inr (Or.inl (by omega)))⟩)⟩
      · exact absurd c10 (by omega)
    · refine zj_if_eq (t := 65) (zdk ttX10_canBeSet 7 rfl rfl) (by decide) (by decide) (fun c11 => ?_) (fun c11 => ?_)
      · exact absurd c11 (by omega)
      · refine zj_iload_n (zdk ttX10_canBeSet 8 rfl rfl) rfl ?_
        refine zj_iconst (zdk ttX10_canBeSet 9 rfl rfl) ?_
        refine zj_sipush (zdk ttX10_canBeSet 10 rfl rfl) (by decide) ?_
        refine zj_callS (av := [.inl p3, .inl 1, .inl 200]) (st := []) (zdk ttX10_canBeSet 11 rfl rfl) mb_X10_within ms_RX10_77 rfl rfl (Nat.le_of_ble_eq_true rfl) (s_X10_within l h p3 1 200 s0 (by omega) (by omega) (by omega)) (rm_ok (by decide) (by decide)) (zq_i fun v13 h14 q12 => ?_)
        obtain ⟨rfl, ⟨rfl, b15⟩ | ⟨rfl, b15⟩⟩ := q12
        · refine zj_if_eq (t := 65) (zdk ttX10_canBeSet 12 rfl rfl) (by decide) (by decide) (fun c16 => ?_) (fun c16 => ?_)
          · refine zj_iconst (zdk ttX10_canBeSet 15 rfl rfl) ?_
            exact zj_zret rfl (zdk ttX10_canBeSet 16 rfl rfl) (Nat.le_refl _) (Nat.le_refl _) (by omega) ⟨0, rfl, rfl, b1, (Or.inl ⟨rfl, (Or.inr (Or.inr (Or.inl (by omega))))⟩)⟩
          · exact absurd c16 (by omega)
        · refine zj_if_eq (t := 65) (zdk ttX10_canBeSet 12 rfl rfl) (by decide) (by decide) (fun c17 => ?_) (fun c17 => ?_)
          · exact absurd c17 (by omega)
          · refine zj_iconst (zdk ttX10_canBeSet 13 rfl rfl) ?_
            refine zj_goto (t := 66) (zdk ttX10_canBeSet 14 rfl rfl) (by decide) ?_
            exact zj_zret rfl (zdk ttX10_canBeSet 16 rfl rfl) (Nat.le_refl _) (Nat.le_refl _) (by omega) ⟨1, rfl, rfl, b1, (Or.inr ⟨rfl, (Or.inl (by omega))⟩)⟩
  have k18 : p1 = 1 → zJ shC l yX10_canBeSet cX10_canBeSet 4 (some .boolean) (rmL 2) 0 0 (q_X10_canBeSet h p1 p2 p3) 0 0 67 [some (.inr 0), some (.inl p1), some (.inl p2), some (.inl p3)] [] h := by
    intro c2
    refine zj_aload_n (zdk ttX10_canBeSet 17 rfl rfl) rfl (by decide) ?_
    refine zj_getr (r := 1) (zdk ttX10_canBeSet 18 rfl rfl) zf_RX10_10 rfl (k_L0 s0) (rf_L0_0 s0) ?_
    refine zj_getr (r := 2) (zdk ttX10_canBeSet 19 rfl rfl) zf_RX10_67 rfl (k_9_0 s0 zWd_1) (rf_9_0_0 s0 zWd_1) ?_
    refine zj_iload_n (zdk ttX10_canBeSet 20 rfl rfl) rfl ?_
    refine zj_callV (av := [.inl p2]) (st := []) (zdk ttX10_canBeSet 21 rfl rfl) mb_X1_knows mv_RX10_106 (ci := 1) rfl rfl (k_1_0 s0 zIs_2) rfl rfl (Nat.le_of_ble_eq_true rfl) (s_X1_knows l h 2 p2 s0 zIs_2 (by omega)) (rm_ok (by decide) (by decide)) (zq_i fun v20 h21 q19 => ?_)
    obtain ⟨rfl, b23, ⟨rfl, b22⟩ | ⟨rfl, b22⟩⟩ := q19
    · refine zj_if_eq (t := 95) (zdk ttX10_canBeSet 22 rfl rfl) (by decide) (by decide) (fun c24 => ?_) (fun c24 => ?_)
      · refine zj_iconst (zdk ttX10_canBeSet 30 rfl rfl) ?_
        exact zj_zret rfl (zdk ttX10_canBeSet 31 rfl rfl) (Nat.le_refl _) (Nat.le_refl _) (by omega) ⟨0, rfl, rfl, b1, (Or.inl ⟨rfl, (Or.inr (Or.inr (Or.inr (Or.inl (by omega)))))⟩)⟩
      · exact absurd c24 (by omega)
    · refine zj_if_eq (t := 95) (zdk ttX10_canBeSet 22 rfl rfl) (by decide) (by decide) (fun c25 => ?_) (fun c25 => ?_)
      · exact absurd c25 (by omega)
      · refine zj_iload_n (zdk ttX10_canBeSet 23 rfl rfl) rfl ?_
        refine zj_iconst (zdk ttX10_canBeSet 24 rfl rfl) ?_
        refine zj_bipush (zdk ttX10_canBeSet 25 rfl rfl) (by decide) ?_
        refine zj_callS (av := [.inl p3, .inl 0, .inl 9]) (st := []) (zdk ttX10_canBeSet 26 rfl rfl) mb_X10_within ms_RX10_77 rfl rfl (Nat.le_of_ble_eq_true rfl) (s_X10_within l h p3 0 9 s0 (by omega) (by omega) (by omega)) (rm_ok (by decide) (by decide)) (zq_i fun v27 h28 q26 => ?_)
        obtain ⟨rfl, ⟨rfl, b29⟩ | ⟨rfl, b29⟩⟩ := q26
        · refine zj_if_eq (t := 95) (zdk ttX10_canBeSet 27 rfl rfl) (by decide) (by decide) (fun c30 => ?_) (fun c30 => ?_)
          · refine zj_iconst (zdk ttX10_canBeSet 30 rfl rfl) ?_
            exact zj_zret rfl (zdk ttX10_canBeSet 31 rfl rfl) (Nat.le_refl _) (Nat.le_refl _) (by omega) ⟨0, rfl, rfl, b1, (Or.inl ⟨rfl, (Or.inr (Or.inr (Or.inr (Or.inr (Or.inl (by omega))))))⟩)⟩
          · exact absurd c30 (by omega)
        · refine zj_if_eq (t := 95) (zdk ttX10_canBeSet 27 rfl rfl) (by decide) (by decide) (fun c31 => ?_) (fun c31 => ?_)
          · exact absurd c31 (by omega)
          · refine zj_iconst (zdk ttX10_canBeSet 28 rfl rfl) ?_
            refine zj_goto (t := 96) (zdk ttX10_canBeSet 29 rfl rfl) (by decide) ?_
            exact zj_zret rfl (zdk ttX10_canBeSet 31 rfl rfl) (Nat.le_refl _) (Nat.le_refl _) (by omega) ⟨1, rfl, rfl, b1, (Or.inr ⟨rfl, (Or.inr (Or.inl (by omega)))⟩)⟩
  have k32 : p1 = 2 → zJ shC l yX10_canBeSet cX10_canBeSet 4 (some .boolean) (rmL 2) 0 0 (q_X10_canBeSet h p1 p2 p3) 0 0 97 [some (.inr 0), some (.inl p1), some (.inl p2), some (.inl p3)] [] h := by
    intro c2
    refine zj_iload_n (zdk ttX10_canBeSet 32 rfl rfl) rfl ?_
    refine zj_iconst (zdk ttX10_canBeSet 33 rfl rfl) ?_
    refine zj_sipush (zdk ttX10_canBeSet 34 rfl rfl) (by decide) ?_
    refine zj_callS (av := [.inl p3, .inl 0, .inl 719]) (st := []) (zdk ttX10_canBeSet 35 rfl rfl) mb_X10_within ms_RX10_77 rfl rfl (Nat.le_of_ble_eq_true rfl) (s_X10_within l h p3 0 719 s0 (by omega) (by omega) (by omega)) (rm_ok (by decide) (by decide)) (zq_i fun v34 h35 q33 => ?_)
    obtain ⟨rfl, ⟨rfl, b36⟩ | ⟨rfl, b36⟩⟩ := q33
    · exact zj_zret rfl (zdk ttX10_canBeSet 36 rfl rfl) (Nat.le_refl _) (Nat.le_refl _) (by omega) ⟨0, rfl, rfl, b1, (Or.inl ⟨rfl, (Or.inr (Or.inr (Or.inr (Or.inr (Or.inr (Or.inl (by omega)))))))⟩)⟩
    · exact zj_zret rfl (zdk ttX10_canBeSet 36 rfl rfl) (Nat.le_refl _) (Nat.le_refl _) (by omega) ⟨1, rfl, rfl, b1, (Or.inr ⟨rfl, (Or.inr (Or.inr (Or.inl (by omega))))⟩)⟩
  have k37 : p1 = 3 → zJ shC l yX10_canBeSet cX10_canBeSet 4 (some .boolean) (rmL 2) 0 0 (q_X10_canBeSet h p1 p2 p3) 0 0 106 [some (.inr 0), some (.inl p1), some (.inl p2), some (.inl p3)] [] h := by
    intro c2
    refine zj_iload_n (zdk ttX10_canBeSet 37 rfl rfl) rfl ?_
    refine zj_sipush (zdk ttX10_canBeSet 38 rfl rfl) (by decide) ?_
    refine zj_sipush (zdk ttX10_canBeSet 39 rfl rfl) (by decide) ?_
    refine zj_callS (av := [.inl p3, .inl (-9999), .inl 9999]) (st := []) (zdk ttX10_canBeSet 40 rfl rfl) mb_X10_within ms_RX10_77 rfl rfl (Nat.le_of_ble_eq_true rfl) (s_X10_within l h p3 (-9999) 9999 s0 (by omega) (by omega) (by omega)) (rm_ok (by decide) (by decide)) (zq_i fun v39 h40 q38 => ?_)
    obtain ⟨rfl, ⟨rfl, b41⟩ | ⟨rfl, b41⟩⟩ := q38
    · exact zj_zret rfl (zdk ttX10_canBeSet 41 rfl rfl) (Nat.le_refl _) (Nat.le_refl _) (by omega) ⟨0, rfl, rfl, b1, (Or.inl ⟨rfl, (Or.inr (Or.inr (Or.inr (Or.inr (Or.inr (Or.inr (Or.inl (by omega))))))))⟩)⟩
    · exact zj_zret rfl (zdk ttX10_canBeSet 41 rfl rfl) (Nat.le_refl _) (Nat.le_refl _) (by omega) ⟨1, rfl, rfl, b1, (Or.inr ⟨rfl, (Or.inr (Or.inr (Or.inr (Or.inl (by omega)))))⟩)⟩
  have k42 : p1 = 4 → zJ shC l yX10_canBeSet cX10_canBeSet 4 (some .boolean) (rmL 2) 0 0 (q_X10_canBeSet h p1 p2 p3) 0 0 117 [some (.inr 0), some (.inl p1), some (.inl p2), some (.inl p3)] [] h := by
    intro c2
    refine zj_iload_n (zdk ttX10_canBeSet 42 rfl rfl) rfl ?_
    refine zj_iconst (zdk ttX10_canBeSet 43 rfl rfl) ?_
    refine zj_sipush (zdk ttX10_canBeSet 44 rfl rfl) (by decide) ?_
    refine zj_callS (av := [.inl p3, .inl 0, .inl 9999]) (st := []) (zdk ttX10_canBeSet 45 rfl rfl) mb_X10_within ms_RX10_77 rfl rfl (Nat.le_of_ble_eq_true rfl) (s_X10_within l h p3 0 9999 s0 (by omega) (by omega) (by omega)) (rm_ok (by decide) (by decide)) (zq_i fun v44 h45 q43 => ?_)
    obtain ⟨rfl, ⟨rfl, b46⟩ | ⟨rfl, b46⟩⟩ := q43
    · exact zj_zret rfl (zdk ttX10_canBeSet 46 rfl rfl) (Nat.le_refl _) (Nat.le_refl _) (by omega) ⟨0, rfl, rfl, b1, (Or.inl ⟨rfl, (Or.inr (Or.inr (Or.inr (Or.inr (Or.inr (Or.inr (Or.inr (by omega))))))))⟩)⟩
    · exact zj_zret rfl (zdk ttX10_canBeSet 46 rfl rfl) (Nat.le_refl _) (Nat.le_refl _) (by omega) ⟨1, rfl, rfl, b1, (Or.inr ⟨rfl, (Or.inr (Or.inr (Or.inr (Or.inr (by omega)))))⟩)⟩
  refine zj_table (t := 126) (zdk ttX10_canBeSet 1 rfl rfl) (by omega) (by decide) k3 (fun z1 z2 => ?_)
  have z3 : p1 = 0 ∨ p1 = 1 ∨ p1 = 2 ∨ p1 = 3 ∨ p1 = 4 := by omega
  rcases z3 with z3 | z3 | z3 | z3 | z3
  · exact ⟨35, 36, by rw [z3] <;> rfl, by decide, k4 z3⟩
  · exact ⟨66, 67, by rw [z3] <;> rfl, by decide, k18 z3⟩
  · exact ⟨96, 97, by rw [z3] <;> rfl, by decide, k32 z3⟩
  · exact ⟨105, 106, by rw [z3] <;> rfl, by decide, k37 z3⟩
  · exact ⟨116, 117, by rw [z3] <;> rfl, by decide, k42 z3⟩

abbrev tX10_set : List (Nat × Instr × Nat) := [(0, .aload_n 0, 1), (1, .iload_n 1, 1), (2, .iload_n 2, 1), (3, .iload_n 3, 1), (4, .invokevirtual 88, 3), (7, .ifCond .ne 5, 3), (10, .iconst 0, 1), (11, .ireturn, 1), (12, .aload_n 0, 1), (13, .getfield 10, 3), (16, .getfield 67, 3), (19, .astore 4, 2), (21, .iload_n 1, 1), (22, .tableswitch 70 0 3 #[30, 41, 52, 61], 30), (52, .aload 4, 2), (54, .getfield 91, 3), (57, .iload_n 2, 1), (58, .iload_n 3, 1), (59, .iastore, 1), (60, .goto 38, 3), (63, .aload 4, 2), (65, .getfield 94, 3), (68, .iload_n 2, 1), (69, .iload_n 3, 1), (70, .iastore, 1), (71, .goto 27, 3), (74, .aload 4, 2), (76, .iload_n 3, 1), (77, .putfield 97, 3), (80, .goto 18, 3), (83, .aload 4, 2), (85, .iload_n 3, 1), (86, .putfield 100, 3), (89, .goto 9, 3), (92, .aload 4, 2), (94, .iload_n 3, 1), (95, .putfield 103, 3), (98, .aload_n 0, 1), (99, .invokevirtual 74, 3), (102, .iconst 1, 1), (103, .ireturn, 1)]
theorem ttX10_set : zdt cX10_set tX10_set = true := by decide +kernel
abbrev w_X10_set (a b : Int) : Prop := (a = 0 ∧ b = 8) ∨ (a = 2 ∧ 6 ≤ b ∧ b ≤ 7) ∨ (a = 2 ∧ b = 11) ∨ (3 ≤ a ∧ a ≤ 4)
abbrev q_X10_set (h : zM) (p1 : Int) (p2 : Int) (p3 : Int) : Option zV → zM → Prop := zqi fun v h' => (0 ≤ v ∧ v ≤ 1) ∧ okC h' ∧ zfC w_X10_set h h' ∧ (zst9 p1 p2 p3 (h.2 2 3) v) ∧ (zJP h → zJP h')
set_option maxRecDepth 100000 in
set_option maxHeartbeats 4000000 in
theorem s_X10_set (l : Launch) (h : zM) (p1 : Int) (p2 : Int) (p3 : Int) (s0 : okC h) (b_p1 : (-2147483648) ≤ p1 ∧ p1 ≤ 2147483647) (b_p2 : (-2147483648) ≤ p2 ∧ p2 ≤ 2147483647) (b_p3 : (-2147483648) ≤ p3 ∧ p3 ≤ 2147483647) : zT shC l yX10_set cX10_set 5 (some .boolean) (rmL 3) 0 0 [.inr 0, .inl p1, .inl p2, .inl p3] h (q_X10_set h p1 p2 p3) := by
  refine zT_of (by decide +kernel) (L0 := [some (.inr 0), some (.inl p1), some (.inl p2), some (.inl p3), none]) rfl (Nat.le_of_ble_eq_true rfl) ?_
  refine zj_aload_n (zdk ttX10_set 0 rfl rfl) rfl (by decide) ?_
  refine zj_iload_n (zdk ttX10_set 1 rfl rfl) rfl ?_
  refine zj_iload_n (zdk ttX10_set 2 rfl rfl) rfl ?_
  refine zj_iload_n (zdk ttX10_set 3 rfl rfl) rfl ?_
  refine zj_callV (av := [.inl p1, .inl p2, .inl p3]) (st := []) (zdk ttX10_set 4 rfl rfl) mb_X10_canBeSet mv_RX10_88 (ci := 10) rfl rfl (k_L0 s0) rfl rfl (Nat.le_of_ble_eq_true rfl) (s_X10_canBeSet l h p1 p2 p3 s0 (by omega) (by omega) (by omega)) (rm_ok (by decide) (by decide)) (zq_i fun v2 h3 q1 => ?_)
  obtain ⟨rfl, b5, ⟨rfl, b4⟩ | ⟨rfl, b4⟩⟩ := q1
  · refine zj_if_ne (t := 12) (zdk ttX10_set 5 rfl rfl) (by decide) (by decide) (fun c6 => ?_) (fun c6 => ?_)
    · exact absurd c6 (by omega)
    · refine zj_iconst (zdk ttX10_set 6 rfl rfl) ?_
      exact zj_zret rfl (zdk ttX10_set 7 rfl rfl) (Nat.le_refl _) (Nat.le_refl _) (by omega) ⟨0, rfl, by omega, s0, (zfC_r _ _), by unfold zst9 zstG; omega, (fun j => j)⟩
  · refine zj_if_ne (t := 12) (zdk ttX10_set 5 rfl rfl) (by decide) (by decide) (fun c7 => ?_) (fun c7 => ?_)
    · refine zj_aload_n (zdk ttX10_set 8 rfl rfl) rfl (by decide) ?_
      refine zj_getr (r := 1) (zdk ttX10_set 9 rfl rfl) zf_RX10_10 rfl (k_L0 s0) (rf_L0_0 s0) ?_
      refine zj_getr (r := 2) (zdk ttX10_set 10 rfl rfl) zf_RX10_67 rfl (k_9_0 s0 zWd_1) (rf_9_0_0 s0 zWd_1) ?_
      refine zj_astore (L' := [some (.inr 0), some (.inl p1), some (.inl p2), some (.inl p3), some (.inr 2)]) (zdk ttX10_set 11 rfl rfl) (by decide) (by decide) rfl ?_
      refine zj_iload_n (zdk ttX10_set 12 rfl rfl) rfl ?_
      have k9 : (p1 < 0 ∨ 3 < p1) → zJ shC l yX10_set cX10_set 5 (some .boolean) (rmL 3) 0 0 (q_X10_set h p1 p2 p3) 0 0 92 [some (.inr 0), some (.inl p1), some (.inl p2), some (.inl p3), some (.inr 2)] [] h := by
        intro c8
        refine zj_aload (zdk ttX10_set 34 rfl rfl) rfl (by decide) ?_
        refine zj_iload_n (zdk ttX10_set 35 rfl rfl) rfl ?_
        refine zj_puti (zdk ttX10_set 36 rfl rfl) zf_RX10_103 rfl (k_1_0 s0 zIs_2) (Or.inl zw_RX10_103) (k2 := 11) rfl (fun h10 e11 => ?_)
        refine zj_aload_n (zdk ttX10_set 37 rfl rfl) rfl (by decide) ?_
        have s12 : okC h10 := fw_1_0_11 s0 zIs_2 e11 (by omega)
        refine zj_callV (av := []) (st := []) (zdk ttX10_set 38 rfl rfl) mb_X10_forget mv_RX10_74 (ci := 10) rfl rfl (k_L0 s12) rfl rfl (Nat.le_of_ble_eq_true rfl) (s_X10_forget l h10 s12) (rm_ok (by decide) (by decide)) (zq_v fun h15 q13 => ?_)
        obtain ⟨s17, f19, u18⟩ := q13
        refine zj_iconst (zdk ttX10_set 39 rfl rfl) ?_
        have f21 : zfC w_X10_set h h10 := zfC_w (zfC_r _ _) e11 (Or.inr (Or.inr (Or.inl (by omega))))
        have f20 : zfC w_X10_set h h15 := zfC_t f21 f19 (fun a9 b9 z9 => by
          exact (Or.inl z9))
        exact zj_zret rfl (zdk ttX10_set 40 rfl rfl) (Nat.le_refl _) (Nat.le_refl _) (by omega) ⟨1, rfl, by omega, s17, f20, by unfold zst9 zstG; omega, (fun _ => zJP_0 (by omega))⟩
      have k22 : p1 = 0 → zJ shC l yX10_set cX10_set 5 (some .boolean) (rmL 3) 0 0 (q_X10_set h p1 p2 p3) 0 0 52 [some (.inr 0), some (.inl p1), some (.inl p2), some (.inl p3), some (.inr 2)] [] h := by
        intro c8
        refine zj_aload (zdk ttX10_set 14 rfl rfl) rfl (by decide) ?_
        refine zj_getr (r := 3) (zdk ttX10_set 15 rfl rfl) zf_RX10_91 rfl (k_1_0 s0 zIs_2) (rf_1_0_0 s0 zIs_2) ?_
        refine zj_iload_n (zdk ttX10_set 16 rfl rfl) rfl ?_
        refine zj_iload_n (zdk ttX10_set 17 rfl rfl) rfl ?_
        refine zj_iast (zdk ttX10_set 18 rfl rfl) (ka_1_0_0 s0 zIs_2) (by decide) (by omega) (fun h23 e24 => ?_)
        refine zj_goto (t := 98) (zdk ttX10_set 19 rfl rfl) (by decide) ?_
        refine zj_aload_n (zdk ttX10_set 37 rfl rfl) rfl (by decide) ?_
        have s25 : okC h23 := aw_1_0_0 s0 zIs_2 e24 (by omega)
        refine zj_callV (av := []) (st := []) (zdk ttX10_set 38 rfl rfl) mb_X10_forget mv_RX10_74 (ci := 10) rfl rfl (k_L0 s25) rfl rfl (Nat.le_of_ble_eq_true rfl) (s_X10_forget l h23 s25) (rm_ok (by decide) (by decide)) (zq_v fun h28 q26 => ?_)
        obtain ⟨s30, f32, u31⟩ := q26
        refine zj_iconst (zdk ttX10_set 39 rfl rfl) ?_
        have f34 : zfC w_X10_set h h23 := zfC_w (zfC_r _ _) e24 (Or.inr (Or.inr (Or.inr (by omega))))
        have f33 : zfC w_X10_set h h28 := zfC_t f34 f32 (fun a9 b9 z9 => by
          exact (Or.inl z9))
        exact zj_zret rfl (zdk ttX10_set 40 rfl rfl) (Nat.le_refl _) (Nat.le_refl _) (by omega) ⟨1, rfl, by omega, s30, f33, by unfold zst9 zstG; omega, (fun _ => zJP_0 (by omega))⟩
      have k35 : p1 = 1 → zJ shC l yX10_set cX10_set 5 (some .boolean) (rmL 3) 0 0 (q_X10_set h p1 p2 p3) 0 0 63 [some (.inr 0), some (.inl p1), some (.inl p2), some (.inl p3), some (.inr 2)] [] h := by
        intro c8
        refine zj_aload (zdk ttX10_set 20 rfl rfl) rfl (by decide) ?_
        refine zj_getr (r := 4) (zdk ttX10_set 21 rfl rfl) zf_RX10_94 rfl (k_1_0 s0 zIs_2) (rf_1_0_1 s0 zIs_2) ?_
        refine zj_iload_n (zdk ttX10_set 22 rfl rfl) rfl ?_
        refine zj_iload_n (zdk ttX10_set 23 rfl rfl) rfl ?_
        refine zj_iast (zdk ttX10_set 24 rfl rfl) (ka_1_0_1 s0 zIs_2) (by decide) (by omega) (fun h36 e37 => ?_)
        refine zj_goto (t := 98) (zdk ttX10_set 25 rfl rfl) (by decide) ?_
        refine zj_aload_n (zdk ttX10_set 37 rfl rfl) rfl (by decide) ?_
        have s38 : okC h36 := aw_1_0_1 s0 zIs_2 e37 (by omega)
        refine zj_callV (av := []) (st := []) (zdk ttX10_set 38 rfl rfl) mb_X10_forget mv_RX10_74 (ci := 10) rfl rfl (k_L0 s38) rfl rfl (Nat.le_of_ble_eq_true rfl) (s_X10_forget l h36 s38) (rm_ok (by decide) (by decide)) (zq_v fun h41 q39 => ?_)
        obtain ⟨s43, f45, u44⟩ := q39
        refine zj_iconst (zdk ttX10_set 39 rfl rfl) ?_
        have f47 : zfC w_X10_set h h36 := zfC_w (zfC_r _ _) e37 (Or.inr (Or.inr (Or.inr (by omega))))
        have f46 : zfC w_X10_set h h41 := zfC_t f47 f45 (fun a9 b9 z9 => by
          exact (Or.inl z9))
        exact zj_zret rfl (zdk ttX10_set 40 rfl rfl) (Nat.le_refl _) (Nat.le_refl _) (by omega) ⟨1, rfl, by omega, s43, f46, by unfold zst9 zstG; omega, (fun _ => zJP_0 (by omega))⟩
      have k48 : p1 = 2 → zJ shC l yX10_set cX10_set 5 (some .boolean) (rmL 3) 0 0 (q_X10_set h p1 p2 p3) 0 0 74 [some (.inr 0), some (.inl p1), some (.inl p2), some (.inl p3), some (.inr 2)] [] h := by
        intro c8
        refine zj_aload (zdk ttX10_set 26 rfl rfl) rfl (by decide) ?_
        refine zj_iload_n (zdk ttX10_set 27 rfl rfl) rfl ?_
        refine zj_puti (zdk ttX10_set 28 rfl rfl) zf_RX10_97 rfl (k_1_0 s0 zIs_2) (Or.inl zw_RX10_97) (k2 := 6) rfl (fun h49 e50 => ?_)
        refine zj_goto (t := 98) (zdk ttX10_set 29 rfl rfl) (by decide) ?_
        refine zj_aload_n (zdk ttX10_set 37 rfl rfl) rfl (by decide) ?_
        have s51 : okC h49 := fw_1_0_6 s0 zIs_2 e50 (by omega)
        refine zj_callV (av := []) (st := []) (zdk ttX10_set 38 rfl rfl) mb_X10_forget mv_RX10_74 (ci := 10) rfl rfl (k_L0 s51) rfl rfl (Nat.le_of_ble_eq_true rfl) (s_X10_forget l h49 s51) (rm_ok (by decide) (by decide)) (zq_v fun h54 q52 => ?_)
        obtain ⟨s56, f58, u57⟩ := q52
        refine zj_iconst (zdk ttX10_set 39 rfl rfl) ?_
        have f60 : zfC w_X10_set h h49 := zfC_w (zfC_r _ _) e50 (Or.inr (Or.inl (by omega)))
        have f59 : zfC w_X10_set h h54 := zfC_t f60 f58 (fun a9 b9 z9 => by
          exact (Or.inl z9))
        exact zj_zret rfl (zdk ttX10_set 40 rfl rfl) (Nat.le_refl _) (Nat.le_refl _) (by omega) ⟨1, rfl, by omega, s56, f59, by unfold zst9 zstG; omega, (fun _ => zJP_0 (by omega))⟩
      have k61 : p1 = 3 → zJ shC l yX10_set cX10_set 5 (some .boolean) (rmL 3) 0 0 (q_X10_set h p1 p2 p3) 0 0 83 [some (.inr 0), some (.inl p1), some (.inl p2), some (.inl p3), some (.inr 2)] [] h := by
        intro c8
        refine zj_aload (zdk ttX10_set 30 rfl rfl) rfl (by decide) ?_
        refine zj_iload_n (zdk ttX10_set 31 rfl rfl) rfl ?_
        refine zj_puti (zdk ttX10_set 32 rfl rfl) zf_RX10_100 rfl (k_1_0 s0 zIs_2) (Or.inl zw_RX10_100) (k2 := 7) rfl (fun h62 e63 => ?_)
        refine zj_goto (t := 98) (zdk ttX10_set 33 rfl rfl) (by decide) ?_
        refine zj_aload_n (zdk ttX10_set 37 rfl rfl) rfl (by decide) ?_
        have s64 : okC h62 := fw_1_0_7 s0 zIs_2 e63 (by omega)
        refine zj_callV (av := []) (st := []) (zdk ttX10_set 38 rfl rfl) mb_X10_forget mv_RX10_74 (ci := 10) rfl rfl (k_L0 s64) rfl rfl (Nat.le_of_ble_eq_true rfl) (s_X10_forget l h62 s64) (rm_ok (by decide) (by decide)) (zq_v fun h67 q65 => ?_)
        obtain ⟨s69, f71, u70⟩ := q65
        refine zj_iconst (zdk ttX10_set 39 rfl rfl) ?_
        have f73 : zfC w_X10_set h h62 := zfC_w (zfC_r _ _) e63 (Or.inr (Or.inl (by omega)))
        have f72 : zfC w_X10_set h h67 := zfC_t f73 f71 (fun a9 b9 z9 => by
          exact (Or.inl z9))
        exact zj_zret rfl (zdk ttX10_set 40 rfl rfl) (Nat.le_refl _) (Nat.le_refl _) (by omega) ⟨1, rfl, by omega, s69, f72, by unfold zst9 zstG; omega, (fun _ => zJP_0 (by omega))⟩
      refine zj_table (t := 92) (zdk ttX10_set 13 rfl rfl) (by omega) (by decide) k9 (fun z1 z2 => ?_)
      have z3 : p1 = 0 ∨ p1 = 1 ∨ p1 = 2 ∨ p1 = 3 := by omega
      rcases z3 with z3 | z3 | z3 | z3
      · exact ⟨30, 52, by rw [z3] <;> rfl, by decide, k22 z3⟩
      · exact ⟨41, 63, by rw [z3] <;> rfl, by decide, k35 z3⟩
      · exact ⟨52, 74, by rw [z3] <;> rfl, by decide, k48 z3⟩
      · exact ⟨61, 83, by rw [z3] <;> rfl, by decide, k61 z3⟩
    · exact absurd c7 (by omega)

abbrev tX10_canAct : List (Nat × Instr × Nat) := [(0, .iload_n 1, 1), (1, .tableswitch 95 0 3 #[31, 43, 63, 83], 31), (32, .aload_n 0, 1), (33, .getfield 10, 3), (36, .getfield 67, 3), (39, .iload_n 2, 1), (40, .invokevirtual 204, 3), (43, .ireturn, 1), (44, .aload_n 0, 1), (45, .getfield 10, 3), (48, .getfield 67, 3), (51, .iload_n 2, 1), (52, .invokevirtual 204, 3), (55, .ifCond .ne 7, 3), (58, .iconst 1, 1), (59, .goto 4, 3), (62, .iconst 0, 1), (63, .ireturn, 1), (64, .aload_n 0, 1), (65, .getfield 10, 3), (68, .getfield 67, 3), (71, .iload_n 2, 1), (72, .invokevirtual 207, 3), (75, .ifCond .ne 7, 3), (78, .iconst 1, 1), (79, .goto 4, 3), (82, .iconst 0, 1), (83, .ireturn, 1), (84, .aload_n 0, 1), (85, .getfield 10, 3), (88, .getfield 67, 3), (91, .iload_n 2, 1), (92, .invokevirtual 207, 3), (95, .ireturn, 1), (96, .iconst 0, 1), (97, .ireturn, 1)]
theorem ttX10_canAct : zdt cX10_canAct tX10_canAct = true := by decide +kernel
abbrev q_X10_canAct (h : zM) (p1 : Int) (p2 : Int) : Option zV → zM → Prop := zqi fun v h' => h = h' ∧ ((-2147483648) ≤ (h.2 2 4) ∧ (h.2 2 4) ≤ 2147483647) ∧ ((-2147483648) ≤ (h.2 2 5) ∧ (h.2 2 5) ≤ 2147483647) ∧ ((v = 0 ∧ (((p1 < 0 ∨ 3 < p1)) ∨ (p1 = 0 ∧ (¬ (zand (zshr (h.2 2 4) p2) 1) = 1)) ∨ (p1 = 1 ∧ ((zand (zshr (h.2 2 4) p2) 1) = 1) ∧ ¬ 1 = 0) ∨ (p1 = 2 ∧ ((zand (zshr (h.2 2 5) p2) 1) = 1) ∧ ¬ 1 = 0) ∨ (p1 = 3 ∧ (¬ (zand (zshr (h.2 2 5) p2) 1) = 1)))) ∨ (v = 1 ∧ ((p1 = 0 ∧ ((zand (zshr (h.2 2 4) p2) 1) = 1)) ∨ (p1 = 1 ∧ (¬ (zand (zshr (h.2 2 4) p2) 1) = 1) ∧ 0 = 0) ∨ (p1 = 2 ∧ (¬ (zand (zshr (h.2 2 5) p2) 1) = 1) ∧ 0 = 0) ∨ (p1 = 3 ∧ ((zand (zshr (h.2 2 5) p2) 1) = 1)))))
set_option maxRecDepth 100000 in
set_option maxHeartbeats 4000000 in
theorem s_X10_canAct (l : Launch) (h : zM) (p1 : Int) (p2 : Int) (s0 : okC h) (b_p1 : (-2147483648) ≤ p1 ∧ p1 ≤ 2147483647) (b_p2 : (-2147483648) ≤ p2 ∧ p2 ≤ 2147483647) : zT shC l yX10_canAct cX10_canAct 3 (some .boolean) (rmL 2) 0 0 [.inr 0, .inl p1, .inl p2] h (q_X10_canAct h p1 p2) := by
  refine zT_of (by decide +kernel) (L0 := [some (.inr 0), some (.inl p1), some (.inl p2)]) rfl (Nat.le_of_ble_eq_true rfl) ?_
  have b1 : (-2147483648) ≤ (h.2 2 4) ∧ (h.2 2 4) ≤ 2147483647 := fb_1_0_4 s0 zIs_2
  have b2 : (-2147483648) ≤ (h.2 2 5) ∧ (h.2 2 5) ≤ 2147483647 := fb_1_0_5 s0 zIs_2
  refine zj_iload_n (zdk ttX10_canAct 0 rfl rfl) rfl ?_
  have k4 : (p1 < 0 ∨ 3 < p1) → zJ shC l yX10_canAct cX10_canAct 3 (some .boolean) (rmL 2) 0 0 (q_X10_canAct h p1 p2) 0 0 96 [some (.inr 0), some (.inl p1), some (.inl p2)] [] h := by
    intro c3
    refine zj_iconst (zdk ttX10_canAct 34 rfl rfl) ?_
    exact zj_zret rfl (zdk ttX10_canAct 35 rfl rfl) (Nat.le_refl _) (Nat.le_refl _) (by omega) ⟨0, rfl, rfl, b1, b2, (Or.inl ⟨rfl, (Or.inl (by omega))⟩)⟩
  have k5 : p1 = 0 → zJ shC l yX10_canAct cX10_canAct 3 (some .boolean) (rmL 2) 0 0 (q_X10_canAct h p1 p2) 0 0 32 [some (.inr 0), some (.inl p1), some (.inl p2)] [] h := by
    intro c3
    refine zj_aload_n (zdk ttX10_canAct 2 rfl rfl) rfl (by decide) ?_
    refine zj_getr (r := 1) (zdk ttX10_canAct 3 rfl rfl) zf_RX10_10 rfl (k_L0 s0) (rf_L0_0 s0) ?_
    refine zj_getr (r := 2) (zdk ttX10_canAct 4 rfl rfl) zf_RX10_67 rfl (k_9_0 s0 zWd_1) (rf_9_0_0 s0 zWd_1) ?_
    refine zj_iload_n (zdk ttX10_canAct 5 rfl rfl) rfl ?_
    refine zj_callV (av := [.inl p2]) (st := []) (zdk ttX10_canAct 6 rfl rfl) mb_X1_isHere mv_RX10_204 (ci := 1) rfl rfl (k_1_0 s0 zIs_2) rfl rfl (Nat.le_of_ble_eq_true rfl) (s_X1_isHere l h 2 p2 s0 zIs_2 (by omega)) (rm_ok (by decide) (by decide)) (zq_i fun v7 h8 q6 => ?_)
    obtain ⟨rfl, b10, ⟨rfl, b9⟩ | ⟨rfl, b9⟩⟩ := q6
    · exact zj_zret rfl (zdk ttX10_canAct 7 rfl rfl) (Nat.le_refl _) (Nat.le_refl _) (by omega) ⟨0, rfl, rfl, b1, b2, (Or.inl ⟨rfl, (Or.inr (Or.inl (by omega)))⟩)⟩
    · exact zj_zret rfl (zdk ttX10_canAct 7 rfl rfl) (Nat.le_refl _) (Nat.le_refl _) (by omega) ⟨1, rfl, rfl, b1, b2, (Or.inr ⟨rfl, (Or.inl (by omega))⟩)⟩
  have k11 : p1 = 1 → zJ shC l yX10_canAct cX10_canAct 3 (some .boolean) (rmL 2) 0 0 (q_X10_canAct h p1 p2) 0 0 44 [some (.inr 0), some (.inl p1), some (.inl p2)] [] h := by
    intro c3
    refine zj_aload_n (zdk ttX10_canAct 8 rfl rfl) rfl (by decide) ?_
    refine zj_getr (r := 1) (zdk ttX10_canAct 9 rfl rfl) zf_RX10_10 rfl (k_L0 s0) (rf_L0_0 s0) ?_
    refine zj_getr (r := 2) (zdk ttX10_canAct 10 rfl rfl) zf_RX10_67 rfl (k_9_0 s0 zWd_1) (rf_9_0_0 s0 zWd_1) ?_
    refine zj_iload_n (zdk ttX10_canAct 11 rfl rfl) rfl ?_
    refine zj_callV (av := [.inl p2]) (st := []) (zdk ttX10_canAct 12 rfl rfl) mb_X1_isHere mv_RX10_204 (ci := 1) rfl rfl (k_1_0 s0 zIs_2) rfl rfl (Nat.le_of_ble_eq_true rfl) (s_X1_isHere l h 2 p2 s0 zIs_2 (by omega)) (rm_ok (by decide) (by decide)) (zq_i fun v13 h14 q12 => ?_)
    obtain ⟨rfl, b16, ⟨rfl, b15⟩ | ⟨rfl, b15⟩⟩ := q12
    · refine zj_if_ne (t := 62) (zdk ttX10_canAct 13 rfl rfl) (by decide) (by decide) (fun c17 => ?_) (fun c17 => ?_)
      · exact absurd c17 (by omega)
      · refine zj_iconst (zdk ttX10_canAct 14 rfl rfl) ?_
        refine zj_goto (t := 63) (zdk ttX10_canAct 15 rfl rfl) (by decide) ?_
        exact zj_zret rfl (zdk ttX10_canAct 17 rfl rfl) (Nat.le_refl _) (Nat.le_refl _) (by omega) ⟨1, rfl, rfl, b1, b2, (Or.inr ⟨rfl, (Or.inr (Or.inl (by omega)))⟩)⟩
    · refine zj_if_ne (t := 62) (zdk ttX10_canAct 13 rfl rfl) (by decide) (by decide) (fun c18 => ?_) (fun c18 => ?_)
      · refine zj_iconst (zdk ttX10_canAct 16 rfl rfl) ?_
        exact zj_zret rfl (zdk ttX10_canAct 17 rfl rfl) (Nat.le_refl _) (Nat.le_refl _) (by omega) ⟨0, rfl, rfl, b1, b2, (Or.inl ⟨rfl, (Or.inr (Or.inr (Or.inl (by omega))))⟩)⟩
      · exact absurd c18 (by omega)
  have k19 : p1 = 2 → zJ shC l yX10_canAct cX10_canAct 3 (some .boolean) (rmL 2) 0 0 (q_X10_canAct h p1 p2) 0 0 64 [some (.inr 0), some (.inl p1), some (.inl p2)] [] h := by
    intro c3
    refine zj_aload_n (zdk ttX10_canAct 18 rfl rfl) rfl (by decide) ?_
    refine zj_getr (r := 1) (zdk ttX10_canAct 19 rfl rfl) zf_RX10_10 rfl (k_L0 s0) (rf_L0_0 s0) ?_
    refine zj_getr (r := 2) (zdk ttX10_canAct 20 rfl rfl) zf_RX10_67 rfl (k_9_0 s0 zWd_1) (rf_9_0_0 s0 zWd_1) ?_
    refine zj_iload_n (zdk ttX10_canAct 21 rfl rfl) rfl ?_
    refine zj_callV (av := [.inl p2]) (st := []) (zdk ttX10_canAct 22 rfl rfl) mb_X1_isBegged mv_RX10_207 (ci := 1) rfl rfl (k_1_0 s0 zIs_2) rfl rfl (Nat.le_of_ble_eq_true rfl) (s_X1_isBegged l h 2 p2 s0 zIs_2 (by omega)) (rm_ok (by decide) (by decide)) (zq_i fun v21 h22 q20 => ?_)
    obtain ⟨rfl, b24, ⟨rfl, b23⟩ | ⟨rfl, b23⟩⟩ := q20
    · refine zj_if_ne (t := 82) (zdk ttX10_canAct 23 rfl rfl) (by decide) (by decide) (fun c25 => ?_) (fun c25 => ?_)
      · exact absurd c25 (by omega)
      · refine zj_iconst (zdk ttX10_canAct 24 rfl rfl) ?_
        refine zj_goto (t := 83) (zdk ttX10_canAct 25 rfl rfl) (by decide) ?_
        exact zj_zret rfl (zdk ttX10_canAct 27 rfl rfl) (Nat.le_refl _) (Nat.le_refl _) (by omega) ⟨1, rfl, rfl, b1, b2, (Or.inr ⟨rfl, (Or.inr (Or.inr (Or.inl (by omega))))⟩)⟩
    · refine zj_if_ne (t := 82) (zdk ttX10_canAct 23 rfl rfl) (by decide) (by decide) (fun c26 => ?_) (fun c26 => ?_)
      · refine zj_iconst (zdk ttX10_canAct 26 rfl rfl) ?_
        exact zj_zret rfl (zdk ttX10_canAct 27 rfl rfl) (Nat.le_refl _) (Nat.le_refl _) (by omega) ⟨0, rfl, rfl, b1, b2, (Or.inl ⟨rfl, (Or.inr (Or.inr (Or.inr (Or.inl (by omega)))))⟩)⟩
      · exact absurd c26 (by omega)
  have k27 : p1 = 3 → zJ shC l yX10_canAct cX10_canAct 3 (some .boolean) (rmL 2) 0 0 (q_X10_canAct h p1 p2) 0 0 84 [some (.inr 0), some (.inl p1), some (.inl p2)] [] h := by
    intro c3
    refine zj_aload_n (zdk ttX10_canAct 28 rfl rfl) rfl (by decide) ?_
    refine zj_getr (r := 1) (zdk ttX10_canAct 29 rfl rfl) zf_RX10_10 rfl (k_L0 s0) (rf_L0_0 s0) ?_
    refine zj_getr (r := 2) (zdk ttX10_canAct 30 rfl rfl) zf_RX10_67 rfl (k_9_0 s0 zWd_1) (rf_9_0_0 s0 zWd_1) ?_
    refine zj_iload_n (zdk ttX10_canAct 31 rfl rfl) rfl ?_
    refine zj_callV (av := [.inl p2]) (st := []) (zdk ttX10_canAct 32 rfl rfl) mb_X1_isBegged mv_RX10_207 (ci := 1) rfl rfl (k_1_0 s0 zIs_2) rfl rfl (Nat.le_of_ble_eq_true rfl) (s_X1_isBegged l h 2 p2 s0 zIs_2 (by omega)) (rm_ok (by decide) (by decide)) (zq_i fun v29 h30 q28 => ?_)
    obtain ⟨rfl, b32, ⟨rfl, b31⟩ | ⟨rfl, b31⟩⟩ := q28
    · exact zj_zret rfl (zdk ttX10_canAct 33 rfl rfl) (Nat.le_refl _) (Nat.le_refl _) (by omega) ⟨0, rfl, rfl, b1, b2, (Or.inl ⟨rfl, (Or.inr (Or.inr (Or.inr (Or.inr (by omega)))))⟩)⟩
    · exact zj_zret rfl (zdk ttX10_canAct 33 rfl rfl) (Nat.le_refl _) (Nat.le_refl _) (by omega) ⟨1, rfl, rfl, b1, b2, (Or.inr ⟨rfl, (Or.inr (Or.inr (Or.inr (by omega))))⟩)⟩
  refine zj_table (t := 96) (zdk ttX10_canAct 1 rfl rfl) (by omega) (by decide) k4 (fun z1 z2 => ?_)
  have z3 : p1 = 0 ∨ p1 = 1 ∨ p1 = 2 ∨ p1 = 3 := by omega
  rcases z3 with z3 | z3 | z3 | z3
  · exact ⟨31, 32, by rw [z3] <;> rfl, by decide, k5 z3⟩
  · exact ⟨43, 44, by rw [z3] <;> rfl, by decide, k11 z3⟩
  · exact ⟨63, 64, by rw [z3] <;> rfl, by decide, k19 z3⟩
  · exact ⟨83, 84, by rw [z3] <;> rfl, by decide, k27 z3⟩

abbrev tX10_remember : List (Nat × Instr × Nat) := [(0, .aload_n 0, 1), (1, .getfield 55, 3), (4, .bipush 6, 2), (6, .if_icmp .lt 64, 3), (9, .aload_n 0, 1), (10, .getfield 47, 3), (13, .iconst 0, 1), (14, .aaload, 1), (15, .astore_n 1, 1), (16, .iconst 1, 1), (17, .istore_n 2, 1), (18, .iload_n 2, 1), (19, .bipush 6, 2), (21, .if_icmp .ge 37, 3), (24, .aload_n 0, 1), (25, .getfield 47, 3), (28, .iload_n 2, 1), (29, .iconst 1, 1), (30, .isub, 1), (31, .aload_n 0, 1), (32, .getfield 47, 3), (35, .iload_n 2, 1), (36, .aaload, 1), (37, .aastore, 1), (38, .aload_n 0, 1), (39, .getfield 51, 3), (42, .iload_n 2, 1), (43, .iconst 1, 1), (44, .isub, 1), (45, .aload_n 0, 1), (46, .getfield 51, 3), (49, .iload_n 2, 1), (50, .iaload, 1), (51, .iastore, 1), (52, .iinc 2 1, 3), (55, .goto (-37), 3), (58, .aload_n 0, 1), (59, .getfield 47, 3), (62, .iconst 5, 1), (63, .aload_n 1, 1), (64, .aastore, 1), (65, .aload_n 0, 1), (66, .iconst 5, 1), (67, .putfield 55, 3), (70, .aload_n 0, 1), (71, .getfield 47, 3), (74, .aload_n 0, 1), (75, .getfield 55, 3), (78, .aaload, 1), (79, .aload_n 0, 1), (80, .getfield 10, 3), (83, .getfield 67, 3), (86, .invokevirtual 332, 3), (89, .aload_n 0, 1), (90, .getfield 51, 3), (93, .aload_n 0, 1), (94, .getfield 55, 3), (97, .aload_n 0, 1), (98, .getfield 10, 3), (101, .getfield 219, 3), (104, .getfield 223, 3), (107, .iastore, 1), (108, .aload_n 0, 1), (109, .dup, 1), (110, .getfield 55, 3), (113, .iconst 1, 1), (114, .iadd, 1), (115, .putfield 55, 3), (118, .return_, 1)]
theorem ttX10_remember : zdt cX10_remember tX10_remember = true := by decide +kernel
abbrev w_X10_remember (a b : Int) : Prop := (a = 0 ∧ b = 8) ∨ (114 ≤ a ∧ a ≤ 139)
abbrev q_X10_remember (h : zM) : Option zV → zM → Prop := zqv fun h' => okC h' ∧ zfC w_X10_remember h h' ∧ (zJP h → zJP h')
set_option maxRecDepth 100000 in
set_option maxHeartbeats 4000000 in
theorem s_X10_remember (l : Launch) (h : zM) (s0 : okC h) : zT shC l yX10_remember cX10_remember 3 none (rmL 2) 0 0 [.inr 0] h (q_X10_remember h) := by
  refine zT_of (by decide +kernel) (L0 := [some (.inr 0), none, none]) rfl (Nat.le_of_ble_eq_true rfl) ?_
  refine zj_aload_n (zdk ttX10_remember 0 rfl rfl) rfl (by decide) ?_
  have b1 : 0 ≤ (h.2 0 8) ∧ (h.2 0 8) ≤ 6 := fb_L0_8 s0
  refine zj_geti (v := (h.2 0 8)) (zdk ttX10_remember 1 rfl rfl) zf_RX10_55 rfl (k_L0 s0) rfl ?_
  refine zj_bipush (zdk ttX10_remember 2 rfl rfl) (by decide) ?_
  refine zj_icmp_lt (t := 70) (zdk ttX10_remember 3 rfl rfl) (by decide) (by omega) (by decide) (fun c2 => ?_) (fun c2 => ?_)
  · refine zj_aload_n (zdk ttX10_remember 44 rfl rfl) rfl (by decide) ?_
    refine zj_getr (r := 114) (zdk ttX10_remember 45 rfl rfl) zf_RX10_47 rfl (k_L0 s0) (rf_L0_6 s0) ?_
    refine zj_aload_n (zdk ttX10_remember 46 rfl rfl) rfl (by decide) ?_
    refine zj_geti (v := (h.2 0 8)) (zdk ttX10_remember 47 rfl rfl) zf_RX10_55 rfl (k_L0 s0) rfl ?_
    have p3 : zPast (h.2 114 (h.2 0 8)) := s0.2.2.1 (h.2 0 8) (by omega) (by omega)
    have p4 := zPast_Is p3
    have b5 := zIs_b p4
    have b6 := zPast_b p3
    refine zj_aald (r := (h.2 114 (h.2 0 8))) (zdk ttX10_remember 48 rfl rfl) (ka_L0_6 s0) (by decide) (by omega) rfl ?_
    refine zj_aload_n (zdk ttX10_remember 49 rfl rfl) rfl (by decide) ?_
    refine zj_getr (r := 1) (zdk ttX10_remember 50 rfl rfl) zf_RX10_10 rfl (k_L0 s0) (rf_L0_0 s0) ?_
    refine zj_getr (r := 2) (zdk ttX10_remember 51 rfl rfl) zf_RX10_67 rfl (k_9_0 s0 zWd_1) (rf_9_0_0 s0 zWd_1) ?_
    refine zj_callV (av := [.inr 2]) (st := []) (zdk ttX10_remember 52 rfl rfl) mb_X1_copyFrom mv_RX10_332 (ci := 1) rfl rfl (k_1_0 s0 p4) rfl rfl (Nat.le_of_ble_eq_true rfl) (s_X1_copyFrom l h (h.2 114 (h.2 0 8)) 2 s0 p4 zIs_2) (rm_ok (by decide) (by decide)) (zq_v fun h9 q7 => ?_)
    obtain ⟨s11, f13, u12⟩ := q7
    refine zj_aload_n (zdk ttX10_remember 53 rfl rfl) rfl (by decide) ?_
    refine zj_getr (r := 115) (zdk ttX10_remember 54 rfl rfl) zf_RX10_51 rfl (k_L0 s11) (rf_L0_7 s11) ?_
    refine zj_aload_n (zdk ttX10_remember 55 rfl rfl) rfl (by decide) ?_
    refine zj_geti (v := (h.2 0 8)) (zdk ttX10_remember 56 rfl rfl) zf_RX10_55 rfl (k_L0 s11) (zfC_a f13 (fun z9 => by unfold w_X1_copyFrom at z9; first | (revert z9; decide) | omega)) ?_
    refine zj_aload_n (zdk ttX10_remember 57 rfl rfl) rfl (by decide) ?_
    refine zj_getr (r := 1) (zdk ttX10_remember 58 rfl rfl) zf_RX10_10 rfl (k_L0 s11) (rf_L0_0 s11) ?_
    refine zj_getr (r := 23) (zdk ttX10_remember 59 rfl rfl) zf_RX10_219 rfl (k_9_0 s11 zWd_1) (rf_9_0_5 s11 zWd_1) ?_
    have b14 : 0 ≤ (h.2 23 4) ∧ (h.2 23 4) ≤ 150 := fb_0_0_4 s0 zBo_23
    refine zj_geti (v := (h.2 23 4)) (zdk ttX10_remember 60 rfl rfl) zf_RX10_223 rfl (k_0_0 s11 zBo_23) (zfC_a f13 (fun z9 => by unfold w_X1_copyFrom at z9; first | (revert z9; decide) | omega)) ?_
    refine zj_iast (zdk ttX10_remember 61 rfl rfl) (ka_L0_7 s11) (by decide) (by omega) (fun h15 e16 => ?_)
    refine zj_aload_n (zdk ttX10_remember 62 rfl rfl) rfl (by decide) ?_
    refine zj_dup (zdk ttX10_remember 63 rfl rfl) ?_
    have s17 : okC h15 := aw_L0_7 s11 e16 (by omega)
    refine zj_geti (v := (h.2 0 8)) (zdk ttX10_remember 64 rfl rfl) zf_RX10_55 rfl (k_L0 s17) ((zwr_r e16 (by first | decide | exact (absurd ·.1 (by decide)) | exact (absurd ·.2 (by decide)) | omega)).trans (zfC_a f13 (fun z9 => by unfold w_X1_copyFrom at z9; first | (revert z9; decide) | omega))) ?_
    refine zj_iconst (zdk ttX10_remember 65 rfl rfl) ?_
    refine zj_iadd (zdk ttX10_remember 66 rfl rfl) ?_
    refine zj_puti (zdk ttX10_remember 67 rfl rfl) zf_RX10_55 rfl (k_L0 s17) (Or.inl zw_RX10_55) (k2 := 8) rfl (fun h18 e19 => ?_)
    have s20 : okC h18 := fw_L0_8 s17 e19 (by omega)
    have f23 : zfC w_X10_remember h h9 := zfC_t (zfC_r _ _) f13 (fun a9 b9 z9 => by
      rcases z9 with z9 | z9
      · exact (Or.inr (by omega))
      · exact (Or.inr (by omega)))
    have f22 : zfC w_X10_remember h h15 := zfC_w f23 e16 (Or.inr (by omega))
    have f21 : zfC w_X10_remember h h18 := zfC_w f22 e19 (Or.inl (by omega))
    exact zj_vret rfl (zdk ttX10_remember 68 rfl rfl) (Nat.le_refl _) (Nat.le_refl _) ⟨rfl, s20, f21, (fun j => zJP_push (u := (h.2 0 8)) s0 j rfl (by omega) f13 u12 e16 e19)⟩
  · refine zj_aload_n (zdk ttX10_remember 4 rfl rfl) rfl (by decide) ?_
    refine zj_getr (r := 114) (zdk ttX10_remember 5 rfl rfl) zf_RX10_47 rfl (k_L0 s0) (rf_L0_6 s0) ?_
    refine zj_iconst (zdk ttX10_remember 6 rfl rfl) ?_
    have p24 : zPast (h.2 114 0) := s0.2.2.1 0 (by omega) (by omega)
    have p25 := zPast_Is p24
    have b26 := zIs_b p25
    have b27 := zPast_b p24
    refine zj_aald (r := (h.2 114 0)) (zdk ttX10_remember 7 rfl rfl) (ka_L0_6 s0) (by decide) (by omega) rfl ?_
    refine zj_astore_n (L' := [some (.inr 0), some (.inr (h.2 114 0)), none]) (zdk ttX10_remember 8 rfl rfl) (by omega) (by decide) rfl ?_
    refine zj_iconst (zdk ttX10_remember 9 rfl rfl) ?_
    refine zj_istore_n (L' := [some (.inr 0), some (.inr (h.2 114 0)), some (.inl 1)]) (zdk ttX10_remember 10 rfl rfl) (by decide) rfl ?_
    have lp98 : ∀ (n : Nat) (x28 : Int) (h29 : zM), (1 ≤ x28 ∧ x28 ≤ 6) → okC h29 → zfC w_X10_remember h h29 → (zJP h → ∀ i, 0 ≤ i → i < 6 → h29.2 (h29.2 114 i) 3 = h29.2 2 3) → (7 - x28).toNat < n → zJ shC l yX10_remember cX10_remember 3 none (rmL 2) 0 0 (q_X10_remember h) 0 0 18 [some (.inr 0), some (.inr (h.2 114 0)), some (.inl x28)] [] h29 := by
      intro n
      induction n with
      | zero => intro x28 h29 b99 s30 f31 u100 m101; exact absurd m101 (Nat.not_lt_zero _)
      | succ n ih102 =>
        intro x28 h29 b99 s30 f31 u100 m101
        refine zj_iload_n (zdk ttX10_remember 11 rfl rfl) rfl ?_
        refine zj_bipush (zdk ttX10_remember 12 rfl rfl) (by decide) ?_
        refine zj_icmp_ge (t := 58) (zdk ttX10_remember 13 rfl rfl) (by decide) (by omega) (by decide) (fun c103 => ?_) (fun c103 => ?_)
        · refine zj_aload_n (zdk ttX10_remember 36 rfl rfl) rfl (by decide) ?_
          refine zj_getr (r := 114) (zdk ttX10_remember 37 rfl rfl) zf_RX10_47 rfl (k_L0 s30) (rf_L0_6 s30) ?_
          refine zj_iconst (zdk ttX10_remember 38 rfl rfl) ?_
          refine zj_aload_n (zdk ttX10_remember 39 rfl rfl) rfl (by omega) ?_
          refine zj_aast (zdk ttX10_remember 40 rfl rfl) (ka_L0_6 s30) (by decide) (by omega) (k_1_0 s30 p25) (fun h104 e105 => ?_)
          refine zj_aload_n (zdk ttX10_remember 41 rfl rfl) rfl (by decide) ?_
          refine zj_iconst (zdk ttX10_remember 42 rfl rfl) ?_
          have s106 : okC h104 := okC_past s30 e105 p24
          refine zj_puti (zdk ttX10_remember 43 rfl rfl) zf_RX10_55 rfl (k_L0 s106) (Or.inl zw_RX10_55) (k2 := 8) rfl (fun h107 e108 => ?_)
          refine zj_aload_n (zdk ttX10_remember 44 rfl rfl) rfl (by decide) ?_
          have s109 : okC h107 := fw_L0_8 s106 e108 (by omega)
          refine zj_getr (r := 114) (zdk ttX10_remember 45 rfl rfl) zf_RX10_47 rfl (k_L0 s109) (rf_L0_6 s109) ?_
          refine zj_aload_n (zdk ttX10_remember 46 rfl rfl) rfl (by decide) ?_
          refine zj_geti (v := 5) (zdk ttX10_remember 47 rfl rfl) zf_RX10_55 rfl (k_L0 s109) (zwr_v e108) ?_
          have p110 : zPast (h107.2 114 5) := s109.2.2.1 5 (by omega) (by omega)
          have p111 := zPast_Is p110
          have b112 := zIs_b p111
          have b113 := zPast_b p110
          refine zj_aald (r := (h107.2 114 5)) (zdk ttX10_remember 48 rfl rfl) (ka_L0_6 s109) (by decide) (by omega) rfl ?_
          refine zj_aload_n (zdk ttX10_remember 49 rfl rfl) rfl (by decide) ?_
          refine zj_getr (r := 1) (zdk ttX10_remember 50 rfl rfl) zf_RX10_10 rfl (k_L0 s109) (rf_L0_0 s109) ?_
          refine zj_getr (r := 2) (zdk ttX10_remember 51 rfl rfl) zf_RX10_67 rfl (k_9_0 s109 zWd_1) (rf_9_0_0 s109 zWd_1) ?_
          refine zj_callV (av := [.inr 2]) (st := []) (zdk ttX10_remember 52 rfl rfl) mb_X1_copyFrom mv_RX10_332 (ci := 1) rfl rfl (k_1_0 s109 p111) rfl rfl (Nat.le_of_ble_eq_true rfl) (s_X1_copyFrom l h107 (h107.2 114 5) 2 s109 p111 zIs_2) (rm_ok (by decide) (by decide)) (zq_v fun h116 q114 => ?_)
          obtain ⟨s118, f120, u119⟩ := q114
          refine zj_aload_n (zdk ttX10_remember 53 rfl rfl) rfl (by decide) ?_
          refine zj_getr (r := 115) (zdk ttX10_remember 54 rfl rfl) zf_RX10_51 rfl (k_L0 s118) (rf_L0_7 s118) ?_
          refine zj_aload_n (zdk ttX10_remember 55 rfl rfl) rfl (by decide) ?_
          refine zj_geti (v := 5) (zdk ttX10_remember 56 rfl rfl) zf_RX10_55 rfl (k_L0 s118) ((zfC_a f120 (fun z9 => by unfold w_X1_copyFrom at z9; first | (revert z9; decide) | omega)).trans (zwr_v e108)) ?_
          refine zj_aload_n (zdk ttX10_remember 57 rfl rfl) rfl (by decide) ?_
          refine zj_getr (r := 1) (zdk ttX10_remember 58 rfl rfl) zf_RX10_10 rfl (k_L0 s118) (rf_L0_0 s118) ?_
          refine zj_getr (r := 23) (zdk ttX10_remember 59 rfl rfl) zf_RX10_219 rfl (k_9_0 s118 zWd_1) (rf_9_0_5 s118 zWd_1) ?_
          have b121 : 0 ≤ (h.2 23 4) ∧ (h.2 23 4) ≤ 150 := fb_0_0_4 s0 zBo_23
          refine zj_geti (v := (h.2 23 4)) (zdk ttX10_remember 60 rfl rfl) zf_RX10_223 rfl (k_0_0 s118 zBo_23) ((((zfC_a f120 (fun z9 => by unfold w_X1_copyFrom at z9; first | (revert z9; decide) | omega)).trans (zwr_r e108 (by first | decide | exact (absurd ·.1 (by decide)) | exact (absurd ·.2 (by decide)) | omega))).trans (zwr_r e105 (by first | decide | exact (absurd ·.1 (by decide)) | exact (absurd ·.2 (by decide)) | omega))).trans (zfC_a f31 (fun z9 => by unfold w_X10_remember at z9; first | (revert z9; decide) | omega))) ?_
          refine zj_iast (zdk ttX10_remember 61 rfl rfl) (ka_L0_7 s118) (by decide) (by omega) (fun h122 e123 => ?_)
          refine zj_aload_n (zdk ttX10_remember 62 rfl rfl) rfl (by decide) ?_
          refine zj_dup (zdk ttX10_remember 63 rfl rfl) ?_
          have s124 : okC h122 := aw_L0_7 s118 e123 (by omega)
          refine zj_geti (v := 5) (zdk ttX10_remember 64 rfl rfl) zf_RX10_55 rfl (k_L0 s124) (((zwr_r e123 (by first | decide | exact (absurd ·.1 (by decide)) | exact (absurd ·.2 (by decide)) | omega)).trans (zfC_a f120 (fun z9 => by unfold w_X1_copyFrom at z9; first | (revert z9; decide) | omega))).trans (zwr_v e108)) ?_
          refine zj_iconst (zdk ttX10_remember 65 rfl rfl) ?_
          refine zj_iadd (zdk ttX10_remember 66 rfl rfl) ?_
          refine zj_puti (zdk ttX10_remember 67 rfl rfl) zf_RX10_55 rfl (k_L0 s124) (Or.inl zw_RX10_55) (k2 := 8) rfl (fun h125 e126 => ?_)
          have s127 : okC h125 := fw_L0_8 s124 e126 (by omega)
          have f132 : zfC w_X10_remember h h104 := zfC_w f31 e105 (Or.inr (by omega))
          have f131 : zfC w_X10_remember h h107 := zfC_w f132 e108 (Or.inl (by omega))
          have f130 : zfC w_X10_remember h h116 := zfC_t f131 f120 (fun a9 b9 z9 => by
            rcases z9 with z9 | z9
            · exact (Or.inr (by omega))
            · exact (Or.inr (by omega)))
          have f129 : zfC w_X10_remember h h122 := zfC_w f130 e123 (Or.inr (by omega))
          have f128 : zfC w_X10_remember h h125 := zfC_w f129 e126 (Or.inl (by omega))
          exact zj_vret rfl (zdk ttX10_remember 68 rfl rfl) (Nat.le_refl _) (Nat.le_refl _) ⟨rfl, s127, f128, (fun j => zJP_push (u := 5) s109 (zJP_sh s109 e105 e108 (u100 j)) (zwr_v e108) (by omega) f120 u119 e123 e126)⟩
        · refine zj_aload_n (zdk ttX10_remember 14 rfl rfl) rfl (by decide) ?_
          refine zj_getr (r := 114) (zdk ttX10_remember 15 rfl rfl) zf_RX10_47 rfl (k_L0 s30) (rf_L0_6 s30) ?_
          refine zj_iload_n (zdk ttX10_remember 16 rfl rfl) rfl ?_
          refine zj_iconst (zdk ttX10_remember 17 rfl rfl) ?_
          refine zj_isub (zdk ttX10_remember 18 rfl rfl) ?_
          refine zj_aload_n (zdk ttX10_remember 19 rfl rfl) rfl (by decide) ?_
          refine zj_getr (r := 114) (zdk ttX10_remember 20 rfl rfl) zf_RX10_47 rfl (k_L0 s30) (rf_L0_6 s30) ?_
          refine zj_iload_n (zdk ttX10_remember 21 rfl rfl) rfl ?_
          have p133 : zPast (h29.2 114 x28) := s30.2.2.1 x28 (by omega) (by omega)
          have p134 := zPast_Is p133
          have b135 := zIs_b p134
          have b136 := zPast_b p133
          refine zj_aald (r := (h29.2 114 x28)) (zdk ttX10_remember 22 rfl rfl) (ka_L0_6 s30) (by decide) (by omega) rfl ?_
          refine zj_aast (zdk ttX10_remember 23 rfl rfl) (ka_L0_6 s30) (by decide) (by omega) (k_1_0 s30 p134) (fun h137 e138 => ?_)
          refine zj_aload_n (zdk ttX10_remember 24 rfl rfl) rfl (by decide) ?_
          have s139 : okC h137 := okC_past s30 e138 p133
          refine zj_getr (r := 115) (zdk ttX10_remember 25 rfl rfl) zf_RX10_51 rfl (k_L0 s139) (rf_L0_7 s139) ?_
          refine zj_iload_n (zdk ttX10_remember 26 rfl rfl) rfl ?_
          refine zj_iconst (zdk ttX10_remember 27 rfl rfl) ?_
          refine zj_isub (zdk ttX10_remember 28 rfl rfl) ?_
          refine zj_aload_n (zdk ttX10_remember 29 rfl rfl) rfl (by decide) ?_
          refine zj_getr (r := 115) (zdk ttX10_remember 30 rfl rfl) zf_RX10_51 rfl (k_L0 s139) (rf_L0_7 s139) ?_
          refine zj_iload_n (zdk ttX10_remember 31 rfl rfl) rfl ?_
          have b140 : 0 ≤ (h29.2 115 x28) ∧ (h29.2 115 x28) ≤ 150 := ab_L0_7 s30 x28
          refine zj_iald (v := (h29.2 115 x28)) (zdk ttX10_remember 32 rfl rfl) (ka_L0_7 s139) (by decide) (by omega) (zwr_r e138 (by first | decide | exact (absurd ·.1 (by decide)) | exact (absurd ·.2 (by decide)) | omega)) ?_
          refine zj_iast (zdk ttX10_remember 33 rfl rfl) (ka_L0_7 s139) (by decide) (by omega) (fun h141 e142 => ?_)
          refine zj_iinc (L' := [some (.inr 0), some (.inr (h.2 114 0)), some (.inl (x28 + 1))]) (zdk ttX10_remember 34 rfl rfl) rfl (by decide) rfl ?_
          refine zj_goto (t := 18) (zdk ttX10_remember 35 rfl rfl) (by decide) ?_
          have s143 : okC h141 := aw_L0_7 s139 e142 (by omega)
          have f145 : zfC w_X10_remember h h137 := zfC_w f31 e138 (Or.inr (by omega))
          have f144 : zfC w_X10_remember h h141 := zfC_w f145 e142 (Or.inr (by omega))
          exact ih102  (x28 + 1) h141 (by omega) s143 f144 (fun j => zJP_row s30 e138 ⟨x28, by omega, by omega, rfl⟩ e142 (u100 j)) (by omega)
    exact lp98 _ 1 h (by omega) s0 (zfC_r _ _) (fun j i a b => j i a (by omega)) (Nat.lt_succ_self _)

abbrev tX10_act : List (Nat × Instr × Nat) := [(0, .aload_n 0, 1), (1, .getfield 10, 3), (4, .getfield 67, 3), (7, .iload_n 2, 1), (8, .invokevirtual 106, 3), (11, .ifCond .eq 12, 3), (14, .aload_n 0, 1), (15, .iload_n 1, 1), (16, .iload_n 2, 1), (17, .invokevirtual 110, 3), (20, .ifCond .ne 5, 3), (23, .iconst 0, 1), (24, .ireturn, 1), (25, .aload_n 0, 1), (26, .invokevirtual 114, 3), (29, .iload_n 1, 1), (30, .tableswitch 69 0 2 #[26, 37, 48], 26), (56, .aload_n 0, 1), (57, .getfield 10, 3), (60, .iload_n 2, 1), (61, .invokevirtual 117, 3), (64, .goto 55, 3), (67, .aload_n 0, 1), (68, .getfield 10, 3), (71, .iload_n 2, 1), (72, .invokevirtual 121, 3), (75, .goto 44, 3), (78, .aload_n 0, 1), (79, .getfield 10, 3), (82, .getfield 67, 3), (85, .dup, 1), (86, .getfield 124, 3), (89, .iconst 1, 1), (90, .iload_n 2, 1), (91, .ishl, 1), (92, .ior, 1), (93, .putfield 124, 3), (96, .goto 23, 3), (99, .aload_n 0, 1), (100, .getfield 10, 3), (103, .getfield 67, 3), (106, .dup, 1), (107, .getfield 124, 3), (110, .iconst 1, 1), (111, .iload_n 2, 1), (112, .ishl, 1), (113, .iconst (-1), 1), (114, .ixor, 1), (115, .iand, 1), (116, .putfield 124, 3), (119, .iconst 1, 1), (120, .ireturn, 1)]
theorem ttX10_act : zdt cX10_act tX10_act = true := by decide +kernel
abbrev w_X10_act (a b : Int) : Prop := (a = 0 ∧ b = 8) ∨ (a = 2 ∧ 4 ≤ b ∧ b ≤ 5) ∨ (a = 2 ∧ b = 7) ∨ a = 5 ∨ a = 12 ∨ (a = 23 ∧ b = 4) ∨ (24 ≤ a ∧ a ≤ 27) ∨ (114 ≤ a ∧ a ≤ 139)
abbrev q_X10_act (h : zM) (p1 : Int) (p2 : Int) : Option zV → zM → Prop := zqi fun v h' => (0 ≤ v ∧ v ≤ 1) ∧ okC h' ∧ zfC w_X10_act h h' ∧ (zJP h → zJP h')
set_option maxRecDepth 100000 in
set_option maxHeartbeats 4000000 in
theorem s_X10_act (l : Launch) (h : zM) (p1 : Int) (p2 : Int) (s0 : okC h) (b_p1 : (-2147483648) ≤ p1 ∧ p1 ≤ 2147483647) (b_p2 : (-2147483648) ≤ p2 ∧ p2 ≤ 2147483647) : zT shC l yX10_act cX10_act 3 (some .boolean) (rmL 6) 0 0 [.inr 0, .inl p1, .inl p2] h (q_X10_act h p1 p2) := by
  refine zT_of (by decide +kernel) (L0 := [some (.inr 0), some (.inl p1), some (.inl p2)]) rfl (Nat.le_of_ble_eq_true rfl) ?_
  refine zj_aload_n (zdk ttX10_act 0 rfl rfl) rfl (by decide) ?_
  refine zj_getr (r := 1) (zdk ttX10_act 1 rfl rfl) zf_RX10_10 rfl (k_L0 s0) (rf_L0_0 s0) ?_
  refine zj_getr (r := 2) (zdk ttX10_act 2 rfl rfl) zf_RX10_67 rfl (k_9_0 s0 zWd_1) (rf_9_0_0 s0 zWd_1) ?_
  refine zj_iload_n (zdk ttX10_act 3 rfl rfl) rfl ?_
  refine zj_callV (av := [.inl p2]) (st := []) (zdk ttX10_act 4 rfl rfl) mb_X1_knows mv_RX10_106 (ci := 1) rfl rfl (k_1_0 s0 zIs_2) rfl rfl (Nat.le_of_ble_eq_true rfl) (s_X1_knows l h 2 p2 s0 zIs_2 (by omega)) (rm_ok (by decide) (by decide)) (zq_i fun v2 h3 q1 => ?_)
  obtain ⟨rfl, b5, ⟨rfl, b4⟩ | ⟨rfl, b4⟩⟩ := q1
  · refine zj_if_eq (t := 23) (zdk ttX10_act 5 rfl rfl) (by decide) (by decide) (fun c6 => ?_) (fun c6 => ?_)
    · refine zj_iconst (zdk ttX10_act 11 rfl rfl) ?_
      exact zj_zret rfl (zdk ttX10_act 12 rfl rfl) (Nat.le_refl _) (Nat.le_refl _) (by omega) ⟨0, rfl, by omega, s0, (zfC_r _ _), (fun j => j)⟩
    · exact absurd c6 (by omega)
  · refine zj_if_eq (t := 23) (zdk ttX10_act 5 rfl rfl) (by decide) (by decide) (fun c7 => ?_) (fun c7 => ?_)
    · exact absurd c7 (by omega)
    · refine zj_aload_n (zdk ttX10_act 6 rfl rfl) rfl (by decide) ?_
      refine zj_iload_n (zdk ttX10_act 7 rfl rfl) rfl ?_
      refine zj_iload_n (zdk ttX10_act 8 rfl rfl) rfl ?_
      refine zj_callV (av := [.inl p1, .inl p2]) (st := []) (zdk ttX10_act 9 rfl rfl) mb_X10_canAct mv_RX10_110 (ci := 10) rfl rfl (k_L0 s0) rfl rfl (Nat.le_of_ble_eq_true rfl) (s_X10_canAct l h p1 p2 s0 (by omega) (by omega)) (rm_ok (by decide) (by decide)) (zq_i fun v9 h10 q8 => ?_)
      obtain ⟨rfl, b12, b13, ⟨rfl, b11⟩ | ⟨rfl, b11⟩⟩ := q8
      · refine zj_if_ne (t := 25) (zdk ttX10_act 10 rfl rfl) (by decide) (by decide) (fun c14 => ?_) (fun c14 => ?_)
        · exact absurd c14 (by omega)
        · refine zj_iconst (zdk ttX10_act 11 rfl rfl) ?_
          exact zj_zret rfl (zdk ttX10_act 12 rfl rfl) (Nat.le_refl _) (Nat.le_refl _) (by omega) ⟨0, rfl, by omega, s0, (zfC_r _ _), (fun j => j)⟩
      · refine zj_if_ne (t := 25) (zdk ttX10_act 10 rfl rfl) (by decide) (by decide) (fun c15 => ?_) (fun c15 => ?_)
        · refine zj_aload_n (zdk ttX10_act 13 rfl rfl) rfl (by decide) ?_
          refine zj_callV (av := []) (st := []) (zdk ttX10_act 14 rfl rfl) mb_X10_remember mv_RX10_114 (ci := 10) rfl rfl (k_L0 s0) rfl rfl (Nat.le_of_ble_eq_true rfl) (s_X10_remember l h s0) (rm_ok (by decide) (by decide)) (zq_v fun h18 q16 => ?_)
          obtain ⟨s20, f22, u21⟩ := q16
          refine zj_iload_n (zdk ttX10_act 15 rfl rfl) rfl ?_
          have k24 : (p1 < 0 ∨ 2 < p1) → zJ shC l yX10_act cX10_act 3 (some .boolean) (rmL 6) 0 0 (q_X10_act h p1 p2) 0 0 99 [some (.inr 0), some (.inl p1), some (.inl p2)] [] h18 := by
            intro c23
            refine zj_aload_n (zdk ttX10_act 38 rfl rfl) rfl (by decide) ?_
            refine zj_getr (r := 1) (zdk ttX10_act 39 rfl rfl) zf_RX10_10 rfl (k_L0 s20) (rf_L0_0 s20) ?_
            refine zj_getr (r := 2) (zdk ttX10_act 40 rfl rfl) zf_RX10_67 rfl (k_9_0 s20 zWd_1) (rf_9_0_0 s20 zWd_1) ?_
            refine zj_dup (zdk ttX10_act 41 rfl rfl) ?_
            refine zj_geti (v := (h.2 2 5)) (zdk ttX10_act 42 rfl rfl) zf_RX10_124 rfl (k_1_0 s20 zIs_2) (zfC_a f22 (fun z9 => by unfold w_X10_remember at z9; first | (revert z9; decide) | omega)) ?_
            refine zj_iconst (zdk ttX10_act 43 rfl rfl) ?_
            refine zj_iload_n (zdk ttX10_act 44 rfl rfl) rfl ?_
            refine zj_ishl (zdk ttX10_act 45 rfl rfl) ?_
            have b25 := zshl_1 (n := p2) (a := 0) (b := 17) (lo := 1) (hi := 131072) (by omega) (by decide) (by decide) (by decide)
            refine zj_iconst (zdk ttX10_act 46 rfl rfl) ?_
            refine zj_ixor (zdk ttX10_act 47 rfl rfl) ?_
            have b26 := zxor_in (zshl 1 p2) (-1)
            refine zj_iand (zdk ttX10_act 48 rfl rfl) ?_
            have b27 := zand_in (h.2 2 5) (zxor (zshl 1 p2) (-1))
            refine zj_puti (zdk ttX10_act 49 rfl rfl) zf_RX10_124 rfl (k_1_0 s20 zIs_2) (Or.inl zw_RX10_124) (k2 := 5) rfl (fun h28 e29 => ?_)
            refine zj_iconst (zdk ttX10_act 50 rfl rfl) ?_
            have s30 : okC h28 := fw_1_0_5 s20 zIs_2 e29 (by omega)
            have f32 : zfC w_X10_act h h18 := zfC_t (zfC_r _ _) f22 (fun a9 b9 z9 => by
              rcases z9 with z9 | z9
              · exact (Or.inl z9)
              · exact (Or.inr (Or.inr (Or.inr (Or.inr (Or.inr (Or.inr (Or.inr z9))))))))
            have f31 : zfC w_X10_act h h28 := zfC_w f32 e29 (Or.inr (Or.inl (by omega)))
            exact zj_zret rfl (zdk ttX10_act 51 rfl rfl) (Nat.le_refl _) (Nat.le_refl _) (by omega) ⟨1, rfl, by omega, s30, f31, (fun j => zJP_g s20 (zwr_r e29 (by decide)) (zwr_r e29 (by decide)) (fun a b z1 z2 => (zwr_r e29 (by first | decide | exact (absurd ·.1 (by decide)) | exact (absurd ·.2 (by decide)) | omega))) (u21 j))⟩
          have k33 : p1 = 0 → zJ shC l yX10_act cX10_act 3 (some .boolean) (rmL 6) 0 0 (q_X10_act h p1 p2) 0 0 56 [some (.inr 0), some (.inl p1), some (.inl p2)] [] h18 := by
            intro c23
            refine zj_aload_n (zdk ttX10_act 17 rfl rfl) rfl (by decide) ?_
            refine zj_getr (r := 1) (zdk ttX10_act 18 rfl rfl) zf_RX10_10 rfl (k_L0 s20) (rf_L0_0 s20) ?_
            refine zj_iload_n (zdk ttX10_act 19 rfl rfl) rfl ?_
            refine zj_callV (av := [.inl p2]) (st := []) (zdk ttX10_act 20 rfl rfl) mb_X9_goAboard mv_RX10_117 (ci := 9) rfl rfl (k_9_0 s20 zWd_1) rfl rfl (Nat.le_of_ble_eq_true rfl) (s_X9_goAboard l h18 1 p2 s20 zWd_1 (by omega)) (rm_ok (by decide) (by decide)) (zq_v fun h36 q34 => ?_)
            obtain ⟨s38, f39⟩ := q34
            refine zj_goto (t := 119) (zdk ttX10_act 21 rfl rfl) (by decide) ?_
            refine zj_iconst (zdk ttX10_act 50 rfl rfl) ?_
            have f41 : zfC w_X10_act h h18 := zfC_t (zfC_r _ _) f22 (fun a9 b9 z9 => by
              rcases z9 with z9 | z9
              · exact (Or.inl z9)
              · exact (Or.inr (Or.inr (Or.inr (Or.inr (Or.inr (Or.inr (Or.inr z9))))))))
            have f40 : zfC w_X10_act h h36 := zfC_t f41 f39 (fun a9 b9 z9 => by
              rcases z9 with z9 | z9 | z9 | z9 | z9 | z9
              · exact (Or.inr (Or.inl (by omega)))
              · exact (Or.inr (Or.inr (Or.inl z9)))
              · exact (Or.inr (Or.inr (Or.inr (Or.inl z9))))
              · exact (Or.inr (Or.inr (Or.inr (Or.inr (Or.inl z9)))))
              · exact (Or.inr (Or.inr (Or.inr (Or.inr (Or.inr (Or.inl z9))))))
              · exact (Or.inr (Or.inr (Or.inr (Or.inr (Or.inr (Or.inr (Or.inl z9))))))))
            exact zj_zret rfl (zdk ttX10_act 51 rfl rfl) (Nat.le_refl _) (Nat.le_refl _) (by omega) ⟨1, rfl, by omega, s38, f40, (fun j => zJP_g s20 (zfC_a f39 (fun z9 => by unfold w_X9_goAboard at z9; first | (revert z9; decide) | omega)) (zfC_a f39 (fun z9 => by unfold w_X9_goAboard at z9; first | (revert z9; decide) | omega)) (fun a b z1 z2 => (zfC_a f39 (fun z9 => by unfold w_X9_goAboard at z9; first | (revert z9; decide) | omega))) (u21 j))⟩
          have k42 : p1 = 1 → zJ shC l yX10_act cX10_act 3 (some .boolean) (rmL 6) 0 0 (q_X10_act h p1 p2) 0 0 67 [some (.inr 0), some (.inl p1), some (.inl p2)] [] h18 := by
            intro c23
            refine zj_aload_n (zdk ttX10_act 22 rfl rfl) rfl (by decide) ?_
            refine zj_getr (r := 1) (zdk ttX10_act 23 rfl rfl) zf_RX10_10 rfl (k_L0 s20) (rf_L0_0 s20) ?_
            refine zj_iload_n (zdk ttX10_act 24 rfl rfl) rfl ?_
            refine zj_callV (av := [.inl p2]) (st := []) (zdk ttX10_act 25 rfl rfl) mb_X9_comeBack mv_RX10_121 (ci := 9) rfl rfl (k_9_0 s20 zWd_1) rfl rfl (Nat.le_of_ble_eq_true rfl) (s_X9_comeBack l h18 1 p2 s20 zWd_1 (by omega)) (rm_ok (by decide) (by decide)) (zq_v fun h45 q43 => ?_)
            obtain ⟨s47, f48⟩ := q43
            refine zj_goto (t := 119) (zdk ttX10_act 26 rfl rfl) (by decide) ?_
            refine zj_iconst (zdk ttX10_act 50 rfl rfl) ?_
            have f50 : zfC w_X10_act h h18 := zfC_t (zfC_r _ _) f22 (fun a9 b9 z9 => by
              rcases z9 with z9 | z9
              · exact (Or.inl z9)
              · exact (Or.inr (Or.inr (Or.inr (Or.inr (Or.inr (Or.inr (Or.inr z9))))))))
            have f49 : zfC w_X10_act h h45 := zfC_t f50 f48 (fun a9 b9 z9 => by
              rcases z9 with z9 | z9 | z9 | z9 | z9
              · exact (Or.inr (Or.inl (by omega)))
              · exact (Or.inr (Or.inr (Or.inl z9)))
              · exact (Or.inr (Or.inr (Or.inr (Or.inr (Or.inl z9)))))
              · exact (Or.inr (Or.inr (Or.inr (Or.inr (Or.inr (Or.inl z9))))))
              · exact (Or.inr (Or.inr (Or.inr (Or.inr (Or.inr (Or.inr (Or.inl z9))))))))
            exact zj_zret rfl (zdk ttX10_act 51 rfl rfl) (Nat.le_refl _) (Nat.le_refl _) (by omega) ⟨1, rfl, by omega, s47, f49, (fun j => zJP_g s20 (zfC_a f48 (fun z9 => by unfold w_X9_comeBack at z9; first | (revert z9; decide) | omega)) (zfC_a f48 (fun z9 => by unfold w_X9_comeBack at z9; first | (revert z9; decide) | omega)) (fun a b z1 z2 => (zfC_a f48 (fun z9 => by unfold w_X9_comeBack at z9; first | (revert z9; decide) | omega))) (u21 j))⟩
          have k51 : p1 = 2 → zJ shC l yX10_act cX10_act 3 (some .boolean) (rmL 6) 0 0 (q_X10_act h p1 p2) 0 0 78 [some (.inr 0), some (.inl p1), some (.inl p2)] [] h18 := by
            intro c23
            refine zj_aload_n (zdk ttX10_act 27 rfl rfl) rfl (by decide) ?_
            refine zj_getr (r := 1) (zdk ttX10_act 28 rfl rfl) zf_RX10_10 rfl (k_L0 s20) (rf_L0_0 s20) ?_
            refine zj_getr (r := 2) (zdk ttX10_act 29 rfl rfl) zf_RX10_67 rfl (k_9_0 s20 zWd_1) (rf_9_0_0 s20 zWd_1) ?_
            refine zj_dup (zdk ttX10_act 30 rfl rfl) ?_
            refine zj_geti (v := (h.2 2 5)) (zdk ttX10_act 31 rfl rfl) zf_RX10_124 rfl (k_1_0 s20 zIs_2) (zfC_a f22 (fun z9 => by unfold w_X10_remember at z9; first | (revert z9; decide) | omega)) ?_
            refine zj_iconst (zdk ttX10_act 32 rfl rfl) ?_
            refine zj_iload_n (zdk ttX10_act 33 rfl rfl) rfl ?_
            refine zj_ishl (zdk ttX10_act 34 rfl rfl) ?_
            have b52 := zshl_1 (n := p2) (a := 0) (b := 17) (lo := 1) (hi := 131072) (by omega) (by decide) (by decide) (by decide)
            refine zj_ior (zdk ttX10_act 35 rfl rfl) ?_
            have b53 := zor_in (h.2 2 5) (zshl 1 p2)
            refine zj_puti (zdk ttX10_act 36 rfl rfl) zf_RX10_124 rfl (k_1_0 s20 zIs_2) (Or.inl zw_RX10_124) (k2 := 5) rfl (fun h54 e55 => ?_)
            refine zj_goto (t := 119) (zdk ttX10_act 37 rfl rfl) (by decide) ?_
            refine zj_iconst (zdk ttX10_act 50 rfl rfl) ?_
            have s56 : okC h54 := fw_1_0_5 s20 zIs_2 e55 (by omega)
            have f58 : zfC w_X10_act h h18 := zfC_t (zfC_r _ _) f22 (fun a9 b9 z9 => by
              rcases z9 with z9 | z9
              · exact (Or.inl z9)
              · exact (Or.inr (Or.inr (Or.inr (Or.inr (Or.inr (Or.inr (Or.inr z9))))))))
            have f57 : zfC w_X10_act h h54 := zfC_w f58 e55 (Or.inr (Or.inl (by omega)))
            exact zj_zret rfl (zdk ttX10_act 51 rfl rfl) (Nat.le_refl _) (Nat.le_refl _) (by omega) ⟨1, rfl, by omega, s56, f57, (fun j => zJP_g s20 (zwr_r e55 (by decide)) (zwr_r e55 (by decide)) (fun a b z1 z2 => (zwr_r e55 (by first | decide | exact (absurd ·.1 (by decide)) | exact (absurd ·.2 (by decide)) | omega))) (u21 j))⟩
          refine zj_table (t := 99) (zdk ttX10_act 16 rfl rfl) (by omega) (by decide) k24 (fun z1 z2 => ?_)
          have z3 : p1 = 0 ∨ p1 = 1 ∨ p1 = 2 := by omega
          rcases z3 with z3 | z3 | z3
          · exact ⟨26, 56, by rw [z3] <;> rfl, by decide, k33 z3⟩
          · exact ⟨37, 67, by rw [z3] <;> rfl, by decide, k42 z3⟩
          · exact ⟨48, 78, by rw [z3] <;> rfl, by decide, k51 z3⟩
        · exact absurd c15 (by omega)

abbrev tX10_days : List (Nat × Instr × Nat) := [(0, .iload_n 1, 1), (1, .iconst 1, 1), (2, .bipush 60, 2), (4, .invokestatic 77, 3), (7, .ifCond .eq 21, 3), (10, .aload_n 0, 1), (11, .getfield 10, 3), (14, .getfield 67, 3), (17, .getfield 127, 3), (20, .iload_n 1, 1), (21, .iadd, 1), (22, .sipush 9999, 3), (25, .if_icmp .le 5, 3), (28, .iconst (-1), 1), (29, .ireturn, 1), (30, .aload_n 0, 1), (31, .getfield 10, 3), (34, .getfield 67, 3), (37, .getfield 130, 3), (40, .istore_n 2, 1), (41, .iconst 0, 1), (42, .istore_n 3, 1), (43, .iload_n 3, 1), (44, .iload_n 1, 1), (45, .if_icmp .ge 21, 3), (48, .aload_n 0, 1), (49, .invokevirtual 114, 3), (52, .aload_n 0, 1), (53, .getfield 10, 3), (56, .iconst 0, 1), (57, .invokevirtual 133, 3), (60, .iinc 3 1, 3), (63, .goto (-20), 3), (66, .aload_n 0, 1), (67, .getfield 10, 3), (70, .getfield 67, 3), (73, .getfield 130, 3), (76, .iload_n 2, 1), (77, .isub, 1), (78, .ireturn, 1)]
theorem ttX10_days : zdt cX10_days tX10_days = true := by decide +kernel
abbrev w_X10_days (a b : Int) : Prop := (a = 0 ∧ b = 8) ∨ (a = 2 ∧ 4 ≤ b ∧ b ≤ 13) ∨ a = 5 ∨ a = 12 ∨ (a = 23 ∧ b = 4) ∨ (24 ≤ a ∧ a ≤ 27) ∨ (114 ≤ a ∧ a ≤ 139)
abbrev q_X10_days (h : zM) (p1 : Int) : Option zV → zM → Prop := zqi fun v h' => ((-2147483648) ≤ v ∧ v ≤ 2147483647) ∧ okC h' ∧ zfC w_X10_days h h' ∧ (zJP h → zJP h')
set_option maxRecDepth 100000 in
set_option maxHeartbeats 4000000 in
theorem s_X10_days (l : Launch) (h : zM) (p1 : Int) (s0 : okC h) (b_p1 : (-2147483648) ≤ p1 ∧ p1 ≤ 2147483647) : zT shC l yX10_days cX10_days 4 (some .int) (rmL 8) 0 0 [.inr 0, .inl p1] h (q_X10_days h p1) := by
  refine zT_of (by decide +kernel) (L0 := [some (.inr 0), some (.inl p1), none, none]) rfl (Nat.le_of_ble_eq_true rfl) ?_
  refine zj_iload_n (zdk ttX10_days 0 rfl rfl) rfl ?_
  refine zj_iconst (zdk ttX10_days 1 rfl rfl) ?_
  refine zj_bipush (zdk ttX10_days 2 rfl rfl) (by decide) ?_
  refine zj_callS (av := [.inl p1, .inl 1, .inl 60]) (st := []) (zdk ttX10_days 3 rfl rfl) mb_X10_within ms_RX10_77 rfl rfl (Nat.le_of_ble_eq_true rfl) (s_X10_within l h p1 1 60 s0 (by omega) (by omega) (by omega)) (rm_ok (by decide) (by decide)) (zq_i fun v2 h3 q1 => ?_)
  obtain ⟨rfl, ⟨rfl, b4⟩ | ⟨rfl, b4⟩⟩ := q1
  · refine zj_if_eq (t := 28) (zdk ttX10_days 4 rfl rfl) (by decide) (by decide) (fun c5 => ?_) (fun c5 => ?_)
    · refine zj_iconst (zdk ttX10_days 13 rfl rfl) ?_
      exact zj_iret rfl (zdk ttX10_days 14 rfl rfl) (Nat.le_refl _) (Nat.le_refl _) ⟨(-1), rfl, by omega, s0, (zfC_r _ _), (fun j => j)⟩
    · exact absurd c5 (by omega)
  · refine zj_if_eq (t := 28) (zdk ttX10_days 4 rfl rfl) (by decide) (by decide) (fun c6 => ?_) (fun c6 => ?_)
    · exact absurd c6 (by omega)
    · refine zj_aload_n (zdk ttX10_days 5 rfl rfl) rfl (by decide) ?_
      refine zj_getr (r := 1) (zdk ttX10_days 6 rfl rfl) zf_RX10_10 rfl (k_L0 s0) (rf_L0_0 s0) ?_
      refine zj_getr (r := 2) (zdk ttX10_days 7 rfl rfl) zf_RX10_67 rfl (k_9_0 s0 zWd_1) (rf_9_0_0 s0 zWd_1) ?_
      have b7 : -2147483648 ≤ (h.2 2 12) ∧ (h.2 2 12) ≤ 2147483647 := fb_1_0_12 s0 zIs_2
      refine zj_geti (v := (h.2 2 12)) (zdk ttX10_days 8 rfl rfl) zf_RX10_127 rfl (k_1_0 s0 zIs_2) rfl ?_
      refine zj_iload_n (zdk ttX10_days 9 rfl rfl) rfl ?_
      refine zj_iadd (zdk ttX10_days 10 rfl rfl) ?_
      refine zj_wrap ?_
      have b8 := zwp_in ((h.2 2 12) + p1)
      refine zj_sipush (zdk ttX10_days 11 rfl rfl) (by decide) ?_
      refine zj_icmp_le (t := 30) (zdk ttX10_days 12 rfl rfl) (by decide) (by omega) (by decide) (fun c9 => ?_) (fun c9 => ?_)
      · refine zj_aload_n (zdk ttX10_days 15 rfl rfl) rfl (by decide) ?_
        refine zj_getr (r := 1) (zdk ttX10_days 16 rfl rfl) zf_RX10_10 rfl (k_L0 s0) (rf_L0_0 s0) ?_
        refine zj_getr (r := 2) (zdk ttX10_days 17 rfl rfl) zf_RX10_67 rfl (k_9_0 s0 zWd_1) (rf_9_0_0 s0 zWd_1) ?_
        have b10 : -2147483648 ≤ (h.2 2 8) ∧ (h.2 2 8) ≤ 2147483647 := fb_1_0_8 s0 zIs_2
        refine zj_geti (v := (h.2 2 8)) (zdk ttX10_days 18 rfl rfl) zf_RX10_130 rfl (k_1_0 s0 zIs_2) rfl ?_
        refine zj_istore_n (L' := [some (.inr 0), some (.inl p1), some (.inl (h.2 2 8)), none]) (zdk ttX10_days 19 rfl rfl) (by decide) rfl ?_
        refine zj_iconst (zdk ttX10_days 20 rfl rfl) ?_
        refine zj_istore_n (L' := [some (.inr 0), some (.inl p1), some (.inl (h.2 2 8)), some (.inl 0)]) (zdk ttX10_days 21 rfl rfl) (by decide) rfl ?_
        have lp85 : ∀ (n : Nat) (x11 : Int) (h12 : zM), (0 ≤ x11 ∧ x11 ≤ 60) → okC h12 → zfC w_X10_days h h12 → (zJP h → zJP h12) → (61 - x11).toNat < n → zJ shC l yX10_days cX10_days 4 (some .int) (rmL 8) 0 0 (q_X10_days h p1) 0 0 43 [some (.inr 0), some (.inl p1), some (.inl (h.2 2 8)), some (.inl x11)] [] h12 := by
          intro n
          induction n with
          | zero => intro x11 h12 b86 s13 f14 u87 m88; exact absurd m88 (Nat.not_lt_zero _)
          | succ n ih89 =>
            intro x11 h12 b86 s13 f14 u87 m88
            refine zj_iload_n (zdk ttX10_days 22 rfl rfl) rfl ?_
            refine zj_iload_n (zdk ttX10_days 23 rfl rfl) rfl ?_
            refine zj_icmp_ge (t := 66) (zdk ttX10_days 24 rfl rfl) (by decide) (by omega) (by omega) (fun c90 => ?_) (fun c90 => ?_)
            · refine zj_aload_n (zdk ttX10_days 33 rfl rfl) rfl (by decide) ?_
              refine zj_getr (r := 1) (zdk ttX10_days 34 rfl rfl) zf_RX10_10 rfl (k_L0 s13) (rf_L0_0 s13) ?_
              refine zj_getr (r := 2) (zdk ttX10_days 35 rfl rfl) zf_RX10_67 rfl (k_9_0 s13 zWd_1) (rf_9_0_0 s13 zWd_1) ?_
              have b91 : -2147483648 ≤ (h12.2 2 8) ∧ (h12.2 2 8) ≤ 2147483647 := fb_1_0_8 s13 zIs_2
              refine zj_geti (v := (h12.2 2 8)) (zdk ttX10_days 36 rfl rfl) zf_RX10_130 rfl (k_1_0 s13 zIs_2) rfl ?_
              refine zj_iload_n (zdk ttX10_days 37 rfl rfl) rfl ?_
              refine zj_isub (zdk ttX10_days 38 rfl rfl) ?_
              refine zj_wrap ?_
              have b92 := zwp_in ((h12.2 2 8) - (h.2 2 8))
              exact zj_iret rfl (zdk ttX10_days 39 rfl rfl) (Nat.le_refl _) (Nat.le_refl _) ⟨(zwp ((h12.2 2 8) - (h.2 2 8))), rfl, by omega, s13, f14, u87⟩
            · refine zj_aload_n (zdk ttX10_days 25 rfl rfl) rfl (by decide) ?_
              refine zj_callV (av := []) (st := []) (zdk ttX10_days 26 rfl rfl) mb_X10_remember mv_RX10_114 (ci := 10) rfl rfl (k_L0 s13) rfl rfl (Nat.le_of_ble_eq_true rfl) (s_X10_remember l h12 s13) (rm_ok (by decide) (by decide)) (zq_v fun h95 q93 => ?_)
              obtain ⟨s97, f99, u98⟩ := q93
              refine zj_aload_n (zdk ttX10_days 27 rfl rfl) rfl (by decide) ?_
              refine zj_getr (r := 1) (zdk ttX10_days 28 rfl rfl) zf_RX10_10 rfl (k_L0 s97) (rf_L0_0 s97) ?_
              refine zj_iconst (zdk ttX10_days 29 rfl rfl) ?_
              refine zj_callV (av := [.inl 0]) (st := []) (zdk ttX10_days 30 rfl rfl) mb_X9_passDay mv_RX10_133 (ci := 9) rfl rfl (k_9_0 s97 zWd_1) rfl rfl (Nat.le_of_ble_eq_true rfl) (s_X9_passDay l h95 1 0 s97 zWd_1 (by omega)) (rm_ok (by decide) (by decide)) (zq_v fun h102 q100 => ?_)
              obtain ⟨s104, f105⟩ := q100
              refine zj_iinc (L' := [some (.inr 0), some (.inl p1), some (.inl (h.2 2 8)), some (.inl (x11 + 1))]) (zdk ttX10_days 31 rfl rfl) rfl (by decide) rfl ?_
              refine zj_goto (t := 43) (zdk ttX10_days 32 rfl rfl) (by decide) ?_
              have f107 : zfC w_X10_days h h95 := zfC_t f14 f99 (fun a9 b9 z9 => by
                rcases z9 with z9 | z9
                · exact (Or.inl z9)
                · exact (Or.inr (Or.inr (Or.inr (Or.inr (Or.inr (Or.inr z9)))))))
              have f106 : zfC w_X10_days h h102 := zfC_t f107 f105 (fun a9 b9 z9 => by
                rcases z9 with z9 | z9 | z9 | z9 | z9
                · exact (Or.inr (Or.inl z9))
                · exact (Or.inr (Or.inr (Or.inl z9)))
                · exact (Or.inr (Or.inr (Or.inr (Or.inl z9))))
                · exact (Or.inr (Or.inr (Or.inr (Or.inr (Or.inl z9)))))
                · exact (Or.inr (Or.inr (Or.inr (Or.inr (Or.inr (Or.inl z9)))))))
              exact ih89  (x11 + 1) h102 (by omega) s104 f106 (fun j => zJP_g s97 (zfC_a f105 (fun z9 => by unfold w_X9_passDay at z9; first | (revert z9; decide) | omega)) (zfC_a f105 (fun z9 => by unfold w_X9_passDay at z9; first | (revert z9; decide) | omega)) (fun a b z1 z2 => (zfC_a f105 (fun z9 => by unfold w_X9_passDay at z9; first | (revert z9; decide) | omega))) (u98 (u87 j))) (by omega)
        exact lp85 _ 0 h (by omega) s0 (zfC_r _ _) (fun j => j) (Nat.lt_succ_self _)
      · refine zj_iconst (zdk ttX10_days 13 rfl rfl) ?_
        exact zj_iret rfl (zdk ttX10_days 14 rfl rfl) (Nat.le_refl _) (Nat.le_refl _) ⟨(-1), rfl, by omega, s0, (zfC_r _ _), (fun j => j)⟩

abbrev tX10_feed : List (Nat × Instr × Nat) := [(0, .aload_n 0, 1), (1, .getfield 25, 3), (4, .getfield 137, 3), (7, .sipush 380, 3), (10, .if_icmp .le 5, 3), (13, .iconst (-1), 1), (14, .ireturn, 1), (15, .aload_n 0, 1), (16, .getfield 25, 3), (19, .iload_n 1, 1), (20, .invokevirtual 140, 3), (23, .aload_n 0, 1), (24, .getfield 25, 3), (27, .iload_n 2, 1), (28, .invokevirtual 140, 3), (31, .aload_n 0, 1), (32, .getfield 25, 3), (35, .iload_n 3, 1), (36, .invokevirtual 140, 3), (39, .aload_n 0, 1), (40, .getfield 25, 3), (43, .iload 4, 2), (45, .invokevirtual 140, 3), (48, .aload_n 0, 1), (49, .getfield 25, 3), (52, .iload 5, 2), (54, .invokevirtual 140, 3), (57, .aload_n 0, 1), (58, .getfield 25, 3), (61, .getfield 137, 3), (64, .ireturn, 1)]
theorem ttX10_feed : zdt cX10_feed tX10_feed = true := by decide +kernel
abbrev w_X10_feed (a b : Int) : Prop := (a = 103 ∧ b = 3) ∨ a = 104
abbrev q_X10_feed (h : zM) (p1 : Int) (p2 : Int) (p3 : Int) (p4 : Int) (p5 : Int) : Option zV → zM → Prop := zqi fun v h' => ((-2147483648) ≤ v ∧ v ≤ 2147483647) ∧ okC h' ∧ zfC w_X10_feed h h' ∧ (zfd (h.2 103 3) v (h'.2 103 3))
set_option maxRecDepth 100000 in
set_option maxHeartbeats 4000000 in
theorem s_X10_feed (l : Launch) (h : zM) (p1 : Int) (p2 : Int) (p3 : Int) (p4 : Int) (p5 : Int) (s0 : okC h) (b_p1 : (-2147483648) ≤ p1 ∧ p1 ≤ 2147483647) (b_p2 : (-2147483648) ≤ p2 ∧ p2 ≤ 2147483647) (b_p3 : (-2147483648) ≤ p3 ∧ p3 ≤ 2147483647) (b_p4 : (-2147483648) ≤ p4 ∧ p4 ≤ 2147483647) (b_p5 : (-2147483648) ≤ p5 ∧ p5 ≤ 2147483647) : zT shC l yX10_feed cX10_feed 6 (some .int) (rmL 2) 0 0 [.inr 0, .inl p1, .inl p2, .inl p3, .inl p4, .inl p5] h (q_X10_feed h p1 p2 p3 p4 p5) := by
  refine zT_of (by decide +kernel) (L0 := [some (.inr 0), some (.inl p1), some (.inl p2), some (.inl p3), some (.inl p4), some (.inl p5)]) rfl (Nat.le_of_ble_eq_true rfl) ?_
  refine zj_aload_n (zdk ttX10_feed 0 rfl rfl) rfl (by decide) ?_
  refine zj_getr (r := 103) (zdk ttX10_feed 1 rfl rfl) zf_RX10_25 rfl (k_L0 s0) (rf_L0_3 s0) ?_
  have b1 : 0 ≤ (h.2 103 3) ∧ (h.2 103 3) ≤ 400 := fb_L103_3 s0
  refine zj_geti (v := (h.2 103 3)) (zdk ttX10_feed 2 rfl rfl) zf_RX10_137 rfl (k_L103 s0) rfl ?_
  refine zj_sipush (zdk ttX10_feed 3 rfl rfl) (by decide) ?_
  refine zj_icmp_le (t := 15) (zdk ttX10_feed 4 rfl rfl) (by decide) (by omega) (by decide) (fun c2 => ?_) (fun c2 => ?_)
  · refine zj_aload_n (zdk ttX10_feed 7 rfl rfl) rfl (by decide) ?_
    refine zj_getr (r := 103) (zdk ttX10_feed 8 rfl rfl) zf_RX10_25 rfl (k_L0 s0) (rf_L0_3 s0) ?_
    refine zj_iload_n (zdk ttX10_feed 9 rfl rfl) rfl ?_
    refine zj_callV (av := [.inl p1]) (st := []) (zdk ttX10_feed 10 rfl rfl) mb_X6_putFour mv_RX10_140 (ci := 6) rfl rfl (k_L103 s0) rfl rfl (Nat.le_of_ble_eq_true rfl) (s_X6_putFour l h p1 s0 (by omega)) (rm_ok (by decide) (by decide)) (zq_v fun h5 q3 => ?_)
    obtain ⟨s7, f9, u8⟩ := q3
    refine zj_aload_n (zdk ttX10_feed 11 rfl rfl) rfl (by decide) ?_
    refine zj_getr (r := 103) (zdk ttX10_feed 12 rfl rfl) zf_RX10_25 rfl (k_L0 s7) (rf_L0_3 s7) ?_
    refine zj_iload_n (zdk ttX10_feed 13 rfl rfl) rfl ?_
    refine zj_callV (av := [.inl p2]) (st := []) (zdk ttX10_feed 14 rfl rfl) mb_X6_putFour mv_RX10_140 (ci := 6) rfl rfl (k_L103 s7) rfl rfl (Nat.le_of_ble_eq_true rfl) (s_X6_putFour l h5 p2 s7 (by omega)) (rm_ok (by decide) (by decide)) (zq_v fun h12 q10 => ?_)
    obtain ⟨s14, f16, u15⟩ := q10
    refine zj_aload_n (zdk ttX10_feed 15 rfl rfl) rfl (by decide) ?_
    refine zj_getr (r := 103) (zdk ttX10_feed 16 rfl rfl) zf_RX10_25 rfl (k_L0 s14) (rf_L0_3 s14) ?_
    refine zj_iload_n (zdk ttX10_feed 17 rfl rfl) rfl ?_
    refine zj_callV (av := [.inl p3]) (st := []) (zdk ttX10_feed 18 rfl rfl) mb_X6_putFour mv_RX10_140 (ci := 6) rfl rfl (k_L103 s14) rfl rfl (Nat.le_of_ble_eq_true rfl) (s_X6_putFour l h12 p3 s14 (by omega)) (rm_ok (by decide) (by decide)) (zq_v fun h19 q17 => ?_)
    obtain ⟨s21, f23, u22⟩ := q17
    refine zj_aload_n (zdk ttX10_feed 19 rfl rfl) rfl (by decide) ?_
    refine zj_getr (r := 103) (zdk ttX10_feed 20 rfl rfl) zf_RX10_25 rfl (k_L0 s21) (rf_L0_3 s21) ?_
    refine zj_iload (zdk ttX10_feed 21 rfl rfl) rfl ?_
    refine zj_callV (av := [.inl p4]) (st := []) (zdk ttX10_feed 22 rfl rfl) mb_X6_putFour mv_RX10_140 (ci := 6) rfl rfl (k_L103 s21) rfl rfl (Nat.le_of_ble_eq_true rfl) (s_X6_putFour l h19 p4 s21 (by omega)) (rm_ok (by decide) (by decide)) (zq_v fun h26 q24 => ?_)
    obtain ⟨s28, f30, u29⟩ := q24
    refine zj_aload_n (zdk ttX10_feed 23 rfl rfl) rfl (by decide) ?_
    refine zj_getr (r := 103) (zdk ttX10_feed 24 rfl rfl) zf_RX10_25 rfl (k_L0 s28) (rf_L0_3 s28) ?_
    refine zj_iload (zdk ttX10_feed 25 rfl rfl) rfl ?_
    refine zj_callV (av := [.inl p5]) (st := []) (zdk ttX10_feed 26 rfl rfl) mb_X6_putFour mv_RX10_140 (ci := 6) rfl rfl (k_L103 s28) rfl rfl (Nat.le_of_ble_eq_true rfl) (s_X6_putFour l h26 p5 s28 (by omega)) (rm_ok (by decide) (by decide)) (zq_v fun h33 q31 => ?_)
    obtain ⟨s35, f37, u36⟩ := q31
    refine zj_aload_n (zdk ttX10_feed 27 rfl rfl) rfl (by decide) ?_
    refine zj_getr (r := 103) (zdk ttX10_feed 28 rfl rfl) zf_RX10_25 rfl (k_L0 s35) (rf_L0_3 s35) ?_
    have b38 : 0 ≤ (h33.2 103 3) ∧ (h33.2 103 3) ≤ 400 := fb_L103_3 s35
    refine zj_geti (v := (h33.2 103 3)) (zdk ttX10_feed 29 rfl rfl) zf_RX10_137 rfl (k_L103 s35) rfl ?_
    have f43 : zfC w_X10_feed h h5 := zfC_t (zfC_r _ _) f9 (fun a9 b9 z9 => by
      rcases z9 with z9 | z9
      · exact (Or.inl z9)
      · exact (Or.inr z9))
    have f42 : zfC w_X10_feed h h12 := zfC_t f43 f16 (fun a9 b9 z9 => by
      rcases z9 with z9 | z9
      · exact (Or.inl z9)
      · exact (Or.inr z9))
    have f41 : zfC w_X10_feed h h19 := zfC_t f42 f23 (fun a9 b9 z9 => by
      rcases z9 with z9 | z9
      · exact (Or.inl z9)
      · exact (Or.inr z9))
    have f40 : zfC w_X10_feed h h26 := zfC_t f41 f30 (fun a9 b9 z9 => by
      rcases z9 with z9 | z9
      · exact (Or.inl z9)
      · exact (Or.inr z9))
    have f39 : zfC w_X10_feed h h33 := zfC_t f40 f37 (fun a9 b9 z9 => by
      rcases z9 with z9 | z9
      · exact (Or.inl z9)
      · exact (Or.inr z9))
    exact zj_iret rfl (zdk ttX10_feed 30 rfl rfl) (Nat.le_refl _) (Nat.le_refl _) ⟨(h33.2 103 3), rfl, by omega, s35, f39, by unfold zfd; omega⟩
  · refine zj_iconst (zdk ttX10_feed 5 rfl rfl) ?_
    exact zj_iret rfl (zdk ttX10_feed 6 rfl rfl) (Nat.le_refl _) (Nat.le_refl _) ⟨(-1), rfl, by omega, s0, (zfC_r _ _), by unfold zfd; omega⟩

abbrev tX10_end : List (Nat × Instr × Nat) := [(0, .iload_n 1, 1), (1, .iconst 0, 1), (2, .aload_n 0, 1), (3, .getfield 25, 3), (6, .getfield 137, 3), (9, .invokestatic 77, 3), (12, .ifCond .ne 5, 3), (15, .iconst 0, 1), (16, .ireturn, 1), (17, .aload_n 0, 1), (18, .getfield 25, 3), (21, .iload_n 1, 1), (22, .putfield 137, 3), (25, .iconst 1, 1), (26, .ireturn, 1)]
theorem ttX10_end : zdt cX10_end tX10_end = true := by decide +kernel
abbrev w_X10_end (a b : Int) : Prop := (a = 103 ∧ b = 3)
abbrev q_X10_end (h : zM) (p1 : Int) : Option zV → zM → Prop := zqi fun v h' => (0 ≤ v ∧ v ≤ 1) ∧ okC h' ∧ zfC w_X10_end h h' ∧ (zen p1 (h.2 103 3) v (h'.2 103 3))
set_option maxRecDepth 100000 in
set_option maxHeartbeats 4000000 in
theorem s_X10_end (l : Launch) (h : zM) (p1 : Int) (s0 : okC h) (b_p1 : (-2147483648) ≤ p1 ∧ p1 ≤ 2147483647) : zT shC l yX10_end cX10_end 2 (some .boolean) (rmL 2) 0 0 [.inr 0, .inl p1] h (q_X10_end h p1) := by
  refine zT_of (by decide +kernel) (L0 := [some (.inr 0), some (.inl p1)]) rfl (Nat.le_of_ble_eq_true rfl) ?_
  refine zj_iload_n (zdk ttX10_end 0 rfl rfl) rfl ?_
  refine zj_iconst (zdk ttX10_end 1 rfl rfl) ?_
  refine zj_aload_n (zdk ttX10_end 2 rfl rfl) rfl (by decide) ?_
  refine zj_getr (r := 103) (zdk ttX10_end 3 rfl rfl) zf_RX10_25 rfl (k_L0 s0) (rf_L0_3 s0) ?_
  have b1 : 0 ≤ (h.2 103 3) ∧ (h.2 103 3) ≤ 400 := fb_L103_3 s0
  refine zj_geti (v := (h.2 103 3)) (zdk ttX10_end 4 rfl rfl) zf_RX10_137 rfl (k_L103 s0) rfl ?_
  refine zj_callS (av := [.inl p1, .inl 0, .inl (h.2 103 3)]) (st := []) (zdk ttX10_end 5 rfl rfl) mb_X10_within ms_RX10_77 rfl rfl (Nat.le_of_ble_eq_true rfl) (s_X10_within l h p1 0 (h.2 103 3) s0 (by omega) (by omega) (by omega)) (rm_ok (by decide) (by decide)) (zq_i fun v3 h4 q2 => ?_)
  obtain ⟨rfl, ⟨rfl, b5⟩ | ⟨rfl, b5⟩⟩ := q2
  · refine zj_if_ne (t := 17) (zdk ttX10_end 6 rfl rfl) (by decide) (by decide) (fun c6 => ?_) (fun c6 => ?_)
    · exact absurd c6 (by omega)
    · refine zj_iconst (zdk ttX10_end 7 rfl rfl) ?_
      exact zj_zret rfl (zdk ttX10_end 8 rfl rfl) (Nat.le_refl _) (Nat.le_refl _) (by omega) ⟨0, rfl, by omega, s0, (zfC_r _ _), by unfold zen; omega⟩
  · refine zj_if_ne (t := 17) (zdk ttX10_end 6 rfl rfl) (by decide) (by decide) (fun c7 => ?_) (fun c7 => ?_)
    · refine zj_aload_n (zdk ttX10_end 9 rfl rfl) rfl (by decide) ?_
      refine zj_getr (r := 103) (zdk ttX10_end 10 rfl rfl) zf_RX10_25 rfl (k_L0 s0) (rf_L0_3 s0) ?_
      refine zj_iload_n (zdk ttX10_end 11 rfl rfl) rfl ?_
      refine zj_puti (zdk ttX10_end 12 rfl rfl) zf_RX10_137 rfl (k_L103 s0) (Or.inl zw_RX10_137) (k2 := 3) rfl (fun h8 e9 => ?_)
      refine zj_iconst (zdk ttX10_end 13 rfl rfl) ?_
      have s10 : okC h8 := fw_L103_3 s0 e9 (by omega)
      have f11 : zfC w_X10_end h h8 := zfC_w (zfC_r _ _) e9 (by omega)
      have b12 : h8.2 103 3 = p1 := (zwr_v e9)
      exact zj_zret rfl (zdk ttX10_end 14 rfl rfl) (Nat.le_refl _) (Nat.le_refl _) (by omega) ⟨1, rfl, by omega, s10, f11, by unfold zen; omega⟩
    · exact absurd c7 (by omega)

abbrev tX10_fault : List (Nat × Instr × Nat) := [(0, .iload_n 1, 1), (1, .lookupswitch 43 #[(0, 27), (1, 35)], 27), (28, .aload_n 0, 1), (29, .getfield 25, 3), (32, .getfield 198, 3), (35, .ireturn, 1), (36, .aload_n 0, 1), (37, .getfield 25, 3), (40, .getfield 201, 3), (43, .ireturn, 1), (44, .iconst (-1), 1), (45, .ireturn, 1)]
theorem ttX10_fault : zdt cX10_fault tX10_fault = true := by decide +kernel
abbrev w_X10_fault (a b : Int) : Prop := False
abbrev q_X10_fault (h : zM) (p1 : Int) : Option zV → zM → Prop := zqi fun v h' => ((-2147483648) ≤ v ∧ v ≤ 2147483647) ∧ okC h' ∧ zfC w_X10_fault h h'
set_option maxRecDepth 100000 in
set_option maxHeartbeats 4000000 in
theorem s_X10_fault (l : Launch) (h : zM) (p1 : Int) (s0 : okC h) (b_p1 : (-2147483648) ≤ p1 ∧ p1 ≤ 2147483647) : zT shC l yX10_fault cX10_fault 2 (some .int) (rmL 1) 0 0 [.inr 0, .inl p1] h (q_X10_fault h p1) := by
  refine zT_of (by decide +kernel) (L0 := [some (.inr 0), some (.inl p1)]) rfl (Nat.le_of_ble_eq_true rfl) ?_
  refine zj_iload_n (zdk ttX10_fault 0 rfl rfl) rfl ?_
  have k2 : (¬ p1 = 0 ∧ ¬ p1 = 1) → zJ shC l yX10_fault cX10_fault 2 (some .int) (rmL 1) 0 0 (q_X10_fault h p1) 0 0 44 [some (.inr 0), some (.inl p1)] [] h := by
    intro c1
    refine zj_iconst (zdk ttX10_fault 10 rfl rfl) ?_
    exact zj_iret rfl (zdk ttX10_fault 11 rfl rfl) (Nat.le_refl _) (Nat.le_refl _) ⟨(-1), rfl, by omega, s0, (zfC_r _ _)⟩
  have k3 : p1 = 0 → zJ shC l yX10_fault cX10_fault 2 (some .int) (rmL 1) 0 0 (q_X10_fault h p1) 0 0 28 [some (.inr 0), some (.inl p1)] [] h := by
    intro c1
    refine zj_aload_n (zdk ttX10_fault 2 rfl rfl) rfl (by decide) ?_
    refine zj_getr (r := 103) (zdk ttX10_fault 3 rfl rfl) zf_RX10_25 rfl (k_L0 s0) (rf_L0_3 s0) ?_
    have b4 : -2147483648 ≤ (h.2 103 7) ∧ (h.2 103 7) ≤ 2147483647 := fb_L103_7 s0
    refine zj_geti (v := (h.2 103 7)) (zdk ttX10_fault 4 rfl rfl) zf_RX10_198 rfl (k_L103 s0) rfl ?_
    exact zj_iret rfl (zdk ttX10_fault 5 rfl rfl) (Nat.le_refl _) (Nat.le_refl _) ⟨(h.2 103 7), rfl, by omega, s0, (zfC_r _ _)⟩
  have k5 : p1 = 1 → zJ shC l yX10_fault cX10_fault 2 (some .int) (rmL 1) 0 0 (q_X10_fault h p1) 0 0 36 [some (.inr 0), some (.inl p1)] [] h := by
    intro c1
    refine zj_aload_n (zdk ttX10_fault 6 rfl rfl) rfl (by decide) ?_
    refine zj_getr (r := 103) (zdk ttX10_fault 7 rfl rfl) zf_RX10_25 rfl (k_L0 s0) (rf_L0_3 s0) ?_
    have b6 : -2147483648 ≤ (h.2 103 8) ∧ (h.2 103 8) ≤ 2147483647 := fb_L103_8 s0
    refine zj_geti (v := (h.2 103 8)) (zdk ttX10_fault 8 rfl rfl) zf_RX10_201 rfl (k_L103 s0) rfl ?_
    exact zj_iret rfl (zdk ttX10_fault 9 rfl rfl) (Nat.le_refl _) (Nat.le_refl _) ⟨(h.2 103 8), rfl, by omega, s0, (zfC_r _ _)⟩
  by_cases z7 : p1 = 0
  · exact zj_lookup (t := 28) (zdk ttX10_fault 1 rfl rfl) (by omega) rfl (by rw [z7] <;> rfl) (by decide) (k3 z7)
  by_cases z8 : p1 = 1
  · exact zj_lookup (t := 36) (zdk ttX10_fault 1 rfl rfl) (by omega) rfl (by rw [z8] <;> rfl) (by decide) (k5 z8)
  exact zj_lookup (t := 44) (zdk ttX10_fault 1 rfl rfl) (by omega) rfl (by show Op.lookupswitch.offset [(0, 27), (1, 35)] 43 p1 = _; rw [Op.lookupswitch.offset_cons, if_neg (by omega), Op.lookupswitch.offset_cons, if_neg (by omega), Op.lookupswitch.offset_nil]) (by decide) (k2 (by omega))

abbrev tX10_of : List (Nat × Instr × Nat) := [(0, .aload_n 0, 1), (1, .getfield 10, 3), (4, .getfield 67, 3), (7, .astore_n 3, 1), (8, .aload_n 3, 1), (9, .iload_n 1, 1), (10, .invokevirtual 106, 3), (13, .ifCond .ne 5, 3), (16, .iconst (-1), 1), (17, .ireturn, 1), (18, .iload_n 2, 1), (19, .tableswitch 141 0 8 #[49, 56, 63, 77, 91, 98, 108, 118, 128], 49), (68, .aload_n 3, 1), (69, .getfield 91, 3), (72, .iload_n 1, 1), (73, .iaload, 1), (74, .ireturn, 1), (75, .aload_n 3, 1), (76, .getfield 94, 3), (79, .iload_n 1, 1), (80, .iaload, 1), (81, .ireturn, 1), (82, .aload_n 3, 1), (83, .iload_n 1, 1), (84, .invokevirtual 204, 3), (87, .ifCond .eq 7, 3), (90, .iconst 1, 1), (91, .goto 4, 3), (94, .iconst 0, 1), (95, .ireturn, 1), (96, .aload_n 3, 1), (97, .iload_n 1, 1), (98, .invokevirtual 207, 3), (101, .ifCond .eq 7, 3), (104, .iconst 1, 1), (105, .goto 4, 3), (108, .iconst 0, 1), (109, .ireturn, 1), (110, .aload_n 3, 1), (111, .getfield 210, 3), (114, .iload_n 1, 1), (115, .iaload, 1), (116, .ireturn, 1), (117, .aload_n 0, 1), (118, .getfield 10, 3), (121, .iconst 0, 1), (122, .iload_n 1, 1), (123, .invokevirtual 213, 3), (126, .ireturn, 1), (127, .aload_n 0, 1), (128, .getfield 10, 3), (131, .iconst 1, 1), (132, .iload_n 1, 1), (133, .invokevirtual 213, 3), (136, .ireturn, 1), (137, .aload_n 0, 1), (138, .getfield 10, 3), (141, .iconst 2, 1), (142, .iload_n 1, 1), (143, .invokevirtual 213, 3), (146, .ireturn, 1), (147, .aload_n 0, 1), (148, .getfield 10, 3), (151, .getfield 184, 3), (154, .getfield 216, 3), (157, .iload_n 1, 1), (158, .iaload, 1), (159, .ireturn, 1), (160, .iconst (-1), 1), (161, .ireturn, 1)]
theorem ttX10_of : zdt cX10_of tX10_of = true := by decide +kernel
abbrev w_X10_of (a b : Int) : Prop := a = 12
abbrev q_X10_of (h : zM) (p1 : Int) (p2 : Int) : Option zV → zM → Prop := zqi fun v h' => ((-2147483648) ≤ v ∧ v ≤ 2147483647) ∧ okC h' ∧ zfC w_X10_of h h'
set_option maxRecDepth 100000 in
set_option maxHeartbeats 4000000 in
theorem s_X10_of (l : Launch) (h : zM) (p1 : Int) (p2 : Int) (s0 : okC h) (b_p1 : (-2147483648) ≤ p1 ∧ p1 ≤ 2147483647) (b_p2 : (-2147483648) ≤ p2 ∧ p2 ≤ 2147483647) : zT shC l yX10_of cX10_of 4 (some .int) (rmL 5) 0 0 [.inr 0, .inl p1, .inl p2] h (q_X10_of h p1 p2) := by
  refine zT_of (by decide +kernel) (L0 := [some (.inr 0), some (.inl p1), some (.inl p2), none]) rfl (Nat.le_of_ble_eq_true rfl) ?_
  refine zj_aload_n (zdk ttX10_of 0 rfl rfl) rfl (by decide) ?_
  refine zj_getr (r := 1) (zdk ttX10_of 1 rfl rfl) zf_RX10_10 rfl (k_L0 s0) (rf_L0_0 s0) ?_
  refine zj_getr (r := 2) (zdk ttX10_of 2 rfl rfl) zf_RX10_67 rfl (k_9_0 s0 zWd_1) (rf_9_0_0 s0 zWd_1) ?_
  refine zj_astore_n (L' := [some (.inr 0), some (.inl p1), some (.inl p2), some (.inr 2)]) (zdk ttX10_of 3 rfl rfl) (by decide) (by decide) rfl ?_
  refine zj_aload_n (zdk ttX10_of 4 rfl rfl) rfl (by decide) ?_
  refine zj_iload_n (zdk ttX10_of 5 rfl rfl) rfl ?_
  refine zj_callV (av := [.inl p1]) (st := []) (zdk ttX10_of 6 rfl rfl) mb_X1_knows mv_RX10_106 (ci := 1) rfl rfl (k_1_0 s0 zIs_2) rfl rfl (Nat.le_of_ble_eq_true rfl) (s_X1_knows l h 2 p1 s0 zIs_2 (by omega)) (rm_ok (by decide) (by decide)) (zq_i fun v2 h3 q1 => ?_)
  obtain ⟨rfl, b5, ⟨rfl, b4⟩ | ⟨rfl, b4⟩⟩ := q1
  · refine zj_if_ne (t := 18) (zdk ttX10_of 7 rfl rfl) (by decide) (by decide) (fun c6 => ?_) (fun c6 => ?_)
    · exact absurd c6 (by omega)
    · refine zj_iconst (zdk ttX10_of 8 rfl rfl) ?_
      exact zj_iret rfl (zdk ttX10_of 9 rfl rfl) (Nat.le_refl _) (Nat.le_refl _) ⟨(-1), rfl, by omega, s0, (zfC_r _ _)⟩
  · refine zj_if_ne (t := 18) (zdk ttX10_of 7 rfl rfl) (by decide) (by decide) (fun c7 => ?_) (fun c7 => ?_)
    · refine zj_iload_n (zdk ttX10_of 10 rfl rfl) rfl ?_
      have k9 : (p2 < 0 ∨ 8 < p2) → zJ shC l yX10_of cX10_of 4 (some .int) (rmL 5) 0 0 (q_X10_of h p1 p2) 0 0 160 [some (.inr 0), some (.inl p1), some (.inl p2), some (.inr 2)] [] h := by
        intro c8
        refine zj_iconst (zdk ttX10_of 68 rfl rfl) ?_
        exact zj_iret rfl (zdk ttX10_of 69 rfl rfl) (Nat.le_refl _) (Nat.le_refl _) ⟨(-1), rfl, by omega, s0, (zfC_r _ _)⟩
      have k10 : p2 = 0 → zJ shC l yX10_of cX10_of 4 (some .int) (rmL 5) 0 0 (q_X10_of h p1 p2) 0 0 68 [some (.inr 0), some (.inl p1), some (.inl p2), some (.inr 2)] [] h := by
        intro c8
        refine zj_aload_n (zdk ttX10_of 12 rfl rfl) rfl (by decide) ?_
        refine zj_getr (r := 3) (zdk ttX10_of 13 rfl rfl) zf_RX10_91 rfl (k_1_0 s0 zIs_2) (rf_1_0_0 s0 zIs_2) ?_
        refine zj_iload_n (zdk ttX10_of 14 rfl rfl) rfl ?_
        have b11 : -2147483648 ≤ (h.2 3 p1) ∧ (h.2 3 p1) ≤ 2147483647 := ab_1_0_0 s0 zIs_2 p1
        refine zj_iald (v := (h.2 3 p1)) (zdk ttX10_of 15 rfl rfl) (ka_1_0_0 s0 zIs_2) (by decide) (by omega) rfl ?_
        exact zj_iret rfl (zdk ttX10_of 16 rfl rfl) (Nat.le_refl _) (Nat.le_refl _) ⟨(h.2 3 p1), rfl, by omega, s0, (zfC_r _ _)⟩
      have k12 : p2 = 1 → zJ shC l yX10_of cX10_of 4 (some .int) (rmL 5) 0 0 (q_X10_of h p1 p2) 0 0 75 [some (.inr 0), some (.inl p1), some (.inl p2), some (.inr 2)] [] h := by
        intro c8
        refine zj_aload_n (zdk ttX10_of 17 rfl rfl) rfl (by decide) ?_
        refine zj_getr (r := 4) (zdk ttX10_of 18 rfl rfl) zf_RX10_94 rfl (k_1_0 s0 zIs_2) (rf_1_0_1 s0 zIs_2) ?_
        refine zj_iload_n (zdk ttX10_of 19 rfl rfl) rfl ?_
        have b13 : -2147483648 ≤ (h.2 4 p1) ∧ (h.2 4 p1) ≤ 2147483647 := ab_1_0_1 s0 zIs_2 p1
        refine zj_iald (v := (h.2 4 p1)) (zdk ttX10_of 20 rfl rfl) (ka_1_0_1 s0 zIs_2) (by decide) (by omega) rfl ?_
        exact zj_iret rfl (zdk ttX10_of 21 rfl rfl) (Nat.le_refl _) (Nat.le_refl _) ⟨(h.2 4 p1), rfl, by omega, s0, (zfC_r _ _)⟩
      have k14 : p2 = 2 → zJ shC l yX10_of cX10_of 4 (some .int) (rmL 5) 0 0 (q_X10_of h p1 p2) 0 0 82 [some (.inr 0), some (.inl p1), some (.inl p2), some (.inr 2)] [] h := by
        intro c8
        refine zj_aload_n (zdk ttX10_of 22 rfl rfl) rfl (by decide) ?_
        refine zj_iload_n (zdk ttX10_of 23 rfl rfl) rfl ?_
        refine zj_callV (av := [.inl p1]) (st := []) (zdk ttX10_of 24 rfl rfl) mb_X1_isHere mv_RX10_204 (ci := 1) rfl rfl (k_1_0 s0 zIs_2) rfl rfl (Nat.le_of_ble_eq_true rfl) (s_X1_isHere l h 2 p1 s0 zIs_2 (by omega)) (rm_ok (by decide) (by decide)) (zq_i fun v16 h17 q15 => ?_)
        obtain ⟨rfl, b19, ⟨rfl, b18⟩ | ⟨rfl, b18⟩⟩ := q15
        · refine zj_if_eq (t := 94) (zdk ttX10_of 25 rfl rfl) (by decide) (by decide) (fun c20 => ?_) (fun c20 => ?_)
          · refine zj_iconst (zdk ttX10_of 28 rfl rfl) ?_
            exact zj_iret rfl (zdk ttX10_of 29 rfl rfl) (Nat.le_refl _) (Nat.le_refl _) ⟨0, rfl, by omega, s0, (zfC_r _ _)⟩
          · exact absurd c20 (by omega)
        · refine zj_if_eq (t := 94) (zdk ttX10_of 25 rfl rfl) (by decide) (by decide) (fun c21 => ?_) (fun c21 => ?_)
          · exact absurd c21 (by omega)
          · refine zj_iconst (zdk ttX10_of 26 rfl rfl) ?_
            refine zj_goto (t := 95) (zdk ttX10_of 27 rfl rfl) (by decide) ?_
            exact zj_iret rfl (zdk ttX10_of 29 rfl rfl) (Nat.le_refl _) (Nat.le_refl _) ⟨1, rfl, by omega, s0, (zfC_r _ _)⟩
      have k22 : p2 = 3 → zJ shC l yX10_of cX10_of 4 (some .int) (rmL 5) 0 0 (q_X10_of h p1 p2) 0 0 96 [some (.inr 0), some (.inl p1), some (.inl p2), some (.inr 2)] [] h := by
        intro c8
        refine zj_aload_n (zdk ttX10_of 30 rfl rfl) rfl (by decide) ?_
        refine zj_iload_n (zdk ttX10_of 31 rfl rfl) rfl ?_
        refine zj_callV (av := [.inl p1]) (st := []) (zdk ttX10_of 32 rfl rfl) mb_X1_isBegged mv_RX10_207 (ci := 1) rfl rfl (k_1_0 s0 zIs_2) rfl rfl (Nat.le_of_ble_eq_true rfl) (s_X1_isBegged l h 2 p1 s0 zIs_2 (by omega)) (rm_ok (by decide) (by decide)) (zq_i fun v24 h25 q23 => ?_)
        obtain ⟨rfl, b27, ⟨rfl, b26⟩ | ⟨rfl, b26⟩⟩ := q23
        · refine zj_if_eq (t := 108) (zdk ttX10_of 33 rfl rfl) (by decide) (by decide) (fun c28 => ?_) (fun c28 => ?_)
          · refine zj_iconst (zdk ttX10_of 36 rfl rfl) ?_
            exact zj_iret rfl (zdk ttX10_of 37 rfl rfl) (Nat.le_refl _) (Nat.le_refl _) ⟨0, rfl, by omega, s0, (zfC_r _ _)⟩
          · exact absurd c28 (by omega)
        · refine zj_if_eq (t := 108) (zdk ttX10_of 33 rfl rfl) (by decide) (by decide) (fun c29 => ?_) (fun c29 => ?_)
          · exact absurd c29 (by omega)
          · refine zj_iconst (zdk ttX10_of 34 rfl rfl) ?_
            refine zj_goto (t := 109) (zdk ttX10_of 35 rfl rfl) (by decide) ?_
            exact zj_iret rfl (zdk ttX10_of 37 rfl rfl) (Nat.le_refl _) (Nat.le_refl _) ⟨1, rfl, by omega, s0, (zfC_r _ _)⟩
      have k30 : p2 = 4 → zJ shC l yX10_of cX10_of 4 (some .int) (rmL 5) 0 0 (q_X10_of h p1 p2) 0 0 110 [some (.inr 0), some (.inl p1), some (.inl p2), some (.inr 2)] [] h := by
        intro c8
        refine zj_aload_n (zdk ttX10_of 38 rfl rfl) rfl (by decide) ?_
        refine zj_getr (r := 5) (zdk ttX10_of 39 rfl rfl) zf_RX10_210 rfl (k_1_0 s0 zIs_2) (rf_1_0_2 s0 zIs_2) ?_
        refine zj_iload_n (zdk ttX10_of 40 rfl rfl) rfl ?_
        have b31 : -2147483648 ≤ (h.2 5 p1) ∧ (h.2 5 p1) ≤ 2147483647 := ab_1_0_2 s0 zIs_2 p1
        refine zj_iald (v := (h.2 5 p1)) (zdk ttX10_of 41 rfl rfl) (ka_1_0_2 s0 zIs_2) (by decide) (by omega) rfl ?_
        exact zj_iret rfl (zdk ttX10_of 42 rfl rfl) (Nat.le_refl _) (Nat.le_refl _) ⟨(h.2 5 p1), rfl, by omega, s0, (zfC_r _ _)⟩
      have k32 : p2 = 5 → zJ shC l yX10_of cX10_of 4 (some .int) (rmL 5) 0 0 (q_X10_of h p1 p2) 0 0 117 [some (.inr 0), some (.inl p1), some (.inl p2), some (.inr 2)] [] h := by
        intro c8
        refine zj_aload_n (zdk ttX10_of 43 rfl rfl) rfl (by decide) ?_
        refine zj_getr (r := 1) (zdk ttX10_of 44 rfl rfl) zf_RX10_10 rfl (k_L0 s0) (rf_L0_0 s0) ?_
        refine zj_iconst (zdk ttX10_of 45 rfl rfl) ?_
        refine zj_iload_n (zdk ttX10_of 46 rfl rfl) rfl ?_
        refine zj_callV (av := [.inl 0, .inl p1]) (st := []) (zdk ttX10_of 47 rfl rfl) mb_X9_tells mv_RX10_213 (ci := 9) rfl rfl (k_9_0 s0 zWd_1) rfl rfl (Nat.le_of_ble_eq_true rfl) (s_X9_tells l h 1 0 p1 s0 zWd_1 (by omega) (by omega)) (rm_ok (by decide) (by decide)) (zq_i fun v34 h35 q33 => ?_)
        obtain ⟨b36, s37, f38⟩ := q33
        have f39 : zfC w_X10_of h h35 := zfC_t (zfC_r _ _) f38 (fun a9 b9 z9 => by
          exact z9)
        exact zj_iret rfl (zdk ttX10_of 48 rfl rfl) (Nat.le_refl _) (Nat.le_refl _) ⟨v34, rfl, by omega, s37, f39⟩
      have k40 : p2 = 6 → zJ shC l yX10_of cX10_of 4 (some .int) (rmL 5) 0 0 (q_X10_of h p1 p2) 0 0 127 [some (.inr 0), some (.inl p1), some (.inl p2), some (.inr 2)] [] h := by
        intro c8
        refine zj_aload_n (zdk ttX10_of 49 rfl rfl) rfl (by decide) ?_
        refine zj_getr (r := 1) (zdk ttX10_of 50 rfl rfl) zf_RX10_10 rfl (k_L0 s0) (rf_L0_0 s0) ?_
        refine zj_iconst (zdk ttX10_of 51 rfl rfl) ?_
        refine zj_iload_n (zdk ttX10_of 52 rfl rfl) rfl ?_
        refine zj_callV (av := [.inl 1, .inl p1]) (st := []) (zdk ttX10_of 53 rfl rfl) mb_X9_tells mv_RX10_213 (ci := 9) rfl rfl (k_9_0 s0 zWd_1) rfl rfl (Nat.le_of_ble_eq_true rfl) (s_X9_tells l h 1 1 p1 s0 zWd_1 (by omega) (by omega)) (rm_ok (by decide) (by decide)) (zq_i fun v42 h43 q41 => ?_)
        obtain ⟨b44, s45, f46⟩ := q41
        have f47 : zfC w_X10_of h h43 := zfC_t (zfC_r _ _) f46 (fun a9 b9 z9 => by
          exact z9)
        exact zj_iret rfl (zdk ttX10_of 54 rfl rfl) (Nat.le_refl _) (Nat.le_refl _) ⟨v42, rfl, by omega, s45, f47⟩
      have k48 : p2 = 7 → zJ shC l yX10_of cX10_of 4 (some .int) (rmL 5) 0 0 (q_X10_of h p1 p2) 0 0 137 [some (.inr 0), some (.inl p1), some (.inl p2), some (.inr 2)] [] h := by
        intro c8
        refine zj_aload_n (zdk ttX10_of 55 rfl rfl) rfl (by decide) ?_
        refine zj_getr (r := 1) (zdk ttX10_of 56 rfl rfl) zf_RX10_10 rfl (k_L0 s0) (rf_L0_0 s0) ?_
        refine zj_iconst (zdk ttX10_of 57 rfl rfl) ?_
        refine zj_iload_n (zdk ttX10_of 58 rfl rfl) rfl ?_
        refine zj_callV (av := [.inl 2, .inl p1]) (st := []) (zdk ttX10_of 59 rfl rfl) mb_X9_tells mv_RX10_213 (ci := 9) rfl rfl (k_9_0 s0 zWd_1) rfl rfl (Nat.le_of_ble_eq_true rfl) (s_X9_tells l h 1 2 p1 s0 zWd_1 (by omega) (by omega)) (rm_ok (by decide) (by decide)) (zq_i fun v50 h51 q49 => ?_)
        obtain ⟨b52, s53, f54⟩ := q49
        have f55 : zfC w_X10_of h h51 := zfC_t (zfC_r _ _) f54 (fun a9 b9 z9 => by
          exact z9)
        exact zj_iret rfl (zdk ttX10_of 60 rfl rfl) (Nat.le_refl _) (Nat.le_refl _) ⟨v50, rfl, by omega, s53, f55⟩
      have k56 : p2 = 8 → zJ shC l yX10_of cX10_of 4 (some .int) (rmL 5) 0 0 (q_X10_of h p1 p2) 0 0 147 [some (.inr 0), some (.inl p1), some (.inl p2), some (.inr 2)] [] h := by
        intro c8
        refine zj_aload_n (zdk ttX10_of 61 rfl rfl) rfl (by decide) ?_
        refine zj_getr (r := 1) (zdk ttX10_of 62 rfl rfl) zf_RX10_10 rfl (k_L0 s0) (rf_L0_0 s0) ?_
        refine zj_getr (r := 21) (zdk ttX10_of 63 rfl rfl) zf_RX10_184 rfl (k_9_0 s0 zWd_1) (rf_9_0_4 s0 zWd_1) ?_
        refine zj_getr (r := 22) (zdk ttX10_of 64 rfl rfl) zf_RX10_216 rfl (k_2_0 s0 zKi_21) (rf_2_0_0 s0 zKi_21) ?_
        refine zj_iload_n (zdk ttX10_of 65 rfl rfl) rfl ?_
        have b57 : -2147483648 ≤ (h.2 22 p1) ∧ (h.2 22 p1) ≤ 2147483647 := ab_2_0_0 s0 zKi_21 p1
        refine zj_iald (v := (h.2 22 p1)) (zdk ttX10_of 66 rfl rfl) (ka_2_0_0 s0 zKi_21) (by decide) (by omega) rfl ?_
        exact zj_iret rfl (zdk ttX10_of 67 rfl rfl) (Nat.le_refl _) (Nat.le_refl _) ⟨(h.2 22 p1), rfl, by omega, s0, (zfC_r _ _)⟩
      refine zj_table (t := 160) (zdk ttX10_of 11 rfl rfl) (by omega) (by decide) k9 (fun z1 z2 => ?_)
      have z3 : p2 = 0 ∨ p2 = 1 ∨ p2 = 2 ∨ p2 = 3 ∨ p2 = 4 ∨ p2 = 5 ∨ p2 = 6 ∨ p2 = 7 ∨ p2 = 8 := by omega
      rcases z3 with z3 | z3 | z3 | z3 | z3 | z3 | z3 | z3 | z3
      · exact ⟨49, 68, by rw [z3] <;> rfl, by decide, k10 z3⟩
      · exact ⟨56, 75, by rw [z3] <;> rfl, by decide, k12 z3⟩
      · exact ⟨63, 82, by rw [z3] <;> rfl, by decide, k14 z3⟩
      · exact ⟨77, 96, by rw [z3] <;> rfl, by decide, k22 z3⟩
      · exact ⟨91, 110, by rw [z3] <;> rfl, by decide, k30 z3⟩
      · exact ⟨98, 117, by rw [z3] <;> rfl, by decide, k32 z3⟩
      · exact ⟨108, 127, by rw [z3] <;> rfl, by decide, k40 z3⟩
      · exact ⟨118, 137, by rw [z3] <;> rfl, by decide, k48 z3⟩
      · exact ⟨128, 147, by rw [z3] <;> rfl, by decide, k56 z3⟩
    · exact absurd c7 (by omega)

abbrev tX10_book : List (Nat × Instr × Nat) := [(0, .aload_n 0, 1), (1, .getfield 10, 3), (4, .getfield 219, 3), (7, .astore_n 3, 1), (8, .iload_n 1, 1), (9, .iconst 0, 1), (10, .aload_n 3, 1), (11, .getfield 223, 3), (14, .iconst 1, 1), (15, .isub, 1), (16, .invokestatic 77, 3), (19, .ifCond .ne 6, 3), (22, .bipush (-2), 2), (24, .ireturn, 1), (25, .iload_n 2, 1), (26, .tableswitch 58 0 3 #[30, 37, 44, 51], 30), (56, .aload_n 3, 1), (57, .getfield 226, 3), (60, .iload_n 1, 1), (61, .iaload, 1), (62, .ireturn, 1), (63, .aload_n 3, 1), (64, .getfield 228, 3), (67, .iload_n 1, 1), (68, .iaload, 1), (69, .ireturn, 1), (70, .aload_n 3, 1), (71, .getfield 231, 3), (74, .iload_n 1, 1), (75, .iaload, 1), (76, .ireturn, 1), (77, .aload_n 3, 1), (78, .getfield 234, 3), (81, .iload_n 1, 1), (82, .iaload, 1), (83, .ireturn, 1), (84, .bipush (-2), 2), (86, .ireturn, 1)]
theorem ttX10_book : zdt cX10_book tX10_book = true := by decide +kernel
abbrev w_X10_book (a b : Int) : Prop := False
abbrev q_X10_book (h : zM) (p1 : Int) (p2 : Int) : Option zV → zM → Prop := zqi fun v h' => ((-2147483648) ≤ v ∧ v ≤ 2147483647) ∧ okC h' ∧ zfC w_X10_book h h'
set_option maxRecDepth 100000 in
set_option maxHeartbeats 4000000 in
theorem s_X10_book (l : Launch) (h : zM) (p1 : Int) (p2 : Int) (s0 : okC h) (b_p1 : (-2147483648) ≤ p1 ∧ p1 ≤ 2147483647) (b_p2 : (-2147483648) ≤ p2 ∧ p2 ≤ 2147483647) : zT shC l yX10_book cX10_book 4 (some .int) (rmL 2) 0 0 [.inr 0, .inl p1, .inl p2] h (q_X10_book h p1 p2) := by
  refine zT_of (by decide +kernel) (L0 := [some (.inr 0), some (.inl p1), some (.inl p2), none]) rfl (Nat.le_of_ble_eq_true rfl) ?_
  refine zj_aload_n (zdk ttX10_book 0 rfl rfl) rfl (by decide) ?_
  refine zj_getr (r := 1) (zdk ttX10_book 1 rfl rfl) zf_RX10_10 rfl (k_L0 s0) (rf_L0_0 s0) ?_
  refine zj_getr (r := 23) (zdk ttX10_book 2 rfl rfl) zf_RX10_219 rfl (k_9_0 s0 zWd_1) (rf_9_0_5 s0 zWd_1) ?_
  refine zj_astore_n (L' := [some (.inr 0), some (.inl p1), some (.inl p2), some (.inr 23)]) (zdk ttX10_book 3 rfl rfl) (by decide) (by decide) rfl ?_
  refine zj_iload_n (zdk ttX10_book 4 rfl rfl) rfl ?_
  refine zj_iconst (zdk ttX10_book 5 rfl rfl) ?_
  refine zj_aload_n (zdk ttX10_book 6 rfl rfl) rfl (by decide) ?_
  have b1 : 0 ≤ (h.2 23 4) ∧ (h.2 23 4) ≤ 150 := fb_0_0_4 s0 zBo_23
  refine zj_geti (v := (h.2 23 4)) (zdk ttX10_book 7 rfl rfl) zf_RX10_223 rfl (k_0_0 s0 zBo_23) rfl ?_
  refine zj_iconst (zdk ttX10_book 8 rfl rfl) ?_
  refine zj_isub (zdk ttX10_book 9 rfl rfl) ?_
  refine zj_callS (av := [.inl p1, .inl 0, .inl ((h.2 23 4) - 1)]) (st := []) (zdk ttX10_book 10 rfl rfl) mb_X10_within ms_RX10_77 rfl rfl (Nat.le_of_ble_eq_true rfl) (s_X10_within l h p1 0 ((h.2 23 4) - 1) s0 (by omega) (by omega) (by omega)) (rm_ok (by decide) (by decide)) (zq_i fun v3 h4 q2 => ?_)
  obtain ⟨rfl, ⟨rfl, b5⟩ | ⟨rfl, b5⟩⟩ := q2
  · refine zj_if_ne (t := 25) (zdk ttX10_book 11 rfl rfl) (by decide) (by decide) (fun c6 => ?_) (fun c6 => ?_)
    · exact absurd c6 (by omega)
    · refine zj_bipush (zdk ttX10_book 12 rfl rfl) (by decide) ?_
      exact zj_iret rfl (zdk ttX10_book 13 rfl rfl) (Nat.le_refl _) (Nat.le_refl _) ⟨(-2), rfl, by omega, s0, (zfC_r _ _)⟩
  · refine zj_if_ne (t := 25) (zdk ttX10_book 11 rfl rfl) (by decide) (by decide) (fun c7 => ?_) (fun c7 => ?_)
    · refine zj_iload_n (zdk ttX10_book 14 rfl rfl) rfl ?_
      have k9 : (p2 < 0 ∨ 3 < p2) → zJ shC l yX10_book cX10_book 4 (some .int) (rmL 2) 0 0 (q_X10_book h p1 p2) 0 0 84 [some (.inr 0), some (.inl p1), some (.inl p2), some (.inr 23)] [] h := by
        intro c8
        refine zj_bipush (zdk ttX10_book 36 rfl rfl) (by decide) ?_
        exact zj_iret rfl (zdk ttX10_book 37 rfl rfl) (Nat.le_refl _) (Nat.le_refl _) ⟨(-2), rfl, by omega, s0, (zfC_r _ _)⟩
      have k10 : p2 = 0 → zJ shC l yX10_book cX10_book 4 (some .int) (rmL 2) 0 0 (q_X10_book h p1 p2) 0 0 56 [some (.inr 0), some (.inl p1), some (.inl p2), some (.inr 23)] [] h := by
        intro c8
        refine zj_aload_n (zdk ttX10_book 16 rfl rfl) rfl (by decide) ?_
        refine zj_getr (r := 24) (zdk ttX10_book 17 rfl rfl) zf_RX10_226 rfl (k_0_0 s0 zBo_23) (rf_0_0_0 s0 zBo_23) ?_
        refine zj_iload_n (zdk ttX10_book 18 rfl rfl) rfl ?_
        have b11 : -2147483648 ≤ (h.2 24 p1) ∧ (h.2 24 p1) ≤ 2147483647 := ab_0_0_0 s0 zBo_23 p1
        refine zj_iald (v := (h.2 24 p1)) (zdk ttX10_book 19 rfl rfl) (ka_0_0_0 s0 zBo_23) (by decide) (by omega) rfl ?_
        exact zj_iret rfl (zdk ttX10_book 20 rfl rfl) (Nat.le_refl _) (Nat.le_refl _) ⟨(h.2 24 p1), rfl, by omega, s0, (zfC_r _ _)⟩
      have k12 : p2 = 1 → zJ shC l yX10_book cX10_book 4 (some .int) (rmL 2) 0 0 (q_X10_book h p1 p2) 0 0 63 [some (.inr 0), some (.inl p1), some (.inl p2), some (.inr 23)] [] h := by
        intro c8
        refine zj_aload_n (zdk ttX10_book 21 rfl rfl) rfl (by decide) ?_
        refine zj_getr (r := 25) (zdk ttX10_book 22 rfl rfl) zf_RX10_228 rfl (k_0_0 s0 zBo_23) (rf_0_0_1 s0 zBo_23) ?_
        refine zj_iload_n (zdk ttX10_book 23 rfl rfl) rfl ?_
        have b13 : -2147483648 ≤ (h.2 25 p1) ∧ (h.2 25 p1) ≤ 2147483647 := ab_0_0_1 s0 zBo_23 p1
        refine zj_iald (v := (h.2 25 p1)) (zdk ttX10_book 24 rfl rfl) (ka_0_0_1 s0 zBo_23) (by decide) (by omega) rfl ?_
        exact zj_iret rfl (zdk ttX10_book 25 rfl rfl) (Nat.le_refl _) (Nat.le_refl _) ⟨(h.2 25 p1), rfl, by omega, s0, (zfC_r _ _)⟩
      have k14 : p2 = 2 → zJ shC l yX10_book cX10_book 4 (some .int) (rmL 2) 0 0 (q_X10_book h p1 p2) 0 0 70 [some (.inr 0), some (.inl p1), some (.inl p2), some (.inr 23)] [] h := by
        intro c8
        refine zj_aload_n (zdk ttX10_book 26 rfl rfl) rfl (by decide) ?_
        refine zj_getr (r := 26) (zdk ttX10_book 27 rfl rfl) zf_RX10_231 rfl (k_0_0 s0 zBo_23) (rf_0_0_2 s0 zBo_23) ?_
        refine zj_iload_n (zdk ttX10_book 28 rfl rfl) rfl ?_
        have b15 : -2147483648 ≤ (h.2 26 p1) ∧ (h.2 26 p1) ≤ 2147483647 := ab_0_0_2 s0 zBo_23 p1
        refine zj_iald (v := (h.2 26 p1)) (zdk ttX10_book 29 rfl rfl) (ka_0_0_2 s0 zBo_23) (by decide) (by omega) rfl ?_
        exact zj_iret rfl (zdk ttX10_book 30 rfl rfl) (Nat.le_refl _) (Nat.le_refl _) ⟨(h.2 26 p1), rfl, by omega, s0, (zfC_r _ _)⟩
      have k16 : p2 = 3 → zJ shC l yX10_book cX10_book 4 (some .int) (rmL 2) 0 0 (q_X10_book h p1 p2) 0 0 77 [some (.inr 0), some (.inl p1), some (.inl p2), some (.inr 23)] [] h := by
        intro c8
        refine zj_aload_n (zdk ttX10_book 31 rfl rfl) rfl (by decide) ?_
        refine zj_getr (r := 27) (zdk ttX10_book 32 rfl rfl) zf_RX10_234 rfl (k_0_0 s0 zBo_23) (rf_0_0_3 s0 zBo_23) ?_
        refine zj_iload_n (zdk ttX10_book 33 rfl rfl) rfl ?_
        have b17 : -2147483648 ≤ (h.2 27 p1) ∧ (h.2 27 p1) ≤ 2147483647 := ab_0_0_3 s0 zBo_23 p1
        refine zj_iald (v := (h.2 27 p1)) (zdk ttX10_book 34 rfl rfl) (ka_0_0_3 s0 zBo_23) (by decide) (by omega) rfl ?_
        exact zj_iret rfl (zdk ttX10_book 35 rfl rfl) (Nat.le_refl _) (Nat.le_refl _) ⟨(h.2 27 p1), rfl, by omega, s0, (zfC_r _ _)⟩
      refine zj_table (t := 84) (zdk ttX10_book 15 rfl rfl) (by omega) (by decide) k9 (fun z1 z2 => ?_)
      have z3 : p2 = 0 ∨ p2 = 1 ∨ p2 = 2 ∨ p2 = 3 := by omega
      rcases z3 with z3 | z3 | z3 | z3
      · exact ⟨30, 56, by rw [z3] <;> rfl, by decide, k10 z3⟩
      · exact ⟨37, 63, by rw [z3] <;> rfl, by decide, k12 z3⟩
      · exact ⟨44, 70, by rw [z3] <;> rfl, by decide, k14 z3⟩
      · exact ⟨51, 77, by rw [z3] <;> rfl, by decide, k16 z3⟩
    · exact absurd c7 (by omega)

abbrev tX10_goes : List (Nat × Instr × Nat) := [(0, .iload_n 1, 1), (1, .iconst 1, 1), (2, .bipush 60, 2), (4, .invokestatic 77, 3), (7, .ifCond .eq 12, 3), (10, .iload_n 2, 1), (11, .iconst 0, 1), (12, .iconst 3, 1), (13, .invokestatic 77, 3), (16, .ifCond .ne 5, 3), (19, .iconst (-1), 1), (20, .ireturn, 1), (21, .aload_n 0, 1), (22, .getfield 19, 3), (25, .aload_n 0, 1), (26, .getfield 10, 3), (29, .invokevirtual 237, 3), (32, .iconst 0, 1), (33, .istore_n 3, 1), (34, .iload_n 3, 1), (35, .iload_n 1, 1), (36, .if_icmp .ge 17, 3), (39, .aload_n 0, 1), (40, .getfield 19, 3), (43, .iconst 1, 1), (44, .invokevirtual 133, 3), (47, .iinc 3 1, 3), (50, .goto (-16), 3), (53, .aload_n 0, 1), (54, .getfield 19, 3), (57, .getfield 67, 3), (60, .astore_n 3, 1), (61, .iload_n 2, 1), (62, .tableswitch 44 0 2 #[26, 31, 39], 26), (88, .aload_n 3, 1), (89, .getfield 97, 3), (92, .ireturn, 1), (93, .aload_n 3, 1), (94, .getfield 240, 3), (97, .invokestatic 243, 3), (100, .ireturn, 1), (101, .aload_n 3, 1), (102, .getfield 130, 3), (105, .ireturn, 1), (106, .aload_n 3, 1), (107, .getfield 103, 3), (110, .ireturn, 1)]
theorem ttX10_goes : zdt cX10_goes tX10_goes = true := by decide +kernel
abbrev w_X10_goes (a b : Int) : Prop := (a = 70 ∧ 3 ≤ b ∧ b ≤ 13) ∨ (71 ≤ a ∧ a ≤ 73) ∨ (a = 74 ∧ 6 ≤ b ∧ b ≤ 7) ∨ (75 ≤ a ∧ a ≤ 80) ∨ (a = 81 ∧ b = 3) ∨ (82 ≤ a ∧ a ≤ 84) ∨ (a = 85 ∧ b = 3) ∨ (86 ≤ a ∧ a ≤ 88) ∨ (a = 89 ∧ b = 1) ∨ a = 90 ∨ (a = 91 ∧ b = 4) ∨ (92 ≤ a ∧ a ≤ 95) ∨ (a = 96 ∧ b = 2) ∨ (a = 96 ∧ b = 4) ∨ (a = 96 ∧ b = 6) ∨ (a = 96 ∧ b = 9) ∨ (97 ≤ a ∧ a ≤ 102)
abbrev q_X10_goes (h : zM) (p1 : Int) (p2 : Int) : Option zV → zM → Prop := zqi fun v h' => ((-2147483648) ≤ v ∧ v ≤ 2147483647) ∧ okC h' ∧ zfC w_X10_goes h h'
set_option maxRecDepth 100000 in
set_option maxHeartbeats 4000000 in
theorem s_X10_goes (l : Launch) (h : zM) (p1 : Int) (p2 : Int) (s0 : okC h) (b_p1 : (-2147483648) ≤ p1 ∧ p1 ≤ 2147483647) (b_p2 : (-2147483648) ≤ p2 ∧ p2 ≤ 2147483647) : zT shC l yX10_goes cX10_goes 4 (some .int) (rmL 8) 0 0 [.inr 0, .inl p1, .inl p2] h (q_X10_goes h p1 p2) := by
  refine zT_of (by decide +kernel) (L0 := [some (.inr 0), some (.inl p1), some (.inl p2), none]) rfl (Nat.le_of_ble_eq_true rfl) ?_
  refine zj_iload_n (zdk ttX10_goes 0 rfl rfl) rfl ?_
  refine zj_iconst (zdk ttX10_goes 1 rfl rfl) ?_
  refine zj_bipush (zdk ttX10_goes 2 rfl rfl) (by decide) ?_
  refine zj_callS (av := [.inl p1, .inl 1, .inl 60]) (st := []) (zdk ttX10_goes 3 rfl rfl) mb_X10_within ms_RX10_77 rfl rfl (Nat.le_of_ble_eq_true rfl) (s_X10_within l h p1 1 60 s0 (by omega) (by omega) (by omega)) (rm_ok (by decide) (by decide)) (zq_i fun v2 h3 q1 => ?_)
  obtain ⟨rfl, ⟨rfl, b4⟩ | ⟨rfl, b4⟩⟩ := q1
  · refine zj_if_eq (t := 19) (zdk ttX10_goes 4 rfl rfl) (by decide) (by decide) (fun c5 => ?_) (fun c5 => ?_)
    · refine zj_iconst (zdk ttX10_goes 10 rfl rfl) ?_
      exact zj_iret rfl (zdk ttX10_goes 11 rfl rfl) (Nat.le_refl _) (Nat.le_refl _) ⟨(-1), rfl, by omega, s0, (zfC_r _ _)⟩
    · exact absurd c5 (by omega)
  · refine zj_if_eq (t := 19) (zdk ttX10_goes 4 rfl rfl) (by decide) (by decide) (fun c6 => ?_) (fun c6 => ?_)
    · exact absurd c6 (by omega)
    · refine zj_iload_n (zdk ttX10_goes 5 rfl rfl) rfl ?_
      refine zj_iconst (zdk ttX10_goes 6 rfl rfl) ?_
      refine zj_iconst (zdk ttX10_goes 7 rfl rfl) ?_
      refine zj_callS (av := [.inl p2, .inl 0, .inl 3]) (st := []) (zdk ttX10_goes 8 rfl rfl) mb_X10_within ms_RX10_77 rfl rfl (Nat.le_of_ble_eq_true rfl) (s_X10_within l h p2 0 3 s0 (by omega) (by omega) (by omega)) (rm_ok (by decide) (by decide)) (zq_i fun v8 h9 q7 => ?_)
      obtain ⟨rfl, ⟨rfl, b10⟩ | ⟨rfl, b10⟩⟩ := q7
      · refine zj_if_ne (t := 21) (zdk ttX10_goes 9 rfl rfl) (by decide) (by decide) (fun c11 => ?_) (fun c11 => ?_)
        · exact absurd c11 (by omega)
        · refine zj_iconst (zdk ttX10_goes 10 rfl rfl) ?_
          exact zj_iret rfl (zdk ttX10_goes 11 rfl rfl) (Nat.le_refl _) (Nat.le_refl _) ⟨(-1), rfl, by omega, s0, (zfC_r _ _)⟩
      · refine zj_if_ne (t := 21) (zdk ttX10_goes 9 rfl rfl) (by decide) (by decide) (fun c12 => ?_) (fun c12 => ?_)
        · refine zj_aload_n (zdk ttX10_goes 12 rfl rfl) rfl (by decide) ?_
          refine zj_getr (r := 69) (zdk ttX10_goes 13 rfl rfl) zf_RX10_19 rfl (k_L0 s0) (rf_L0_2 s0) ?_
          refine zj_aload_n (zdk ttX10_goes 14 rfl rfl) rfl (by decide) ?_
          refine zj_getr (r := 1) (zdk ttX10_goes 15 rfl rfl) zf_RX10_10 rfl (k_L0 s0) (rf_L0_0 s0) ?_
          refine zj_callV (av := [.inr 1]) (st := []) (zdk ttX10_goes 16 rfl rfl) mb_X9_copyFrom mv_RX10_237 (ci := 9) rfl rfl (k_9_0 s0 zWd_69) rfl rfl (Nat.le_of_ble_eq_true rfl) (s_X9_copyFrom l h 69 1 s0 zWd_69 zWd_1) (rm_ok (by decide) (by decide)) (zq_v fun h15 q13 => ?_)
          obtain ⟨s17, f23, u18, u19, u20, u21, u22⟩ := q13
          have b24i : h15.2 70 3 = h.2 2 3 := u22
          have b24 : h15.2 96 2 = h.2 28 2 := u18
          have b25 : h15.2 96 4 = h.2 28 4 := u19
          have b26 : h15.2 96 6 = h.2 28 6 := u20
          have b27 : h15.2 96 9 = h.2 28 9 := u21
          refine zj_iconst (zdk ttX10_goes 17 rfl rfl) ?_
          refine zj_istore_n (L' := [some (.inr 0), some (.inl p1), some (.inl p2), some (.inl 0)]) (zdk ttX10_goes 18 rfl rfl) (by decide) rfl ?_
          have lp81 : ∀ (n : Nat) (x28 : Int) (h29 : zM), (0 ≤ x28 ∧ x28 ≤ 60) → okC h29 → zfC w_X10_goes h h29 → (61 - x28).toNat < n → zJ shC l yX10_goes cX10_goes 4 (some .int) (rmL 8) 0 0 (q_X10_goes h p1 p2) 0 0 34 [some (.inr 0), some (.inl p1), some (.inl p2), some (.inl x28)] [] h29 := by
            intro n
            induction n with
            | zero => intro x28 h29 b82 s30 f31 m83; exact absurd m83 (Nat.not_lt_zero _)
            | succ n ih84 =>
              intro x28 h29 b82 s30 f31 m83
              refine zj_iload_n (zdk ttX10_goes 19 rfl rfl) rfl ?_
              refine zj_iload_n (zdk ttX10_goes 20 rfl rfl) rfl ?_
              refine zj_icmp_ge (t := 53) (zdk ttX10_goes 21 rfl rfl) (by decide) (by omega) (by omega) (fun c85 => ?_) (fun c85 => ?_)
              · refine zj_aload_n (zdk ttX10_goes 28 rfl rfl) rfl (by decide) ?_
                refine zj_getr (r := 69) (zdk ttX10_goes 29 rfl rfl) zf_RX10_19 rfl (k_L0 s30) (rf_L0_2 s30) ?_
                refine zj_getr (r := 70) (zdk ttX10_goes 30 rfl rfl) zf_RX10_67 rfl (k_9_0 s30 zWd_69) (rf_9_0_0 s30 zWd_69) ?_
                refine zj_astore_n (L' := [some (.inr 0), some (.inl p1), some (.inl p2), some (.inr 70)]) (zdk ttX10_goes 31 rfl rfl) (by decide) (by decide) rfl ?_
                refine zj_iload_n (zdk ttX10_goes 32 rfl rfl) rfl ?_
                have k93 : (p2 < 0 ∨ 2 < p2) → zJ shC l yX10_goes cX10_goes 4 (some .int) (rmL 8) 0 0 (q_X10_goes h p1 p2) 0 0 106 [some (.inr 0), some (.inl p1), some (.inl p2), some (.inr 70)] [] h29 := by
                  intro c92
                  refine zj_aload_n (zdk ttX10_goes 44 rfl rfl) rfl (by decide) ?_
                  have b94 : -2147483648 ≤ (h29.2 70 11) ∧ (h29.2 70 11) ≤ 2147483647 := fb_1_0_11 s30 zIs_70
                  refine zj_geti (v := (h29.2 70 11)) (zdk ttX10_goes 45 rfl rfl) zf_RX10_103 rfl (k_1_0 s30 zIs_70) rfl ?_
                  exact zj_iret rfl (zdk ttX10_goes 46 rfl rfl) (Nat.le_refl _) (Nat.le_refl _) ⟨(h29.2 70 11), rfl, by omega, s30, f31⟩
                have k95 : p2 = 0 → zJ shC l yX10_goes cX10_goes 4 (some .int) (rmL 8) 0 0 (q_X10_goes h p1 p2) 0 0 88 [some (.inr 0), some (.inl p1), some (.inl p2), some (.inr 70)] [] h29 := by
                  intro c92
                  refine zj_aload_n (zdk ttX10_goes 34 rfl rfl) rfl (by decide) ?_
                  have b96 : 0 ≤ (h29.2 70 6) ∧ (h29.2 70 6) ≤ 719 := fb_1_0_6 s30 zIs_70
                  refine zj_geti (v := (h29.2 70 6)) (zdk ttX10_goes 35 rfl rfl) zf_RX10_97 rfl (k_1_0 s30 zIs_70) rfl ?_
                  exact zj_iret rfl (zdk ttX10_goes 36 rfl rfl) (Nat.le_refl _) (Nat.le_refl _) ⟨(h29.2 70 6), rfl, by omega, s30, f31⟩
                have k97 : p2 = 1 → zJ shC l yX10_goes cX10_goes 4 (some .int) (rmL 8) 0 0 (q_X10_goes h p1 p2) 0 0 93 [some (.inr 0), some (.inl p1), some (.inl p2), some (.inr 70)] [] h29 := by
                  intro c92
                  refine zj_aload_n (zdk ttX10_goes 37 rfl rfl) rfl (by decide) ?_
                  have b98 : -2147483648 ≤ (h29.2 70 4) ∧ (h29.2 70 4) ≤ 2147483647 := fb_1_0_4 s30 zIs_70
                  refine zj_geti (v := (h29.2 70 4)) (zdk ttX10_goes 38 rfl rfl) zf_RX10_240 rfl (k_1_0 s30 zIs_70) rfl ?_
                  refine zj_callS (av := [.inl (h29.2 70 4)]) (st := []) (zdk ttX10_goes 39 rfl rfl) mb_J6_bitCount_0f7a4 ms_RX10_243 rfl rfl (Nat.le_of_ble_eq_true rfl) (s_J6_bitCount_0f7a4 shC l h29 (h29.2 70 4)) (rm_ok (by decide) (by decide)) (zq_i fun v99 h100 q101 => ?_)
                  obtain ⟨rfl, b102⟩ := q101
                  exact zj_iret rfl (zdk ttX10_goes 40 rfl rfl) (Nat.le_refl _) (Nat.le_refl _) ⟨v99, rfl, by omega, s30, f31⟩
                have k103 : p2 = 2 → zJ shC l yX10_goes cX10_goes 4 (some .int) (rmL 8) 0 0 (q_X10_goes h p1 p2) 0 0 101 [some (.inr 0), some (.inl p1), some (.inl p2), some (.inr 70)] [] h29 := by
                  intro c92
                  refine zj_aload_n (zdk ttX10_goes 41 rfl rfl) rfl (by decide) ?_
                  have b104 : -2147483648 ≤ (h29.2 70 8) ∧ (h29.2 70 8) ≤ 2147483647 := fb_1_0_8 s30 zIs_70
                  refine zj_geti (v := (h29.2 70 8)) (zdk ttX10_goes 42 rfl rfl) zf_RX10_130 rfl (k_1_0 s30 zIs_70) rfl ?_
                  exact zj_iret rfl (zdk ttX10_goes 43 rfl rfl) (Nat.le_refl _) (Nat.le_refl _) ⟨(h29.2 70 8), rfl, by omega, s30, f31⟩
                refine zj_table (t := 106) (zdk ttX10_goes 33 rfl rfl) (by omega) (by decide) k93 (fun z1 z2 => ?_)
                have z3 : p2 = 0 ∨ p2 = 1 ∨ p2 = 2 := by omega
                rcases z3 with z3 | z3 | z3
                · exact ⟨26, 88, by rw [z3] <;> rfl, by decide, k95 z3⟩
                · exact ⟨31, 93, by rw [z3] <;> rfl, by decide, k97 z3⟩
                · exact ⟨39, 101, by rw [z3] <;> rfl, by decide, k103 z3⟩
              · refine zj_aload_n (zdk ttX10_goes 22 rfl rfl) rfl (by decide) ?_
                refine zj_getr (r := 69) (zdk ttX10_goes 23 rfl rfl) zf_RX10_19 rfl (k_L0 s30) (rf_L0_2 s30) ?_
                refine zj_iconst (zdk ttX10_goes 24 rfl rfl) ?_
                refine zj_callV (av := [.inl 1]) (st := []) (zdk ttX10_goes 25 rfl rfl) mb_X9_passDay mv_RX10_133 (ci := 9) rfl rfl (k_9_0 s30 zWd_69) rfl rfl (Nat.le_of_ble_eq_true rfl) (s_X9_passDay l h29 69 1 s30 zWd_69 (by omega)) (rm_ok (by decide) (by decide)) (zq_v fun h107 q105 => ?_)
                obtain ⟨s109, f110⟩ := q105
                refine zj_iinc (L' := [some (.inr 0), some (.inl p1), some (.inl p2), some (.inl (x28 + 1))]) (zdk ttX10_goes 26 rfl rfl) rfl (by decide) rfl ?_
                refine zj_goto (t := 34) (zdk ttX10_goes 27 rfl rfl) (by decide) ?_
                have f111 : zfC w_X10_goes h h107 := zfC_t f31 f110 (fun a9 b9 z9 => by
                  rcases z9 with z9 | z9 | z9 | z9 | z9
                  · exact (Or.inl (by omega))
                  · exact (Or.inr (Or.inl (by omega)))
                  · exact (Or.inr (Or.inr (Or.inr (Or.inl (by omega)))))
                  · exact (Or.inr (Or.inr (Or.inr (Or.inr (Or.inr (Or.inr (Or.inr (Or.inr (Or.inr (Or.inr (Or.inl z9)))))))))))
                  · exact (Or.inr (Or.inr (Or.inr (Or.inr (Or.inr (Or.inr (Or.inr (Or.inr (Or.inr (Or.inr (Or.inr (Or.inl z9)))))))))))))
                exact ih84  (x28 + 1) h107 (by omega) s109 f111 (by omega)
          have f112 : zfC w_X10_goes h h15 := zfC_t (zfC_r _ _) f23 (fun a9 b9 z9 => by
            rcases z9 with z9 | z9 | z9 | z9 | z9 | z9 | z9 | z9 | z9 | z9 | z9 | z9 | z9 | z9 | z9 | z9 | z9
            · exact (Or.inl z9)
            · exact (Or.inr (Or.inl z9))
            · exact (Or.inr (Or.inr (Or.inl z9)))
            · exact (Or.inr (Or.inr (Or.inr (Or.inl (by omega)))))
            · exact (Or.inr (Or.inr (Or.inr (Or.inr (Or.inl z9)))))
            · exact (Or.inr (Or.inr (Or.inr (Or.inr (Or.inr (Or.inl z9))))))
            · exact (Or.inr (Or.inr (Or.inr (Or.inr (Or.inr (Or.inr (Or.inl z9)))))))
            · exact (Or.inr (Or.inr (Or.inr (Or.inr (Or.inr (Or.inr (Or.inr (Or.inl z9))))))))
            · exact (Or.inr (Or.inr (Or.inr (Or.inr (Or.inr (Or.inr (Or.inr (Or.inr (Or.inl z9)))))))))
            · exact (Or.inr (Or.inr (Or.inr (Or.inr (Or.inr (Or.inr (Or.inr (Or.inr (Or.inr (Or.inl z9))))))))))
            · exact (Or.inr (Or.inr (Or.inr (Or.inr (Or.inr (Or.inr (Or.inr (Or.inr (Or.inr (Or.inr (Or.inl z9)))))))))))
            · exact (Or.inr (Or.inr (Or.inr (Or.inr (Or.inr (Or.inr (Or.inr (Or.inr (Or.inr (Or.inr (Or.inr (Or.inl z9))))))))))))
            · exact (Or.inr (Or.inr (Or.inr (Or.inr (Or.inr (Or.inr (Or.inr (Or.inr (Or.inr (Or.inr (Or.inr (Or.inr (Or.inl z9)))))))))))))
            · exact (Or.inr (Or.inr (Or.inr (Or.inr (Or.inr (Or.inr (Or.inr (Or.inr (Or.inr (Or.inr (Or.inr (Or.inr (Or.inr (Or.inl z9))))))))))))))
            · exact (Or.inr (Or.inr (Or.inr (Or.inr (Or.inr (Or.inr (Or.inr (Or.inr (Or.inr (Or.inr (Or.inr (Or.inr (Or.inr (Or.inr (Or.inl z9)))))))))))))))
            · exact (Or.inr (Or.inr (Or.inr (Or.inr (Or.inr (Or.inr (Or.inr (Or.inr (Or.inr (Or.inr (Or.inr (Or.inr (Or.inr (Or.inr (Or.inr (Or.inl z9))))))))))))))))
            · exact (Or.inr (Or.inr (Or.inr (Or.inr (Or.inr (Or.inr (Or.inr (Or.inr (Or.inr (Or.inr (Or.inr (Or.inr (Or.inr (Or.inr (Or.inr (Or.inr z9)))))))))))))))))
          exact lp81 _ 0 h15 (by omega) s17 f112 (Nat.lt_succ_self _)
        · exact absurd c12 (by omega)

abbrev tX10_lonely : List (Nat × Instr × Nat) := [(0, .aload_n 0, 1), (1, .getfield 19, 3), (4, .aload_n 0, 1), (5, .getfield 10, 3), (8, .invokevirtual 237, 3), (11, .iconst 0, 1), (12, .istore_n 1, 1), (13, .iload_n 1, 1), (14, .bipush 60, 2), (16, .if_icmp .gt 32, 3), (19, .aload_n 0, 1), (20, .getfield 19, 3), (23, .getfield 67, 3), (26, .getfield 240, 3), (29, .ifCond .ne 5, 3), (32, .iload_n 1, 1), (33, .ireturn, 1), (34, .aload_n 0, 1), (35, .getfield 19, 3), (38, .iconst 1, 1), (39, .invokevirtual 133, 3), (42, .iinc 1 1, 3), (45, .goto (-32), 3), (48, .iconst (-1), 1), (49, .ireturn, 1)]
theorem ttX10_lonely : zdt cX10_lonely tX10_lonely = true := by decide +kernel
abbrev w_X10_lonely (a b : Int) : Prop := (a = 70 ∧ 3 ≤ b ∧ b ≤ 13) ∨ (71 ≤ a ∧ a ≤ 73) ∨ (a = 74 ∧ 6 ≤ b ∧ b ≤ 7) ∨ (75 ≤ a ∧ a ≤ 80) ∨ (a = 81 ∧ b = 3) ∨ (82 ≤ a ∧ a ≤ 84) ∨ (a = 85 ∧ b = 3) ∨ (86 ≤ a ∧ a ≤ 88) ∨ (a = 89 ∧ b = 1) ∨ a = 90 ∨ (a = 91 ∧ b = 4) ∨ (92 ≤ a ∧ a ≤ 95) ∨ (a = 96 ∧ b = 2) ∨ (a = 96 ∧ b = 4) ∨ (a = 96 ∧ b = 6) ∨ (a = 96 ∧ b = 9) ∨ (97 ≤ a ∧ a ≤ 102)
abbrev q_X10_lonely (h : zM) : Option zV → zM → Prop := zqi fun v h' => ((-2147483648) ≤ v ∧ v ≤ 2147483647) ∧ okC h' ∧ zfC w_X10_lonely h h'
set_option maxRecDepth 100000 in
set_option maxHeartbeats 4000000 in
theorem s_X10_lonely (l : Launch) (h : zM) (s0 : okC h) : zT shC l yX10_lonely cX10_lonely 2 (some .int) (rmL 8) 0 0 [.inr 0] h (q_X10_lonely h) := by
  refine zT_of (by decide +kernel) (L0 := [some (.inr 0), none]) rfl (Nat.le_of_ble_eq_true rfl) ?_
  refine zj_aload_n (zdk ttX10_lonely 0 rfl rfl) rfl (by decide) ?_
  refine zj_getr (r := 69) (zdk ttX10_lonely 1 rfl rfl) zf_RX10_19 rfl (k_L0 s0) (rf_L0_2 s0) ?_
  refine zj_aload_n (zdk ttX10_lonely 2 rfl rfl) rfl (by decide) ?_
  refine zj_getr (r := 1) (zdk ttX10_lonely 3 rfl rfl) zf_RX10_10 rfl (k_L0 s0) (rf_L0_0 s0) ?_
  refine zj_callV (av := [.inr 1]) (st := []) (zdk ttX10_lonely 4 rfl rfl) mb_X9_copyFrom mv_RX10_237 (ci := 9) rfl rfl (k_9_0 s0 zWd_69) rfl rfl (Nat.le_of_ble_eq_true rfl) (s_X9_copyFrom l h 69 1 s0 zWd_69 zWd_1) (rm_ok (by decide) (by decide)) (zq_v fun h3 q1 => ?_)
  obtain ⟨s5, f11, u6, u7, u8, u9, u10⟩ := q1
  have b12i : h3.2 70 3 = h.2 2 3 := u10
  have b12 : h3.2 96 2 = h.2 28 2 := u6
  have b13 : h3.2 96 4 = h.2 28 4 := u7
  have b14 : h3.2 96 6 = h.2 28 6 := u8
  have b15 : h3.2 96 9 = h.2 28 9 := u9
  refine zj_iconst (zdk ttX10_lonely 5 rfl rfl) ?_
  refine zj_istore_n (L' := [some (.inr 0), some (.inl 0)]) (zdk ttX10_lonely 6 rfl rfl) (by decide) rfl ?_
  have lp74 : ∀ (n : Nat) (x16 : Int) (h17 : zM), (0 ≤ x16 ∧ x16 ≤ 61) → okC h17 → zfC w_X10_lonely h h17 → (62 - x16).toNat < n → zJ shC l yX10_lonely cX10_lonely 2 (some .int) (rmL 8) 0 0 (q_X10_lonely h) 0 0 13 [some (.inr 0), some (.inl x16)] [] h17 := by
    intro n
    induction n with
    | zero => intro x16 h17 b75 s18 f19 m76; exact absurd m76 (Nat.not_lt_zero _)
    | succ n ih77 =>
      intro x16 h17 b75 s18 f19 m76
      refine zj_iload_n (zdk ttX10_lonely 7 rfl rfl) rfl ?_
      refine zj_bipush (zdk ttX10_lonely 8 rfl rfl) (by decide) ?_
      refine zj_icmp_gt (t := 48) (zdk ttX10_lonely 9 rfl rfl) (by decide) (by omega) (by decide) (fun c78 => ?_) (fun c78 => ?_)
      · refine zj_iconst (zdk ttX10_lonely 23 rfl rfl) ?_
        exact zj_iret rfl (zdk ttX10_lonely 24 rfl rfl) (Nat.le_refl _) (Nat.le_refl _) ⟨(-1), rfl, by omega, s18, f19⟩
      · refine zj_aload_n (zdk ttX10_lonely 10 rfl rfl) rfl (by decide) ?_
        refine zj_getr (r := 69) (zdk ttX10_lonely 11 rfl rfl) zf_RX10_19 rfl (k_L0 s18) (rf_L0_2 s18) ?_
        refine zj_getr (r := 70) (zdk ttX10_lonely 12 rfl rfl) zf_RX10_67 rfl (k_9_0 s18 zWd_69) (rf_9_0_0 s18 zWd_69) ?_
        have b79 : -2147483648 ≤ (h17.2 70 4) ∧ (h17.2 70 4) ≤ 2147483647 := fb_1_0_4 s18 zIs_70
        refine zj_geti (v := (h17.2 70 4)) (zdk ttX10_lonely 13 rfl rfl) zf_RX10_240 rfl (k_1_0 s18 zIs_70) rfl ?_
        refine zj_if_ne (t := 34) (zdk ttX10_lonely 14 rfl rfl) (by decide) (by omega) (fun c80 => ?_) (fun c80 => ?_)
        · refine zj_aload_n (zdk ttX10_lonely 17 rfl rfl) rfl (by decide) ?_
          refine zj_getr (r := 69) (zdk ttX10_lonely 18 rfl rfl) zf_RX10_19 rfl (k_L0 s18) (rf_L0_2 s18) ?_
          refine zj_iconst (zdk ttX10_lonely 19 rfl rfl) ?_
          refine zj_callV (av := [.inl 1]) (st := []) (zdk ttX10_lonely 20 rfl rfl) mb_X9_passDay mv_RX10_133 (ci := 9) rfl rfl (k_9_0 s18 zWd_69) rfl rfl (Nat.le_of_ble_eq_true rfl) (s_X9_passDay l h17 69 1 s18 zWd_69 (by omega)) (rm_ok (by decide) (by decide)) (zq_v fun h83 q81 => ?_)
          obtain ⟨s85, f86⟩ := q81
          refine zj_iinc (L' := [some (.inr 0), some (.inl (x16 + 1))]) (zdk ttX10_lonely 21 rfl rfl) rfl (by decide) rfl ?_
          refine zj_goto (t := 13) (zdk ttX10_lonely 22 rfl rfl) (by decide) ?_
          have f87 : zfC w_X10_lonely h h83 := zfC_t f19 f86 (fun a9 b9 z9 => by
            rcases z9 with z9 | z9 | z9 | z9 | z9
            · exact (Or.inl (by omega))
            · exact (Or.inr (Or.inl (by omega)))
            · exact (Or.inr (Or.inr (Or.inr (Or.inl (by omega)))))
            · exact (Or.inr (Or.inr (Or.inr (Or.inr (Or.inr (Or.inr (Or.inr (Or.inr (Or.inr (Or.inr (Or.inl z9)))))))))))
            · exact (Or.inr (Or.inr (Or.inr (Or.inr (Or.inr (Or.inr (Or.inr (Or.inr (Or.inr (Or.inr (Or.inr (Or.inl z9)))))))))))))
          exact ih77  (x16 + 1) h83 (by omega) s85 f87 (by omega)
        · refine zj_iload_n (zdk ttX10_lonely 15 rfl rfl) rfl ?_
          exact zj_iret rfl (zdk ttX10_lonely 16 rfl rfl) (Nat.le_refl _) (Nat.le_refl _) ⟨x16, rfl, by omega, s18, f19⟩
  have f88 : zfC w_X10_lonely h h3 := zfC_t (zfC_r _ _) f11 (fun a9 b9 z9 => by
    rcases z9 with z9 | z9 | z9 | z9 | z9 | z9 | z9 | z9 | z9 | z9 | z9 | z9 | z9 | z9 | z9 | z9 | z9
    · exact (Or.inl z9)
    · exact (Or.inr (Or.inl z9))
    · exact (Or.inr (Or.inr (Or.inl z9)))
    · exact (Or.inr (Or.inr (Or.inr (Or.inl (by omega)))))
    · exact (Or.inr (Or.inr (Or.inr (Or.inr (Or.inl z9)))))
    · exact (Or.inr (Or.inr (Or.inr (Or.inr (Or.inr (Or.inl z9))))))
    · exact (Or.inr (Or.inr (Or.inr (Or.inr (Or.inr (Or.inr (Or.inl z9)))))))
    · exact (Or.inr (Or.inr (Or.inr (Or.inr (Or.inr (Or.inr (Or.inr (Or.inl z9))))))))
    · exact (Or.inr (Or.inr (Or.inr (Or.inr (Or.inr (Or.inr (Or.inr (Or.inr (Or.inl z9)))))))))
    · exact (Or.inr (Or.inr (Or.inr (Or.inr (Or.inr (Or.inr (Or.inr (Or.inr (Or.inr (Or.inl z9))))))))))
    · exact (Or.inr (Or.inr (Or.inr (Or.inr (Or.inr (Or.inr (Or.inr (Or.inr (Or.inr (Or.inr (Or.inl z9)))))))))))
    · exact (Or.inr (Or.inr (Or.inr (Or.inr (Or.inr (Or.inr (Or.inr (Or.inr (Or.inr (Or.inr (Or.inr (Or.inl z9))))))))))))
    · exact (Or.inr (Or.inr (Or.inr (Or.inr (Or.inr (Or.inr (Or.inr (Or.inr (Or.inr (Or.inr (Or.inr (Or.inr (Or.inl z9)))))))))))))
    · exact (Or.inr (Or.inr (Or.inr (Or.inr (Or.inr (Or.inr (Or.inr (Or.inr (Or.inr (Or.inr (Or.inr (Or.inr (Or.inr (Or.inl z9))))))))))))))
    · exact (Or.inr (Or.inr (Or.inr (Or.inr (Or.inr (Or.inr (Or.inr (Or.inr (Or.inr (Or.inr (Or.inr (Or.inr (Or.inr (Or.inr (Or.inl z9)))))))))))))))
    · exact (Or.inr (Or.inr (Or.inr (Or.inr (Or.inr (Or.inr (Or.inr (Or.inr (Or.inr (Or.inr (Or.inr (Or.inr (Or.inr (Or.inr (Or.inr (Or.inl z9))))))))))))))))
    · exact (Or.inr (Or.inr (Or.inr (Or.inr (Or.inr (Or.inr (Or.inr (Or.inr (Or.inr (Or.inr (Or.inr (Or.inr (Or.inr (Or.inr (Or.inr (Or.inr z9)))))))))))))))))
  exact lp74 _ 0 h3 (by omega) s5 f88 (Nat.lt_succ_self _)

abbrev tX10_strokes : List (Nat × Instr × Nat) := [(0, .iload_n 1, 1), (1, .iconst 0, 1), (2, .sipush 719, 3), (5, .invokestatic 77, 3), (8, .ifCond .eq 14, 3), (11, .iload_n 2, 1), (12, .iconst 0, 1), (13, .sipush 719, 3), (16, .invokestatic 77, 3), (19, .ifCond .ne 5, 3), (22, .iconst (-1), 1), (23, .ireturn, 1), (24, .iload_n 1, 1), (25, .iload_n 1, 1), (26, .iload_n 2, 1), (27, .if_icmp .gt 9, 3), (30, .iload_n 2, 1), (31, .iload_n 1, 1), (32, .isub, 1), (33, .goto 10, 3), (36, .iload_n 2, 1), (37, .sipush 720, 3), (40, .iadd, 1), (41, .iload_n 1, 1), (42, .isub, 1), (43, .invokestatic 254, 3), (46, .ireturn, 1)]
theorem ttX10_strokes : zdt cX10_strokes tX10_strokes = true := by decide +kernel
abbrev w_X10_strokes (a b : Int) : Prop := False
abbrev q_X10_strokes (h : zM) (p1 : Int) (p2 : Int) : Option zV → zM → Prop := zqi fun v h' => ((-2147483648) ≤ v ∧ v ≤ 2147483647) ∧ okC h' ∧ zfC w_X10_strokes h h'
set_option maxRecDepth 100000 in
set_option maxHeartbeats 4000000 in
theorem s_X10_strokes (l : Launch) (h : zM) (p1 : Int) (p2 : Int) (s0 : okC h) (b_p1 : (-2147483648) ≤ p1 ∧ p1 ≤ 2147483647) (b_p2 : (-2147483648) ≤ p2 ∧ p2 ≤ 2147483647) : zT shC l yX10_strokes cX10_strokes 3 (some .int) (rmL 2) 0 0 [.inr 0, .inl p1, .inl p2] h (q_X10_strokes h p1 p2) := by
  refine zT_of (by decide +kernel) (L0 := [some (.inr 0), some (.inl p1), some (.inl p2)]) rfl (Nat.le_of_ble_eq_true rfl) ?_
  refine zj_iload_n (zdk ttX10_strokes 0 rfl rfl) rfl ?_
  refine zj_iconst (zdk ttX10_strokes 1 rfl rfl) ?_
  refine zj_sipush (zdk ttX10_strokes 2 rfl rfl) (by decide) ?_
  refine zj_callS (av := [.inl p1, .inl 0, .inl 719]) (st := []) (zdk ttX10_strokes 3 rfl rfl) mb_X10_within ms_RX10_77 rfl rfl (Nat.le_of_ble_eq_true rfl) (s_X10_within l h p1 0 719 s0 (by omega) (by omega) (by omega)) (rm_ok (by decide) (by decide)) (zq_i fun v2 h3 q1 => ?_)
  obtain ⟨rfl, ⟨rfl, b4⟩ | ⟨rfl, b4⟩⟩ := q1
  · refine zj_if_eq (t := 22) (zdk ttX10_strokes 4 rfl rfl) (by decide) (by decide) (fun c5 => ?_) (fun c5 => ?_)
    · refine zj_iconst (zdk ttX10_strokes 10 rfl rfl) ?_
      exact zj_iret rfl (zdk ttX10_strokes 11 rfl rfl) (Nat.le_refl _) (Nat.le_refl _) ⟨(-1), rfl, by omega, s0, (zfC_r _ _)⟩
    · exact absurd c5 (by omega)
  · refine zj_if_eq (t := 22) (zdk ttX10_strokes 4 rfl rfl) (by decide) (by decide) (fun c6 => ?_) (fun c6 => ?_)
    · exact absurd c6 (by omega)
    · refine zj_iload_n (zdk ttX10_strokes 5 rfl rfl) rfl ?_
      refine zj_iconst (zdk ttX10_strokes 6 rfl rfl) ?_
      refine zj_sipush (zdk ttX10_strokes 7 rfl rfl) (by decide) ?_
      refine zj_callS (av := [.inl p2, .inl 0, .inl 719]) (st := []) (zdk ttX10_strokes 8 rfl rfl) mb_X10_within ms_RX10_77 rfl rfl (Nat.le_of_ble_eq_true rfl) (s_X10_within l h p2 0 719 s0 (by omega) (by omega) (by omega)) (rm_ok (by decide) (by decide)) (zq_i fun v8 h9 q7 => ?_)
      obtain ⟨rfl, ⟨rfl, b10⟩ | ⟨rfl, b10⟩⟩ := q7
      · refine zj_if_ne (t := 24) (zdk ttX10_strokes 9 rfl rfl) (by decide) (by decide) (fun c11 => ?_) (fun c11 => ?_)
        · exact absurd c11 (by omega)
        · refine zj_iconst (zdk ttX10_strokes 10 rfl rfl) ?_
          exact zj_iret rfl (zdk ttX10_strokes 11 rfl rfl) (Nat.le_refl _) (Nat.le_refl _) ⟨(-1), rfl, by omega, s0, (zfC_r _ _)⟩
      · refine zj_if_ne (t := 24) (zdk ttX10_strokes 9 rfl rfl) (by decide) (by decide) (fun c12 => ?_) (fun c12 => ?_)
        · refine zj_iload_n (zdk ttX10_strokes 12 rfl rfl) rfl ?_
          refine zj_iload_n (zdk ttX10_strokes 13 rfl rfl) rfl ?_
          refine zj_iload_n (zdk ttX10_strokes 14 rfl rfl) rfl ?_
          refine zj_icmp_gt (t := 36) (zdk ttX10_strokes 15 rfl rfl) (by decide) (by omega) (by omega) (fun c13 => ?_) (fun c13 => ?_)
          · refine zj_iload_n (zdk ttX10_strokes 20 rfl rfl) rfl ?_
            refine zj_sipush (zdk ttX10_strokes 21 rfl rfl) (by decide) ?_
            refine zj_iadd (zdk ttX10_strokes 22 rfl rfl) ?_
            refine zj_iload_n (zdk ttX10_strokes 23 rfl rfl) rfl ?_
            refine zj_isub (zdk ttX10_strokes 24 rfl rfl) ?_
            refine zj_callS (av := [.inl p1, .inl ((p2 + 720) - p1)]) (st := []) (zdk ttX10_strokes 25 rfl rfl) mb_X8_strokesOver ms_RX10_254 rfl rfl (Nat.le_of_ble_eq_true rfl) (s_X8_strokesOver l h p1 ((p2 + 720) - p1) s0 (by omega) (by omega)) (rm_ok (by decide) (by decide)) (zq_i fun v15 h16 q14 => ?_)
            obtain ⟨rfl, b17⟩ := q14
            exact zj_iret rfl (zdk ttX10_strokes 26 rfl rfl) (Nat.le_refl _) (Nat.le_refl _) ⟨v15, rfl, by omega, s0, (zfC_r _ _)⟩
          · refine zj_iload_n (zdk ttX10_strokes 16 rfl rfl) rfl ?_
            refine zj_iload_n (zdk ttX10_strokes 17 rfl rfl) rfl ?_
            refine zj_isub (zdk ttX10_strokes 18 rfl rfl) ?_
            refine zj_goto (t := 43) (zdk ttX10_strokes 19 rfl rfl) (by decide) ?_
            refine zj_callS (av := [.inl p1, .inl (p2 - p1)]) (st := []) (zdk ttX10_strokes 25 rfl rfl) mb_X8_strokesOver ms_RX10_254 rfl rfl (Nat.le_of_ble_eq_true rfl) (s_X8_strokesOver l h p1 (p2 - p1) s0 (by omega) (by omega)) (rm_ok (by decide) (by decide)) (zq_i fun v19 h20 q18 => ?_)
            obtain ⟨rfl, b21⟩ := q18
            exact zj_iret rfl (zdk ttX10_strokes 26 rfl rfl) (Nat.le_refl _) (Nat.le_refl _) ⟨v19, rfl, by omega, s0, (zfC_r _ _)⟩
        · exact absurd c12 (by omega)

abbrev tX10_hands : List (Nat × Instr × Nat) := [(0, .iload_n 2, 1), (1, .ifCond .ne 19, 3), (4, .iload_n 1, 1), (5, .iconst 0, 1), (6, .sipush 719, 3), (9, .invokestatic 77, 3), (12, .ifCond .eq 8, 3), (15, .iload_n 1, 1), (16, .invokestatic 257, 3), (19, .ireturn, 1), (20, .iload_n 2, 1), (21, .iconst 1, 1), (22, .if_icmp .ne 19, 3), (25, .iload_n 1, 1), (26, .iconst 0, 1), (27, .sipush 360, 3), (30, .invokestatic 77, 3), (33, .ifCond .eq 8, 3), (36, .iload_n 1, 1), (37, .invokestatic 260, 3), (40, .ireturn, 1), (41, .iconst (-1), 1), (42, .ireturn, 1)]
theorem ttX10_hands : zdt cX10_hands tX10_hands = true := by decide +kernel
abbrev w_X10_hands (a b : Int) : Prop := False
abbrev q_X10_hands (h : zM) (p1 : Int) (p2 : Int) : Option zV → zM → Prop := zqi fun v h' => ((-2147483648) ≤ v ∧ v ≤ 2147483647) ∧ okC h' ∧ zfC w_X10_hands h h'
set_option maxRecDepth 100000 in
set_option maxHeartbeats 4000000 in
theorem s_X10_hands (l : Launch) (h : zM) (p1 : Int) (p2 : Int) (s0 : okC h) (b_p1 : (-2147483648) ≤ p1 ∧ p1 ≤ 2147483647) (b_p2 : (-2147483648) ≤ p2 ∧ p2 ≤ 2147483647) : zT shC l yX10_hands cX10_hands 3 (some .int) (rmL 4) 0 0 [.inr 0, .inl p1, .inl p2] h (q_X10_hands h p1 p2) := by
  refine zT_of (by decide +kernel) (L0 := [some (.inr 0), some (.inl p1), some (.inl p2)]) rfl (Nat.le_of_ble_eq_true rfl) ?_
  refine zj_iload_n (zdk ttX10_hands 0 rfl rfl) rfl ?_
  refine zj_if_ne (t := 20) (zdk ttX10_hands 1 rfl rfl) (by decide) (by omega) (fun c1 => ?_) (fun c1 => ?_)
  · refine zj_iload_n (zdk ttX10_hands 10 rfl rfl) rfl ?_
    refine zj_iconst (zdk ttX10_hands 11 rfl rfl) ?_
    refine zj_icmp_ne (t := 41) (zdk ttX10_hands 12 rfl rfl) (by decide) (by omega) (by decide) (fun c2 => ?_) (fun c2 => ?_)
    · refine zj_iconst (zdk ttX10_hands 21 rfl rfl) ?_
      exact zj_iret rfl (zdk ttX10_hands 22 rfl rfl) (Nat.le_refl _) (Nat.le_refl _) ⟨(-1), rfl, by omega, s0, (zfC_r _ _)⟩
    · refine zj_iload_n (zdk ttX10_hands 13 rfl rfl) rfl ?_
      refine zj_iconst (zdk ttX10_hands 14 rfl rfl) ?_
      refine zj_sipush (zdk ttX10_hands 15 rfl rfl) (by decide) ?_
      refine zj_callS (av := [.inl p1, .inl 0, .inl 360]) (st := []) (zdk ttX10_hands 16 rfl rfl) mb_X10_within ms_RX10_77 rfl rfl (Nat.le_of_ble_eq_true rfl) (s_X10_within l h p1 0 360 s0 (by omega) (by omega) (by omega)) (rm_ok (by decide) (by decide)) (zq_i fun v4 h5 q3 => ?_)
      obtain ⟨rfl, ⟨rfl, b6⟩ | ⟨rfl, b6⟩⟩ := q3
      · refine zj_if_eq (t := 41) (zdk ttX10_hands 17 rfl rfl) (by decide) (by decide) (fun c7 => ?_) (fun c7 => ?_)
        · refine zj_iconst (zdk ttX10_hands 21 rfl rfl) ?_
          exact zj_iret rfl (zdk ttX10_hands 22 rfl rfl) (Nat.le_refl _) (Nat.le_refl _) ⟨(-1), rfl, by omega, s0, (zfC_r _ _)⟩
        · exact absurd c7 (by omega)
      · refine zj_if_eq (t := 41) (zdk ttX10_hands 17 rfl rfl) (by decide) (by decide) (fun c8 => ?_) (fun c8 => ?_)
        · exact absurd c8 (by omega)
        · refine zj_iload_n (zdk ttX10_hands 18 rfl rfl) rfl ?_
          refine zj_callS (av := [.inl p1]) (st := []) (zdk ttX10_hands 19 rfl rfl) mb_X8_minutesApartBy ms_RX10_260 rfl rfl (Nat.le_of_ble_eq_true rfl) (s_X8_minutesApartBy l h p1 s0 (by omega)) (rm_ok (by decide) (by decide)) (zq_i fun v10 h11 q9 => ?_)
          obtain ⟨rfl, b12⟩ := q9
          exact zj_iret rfl (zdk ttX10_hands 20 rfl rfl) (Nat.le_refl _) (Nat.le_refl _) ⟨v10, rfl, by omega, s0, (zfC_r _ _)⟩
  · refine zj_iload_n (zdk ttX10_hands 2 rfl rfl) rfl ?_
    refine zj_iconst (zdk ttX10_hands 3 rfl rfl) ?_
    refine zj_sipush (zdk ttX10_hands 4 rfl rfl) (by decide) ?_
    refine zj_callS (av := [.inl p1, .inl 0, .inl 719]) (st := []) (zdk ttX10_hands 5 rfl rfl) mb_X10_within ms_RX10_77 rfl rfl (Nat.le_of_ble_eq_true rfl) (s_X10_within l h p1 0 719 s0 (by omega) (by omega) (by omega)) (rm_ok (by decide) (by decide)) (zq_i fun v14 h15 q13 => ?_)
    obtain ⟨rfl, ⟨rfl, b16⟩ | ⟨rfl, b16⟩⟩ := q13
    · refine zj_if_eq (t := 20) (zdk ttX10_hands 6 rfl rfl) (by decide) (by decide) (fun c17 => ?_) (fun c17 => ?_)
      · refine zj_iload_n (zdk ttX10_hands 10 rfl rfl) rfl ?_
        refine zj_iconst (zdk ttX10_hands 11 rfl rfl) ?_
        refine zj_icmp_ne (t := 41) (zdk ttX10_hands 12 rfl rfl) (by decide) (by omega) (by decide) (fun c18 => ?_) (fun c18 => ?_)
        · refine zj_iconst (zdk ttX10_hands 21 rfl rfl) ?_
          exact zj_iret rfl (zdk ttX10_hands 22 rfl rfl) (Nat.le_refl _) (Nat.le_refl _) ⟨(-1), rfl, by omega, s0, (zfC_r _ _)⟩
        · exact absurd c18 (by omega)
      · exact absurd c17 (by omega)
    · refine zj_if_eq (t := 20) (zdk ttX10_hands 6 rfl rfl) (by decide) (by decide) (fun c19 => ?_) (fun c19 => ?_)
      · exact absurd c19 (by omega)
      · refine zj_iload_n (zdk ttX10_hands 7 rfl rfl) rfl ?_
        refine zj_callS (av := [.inl p1]) (st := []) (zdk ttX10_hands 8 rfl rfl) mb_X8_handsApart ms_RX10_257 rfl rfl (Nat.le_of_ble_eq_true rfl) (s_X8_handsApart l h p1 s0 (by omega)) (rm_ok (by decide) (by decide)) (zq_i fun v21 h22 q20 => ?_)
        obtain ⟨rfl, b23⟩ := q20
        have b24 : 0 ≤ v21 ∧ v21 ≤ 719 := by omega
        exact zj_iret rfl (zdk ttX10_hands 9 rfl rfl) (Nat.le_refl _) (Nat.le_refl _) ⟨v21, rfl, by omega, s0, (zfC_r _ _)⟩

abbrev tX10_wheel : List (Nat × Instr × Nat) := [(0, .aload_n 0, 1), (1, .getfield 10, 3), (4, .getfield 263, 3), (7, .iload_n 1, 1), (8, .iload_n 2, 1), (9, .invokevirtual 267, 3), (12, .ireturn, 1)]
theorem ttX10_wheel : zdt cX10_wheel tX10_wheel = true := by decide +kernel
abbrev w_X10_wheel (a b : Int) : Prop := (a = 28 ∧ b = 2) ∨ (29 ≤ a ∧ a ≤ 30)
abbrev q_X10_wheel (h : zM) (p1 : Int) (p2 : Int) : Option zV → zM → Prop := zqi fun v h' => ((-2147483648) ≤ v ∧ v ≤ 2147483647) ∧ okC h' ∧ zfC w_X10_wheel h h' ∧ (zcw (p1 = -1) (6 ≤ p1 ∧ p1 ≤ 99) 5 (h.2 28 2) v (h'.2 28 2))
set_option maxRecDepth 100000 in
set_option maxHeartbeats 4000000 in
theorem s_X10_wheel (l : Launch) (h : zM) (p1 : Int) (p2 : Int) (s0 : okC h) (b_p1 : (-2147483648) ≤ p1 ∧ p1 ≤ 2147483647) (b_p2 : 0 ≤ p2 ∧ p2 ≤ 1) : zT shC l yX10_wheel cX10_wheel 3 (some .int) (rmL 3) 0 0 [.inr 0, .inl p1, .inl p2] h (q_X10_wheel h p1 p2) := by
  refine zT_of (by decide +kernel) (L0 := [some (.inr 0), some (.inl p1), some (.inl p2)]) rfl (Nat.le_of_ble_eq_true rfl) ?_
  refine zj_aload_n (zdk ttX10_wheel 0 rfl rfl) rfl (by decide) ?_
  refine zj_getr (r := 1) (zdk ttX10_wheel 1 rfl rfl) zf_RX10_10 rfl (k_L0 s0) (rf_L0_0 s0) ?_
  refine zj_getr (r := 28) (zdk ttX10_wheel 2 rfl rfl) zf_RX10_263 rfl (k_9_0 s0 zWd_1) (rf_9_0_6 s0 zWd_1) ?_
  refine zj_iload_n (zdk ttX10_wheel 3 rfl rfl) rfl ?_
  refine zj_iload_n (zdk ttX10_wheel 4 rfl rfl) rfl ?_
  refine zj_callV (av := [.inl p1, .inl p2]) (st := []) (zdk ttX10_wheel 5 rfl rfl) mb_X5_tellWheel mv_RX10_267 (ci := 5) rfl rfl (k_5_0 s0 zPu_28) rfl rfl (Nat.le_of_ble_eq_true rfl) (s_X5_tellWheel l h 28 p1 p2 s0 zPu_28 (by omega) (by omega)) (rm_ok (by decide) (by decide)) (zq_i fun v2 h3 q1 => ?_)
  obtain ⟨b4, s5, f7, u6⟩ := q1
  have f8 : zfC w_X10_wheel h h3 := zfC_t (zfC_r _ _) f7 (fun a9 b9 z9 => by
    rcases z9 with z9 | z9
    · exact (Or.inl z9)
    · exact (Or.inr z9))
  exact zj_iret rfl (zdk ttX10_wheel 6 rfl rfl) (Nat.le_refl _) (Nat.le_refl _) ⟨v2, rfl, by omega, s5, f8, u6⟩

abbrev tX10_wheels : List (Nat × Instr × Nat) := [(0, .iload_n 1, 1), (1, .iconst 0, 1), (2, .iconst 2, 1), (3, .invokestatic 77, 3), (6, .ifCond .eq 17, 3), (9, .aload_n 0, 1), (10, .getfield 10, 3), (13, .getfield 263, 3), (16, .iload_n 1, 1), (17, .invokevirtual 273, 3), (20, .goto 6, 3), (23, .ldc_w 276, 3), (26, .ireturn, 1)]
theorem ttX10_wheels : zdt cX10_wheels tX10_wheels = true := by decide +kernel
abbrev w_X10_wheels (a b : Int) : Prop := False
abbrev q_X10_wheels (h : zM) (p1 : Int) : Option zV → zM → Prop := zqi fun v h' => ((-2147483648) ≤ v ∧ v ≤ 2147483647) ∧ okC h' ∧ zfC w_X10_wheels h h'
set_option maxRecDepth 100000 in
set_option maxHeartbeats 4000000 in
theorem s_X10_wheels (l : Launch) (h : zM) (p1 : Int) (s0 : okC h) (b_p1 : (-2147483648) ≤ p1 ∧ p1 ≤ 2147483647) : zT shC l yX10_wheels cX10_wheels 2 (some .int) (rmL 4) 0 0 [.inr 0, .inl p1] h (q_X10_wheels h p1) := by
  refine zT_of (by decide +kernel) (L0 := [some (.inr 0), some (.inl p1)]) rfl (Nat.le_of_ble_eq_true rfl) ?_
  refine zj_iload_n (zdk ttX10_wheels 0 rfl rfl) rfl ?_
  refine zj_iconst (zdk ttX10_wheels 1 rfl rfl) ?_
  refine zj_iconst (zdk ttX10_wheels 2 rfl rfl) ?_
  refine zj_callS (av := [.inl p1, .inl 0, .inl 2]) (st := []) (zdk ttX10_wheels 3 rfl rfl) mb_X10_within ms_RX10_77 rfl rfl (Nat.le_of_ble_eq_true rfl) (s_X10_within l h p1 0 2 s0 (by omega) (by omega) (by omega)) (rm_ok (by decide) (by decide)) (zq_i fun v2 h3 q1 => ?_)
  obtain ⟨rfl, ⟨rfl, b4⟩ | ⟨rfl, b4⟩⟩ := q1
  · refine zj_if_eq (t := 23) (zdk ttX10_wheels 4 rfl rfl) (by decide) (by decide) (fun c5 => ?_) (fun c5 => ?_)
    · refine zj_ldc_w (z := (-10000000)) (zdk ttX10_wheels 11 rfl rfl) wc_RX10_276 ?_
      exact zj_iret rfl (zdk ttX10_wheels 12 rfl rfl) (Nat.le_refl _) (Nat.le_refl _) ⟨(-10000000), rfl, by omega, s0, (zfC_r _ _)⟩
    · exact absurd c5 (by omega)
  · refine zj_if_eq (t := 23) (zdk ttX10_wheels 4 rfl rfl) (by decide) (by decide) (fun c6 => ?_) (fun c6 => ?_)
    · exact absurd c6 (by omega)
    · refine zj_aload_n (zdk ttX10_wheels 5 rfl rfl) rfl (by decide) ?_
      refine zj_getr (r := 1) (zdk ttX10_wheels 6 rfl rfl) zf_RX10_10 rfl (k_L0 s0) (rf_L0_0 s0) ?_
      refine zj_getr (r := 28) (zdk ttX10_wheels 7 rfl rfl) zf_RX10_263 rfl (k_9_0 s0 zWd_1) (rf_9_0_6 s0 zWd_1) ?_
      refine zj_iload_n (zdk ttX10_wheels 8 rfl rfl) rfl ?_
      refine zj_callV (av := [.inl p1]) (st := []) (zdk ttX10_wheels 9 rfl rfl) mb_X5_turnOf mv_RX10_273 (ci := 5) rfl rfl (k_5_0 s0 zPu_28) rfl rfl (Nat.le_of_ble_eq_true rfl) (s_X5_turnOf l h 28 p1 s0 zPu_28 (by omega)) (rm_ok (by decide) (by decide)) (zq_i fun v8 h9 q7 => ?_)
      obtain ⟨rfl, b10⟩ := q7
      refine zj_goto (t := 26) (zdk ttX10_wheels 10 rfl rfl) (by decide) ?_
      exact zj_iret rfl (zdk ttX10_wheels 12 rfl rfl) (Nat.le_refl _) (Nat.le_refl _) ⟨v8, rfl, by omega, s0, (zfC_r _ _)⟩

abbrev tX10_couple : List (Nat × Instr × Nat) := [(0, .aload_n 0, 1), (1, .getfield 10, 3), (4, .getfield 263, 3), (7, .iload_n 1, 1), (8, .iload_n 2, 1), (9, .invokevirtual 277, 3), (12, .ireturn, 1)]
theorem ttX10_couple : zdt cX10_couple tX10_couple = true := by decide +kernel
abbrev w_X10_couple (a b : Int) : Prop := (a = 28 ∧ b = 4) ∨ a = 31
abbrev q_X10_couple (h : zM) (p1 : Int) (p2 : Int) : Option zV → zM → Prop := zqi fun v h' => ((-2147483648) ≤ v ∧ v ≤ 2147483647) ∧ okC h' ∧ zfC w_X10_couple h h' ∧ (zcw (p1 = -1) ((0 ≤ p1 ∧ p1 ≤ 5) ∧ (0 ≤ p2 ∧ p2 ≤ 5) ∧ ¬ p1 = p2) 8 (h.2 28 4) v (h'.2 28 4))
set_option maxRecDepth 100000 in
set_option maxHeartbeats 4000000 in
theorem s_X10_couple (l : Launch) (h : zM) (p1 : Int) (p2 : Int) (s0 : okC h) (b_p1 : (-2147483648) ≤ p1 ∧ p1 ≤ 2147483647) (b_p2 : (-2147483648) ≤ p2 ∧ p2 ≤ 2147483647) : zT shC l yX10_couple cX10_couple 3 (some .int) (rmL 3) 0 0 [.inr 0, .inl p1, .inl p2] h (q_X10_couple h p1 p2) := by
  refine zT_of (by decide +kernel) (L0 := [some (.inr 0), some (.inl p1), some (.inl p2)]) rfl (Nat.le_of_ble_eq_true rfl) ?_
  refine zj_aload_n (zdk ttX10_couple 0 rfl rfl) rfl (by decide) ?_
  refine zj_getr (r := 1) (zdk ttX10_couple 1 rfl rfl) zf_RX10_10 rfl (k_L0 s0) (rf_L0_0 s0) ?_
  refine zj_getr (r := 28) (zdk ttX10_couple 2 rfl rfl) zf_RX10_263 rfl (k_9_0 s0 zWd_1) (rf_9_0_6 s0 zWd_1) ?_
  refine zj_iload_n (zdk ttX10_couple 3 rfl rfl) rfl ?_
  refine zj_iload_n (zdk ttX10_couple 4 rfl rfl) rfl ?_
  refine zj_callV (av := [.inl p1, .inl p2]) (st := []) (zdk ttX10_couple 5 rfl rfl) mb_X5_tellCouple mv_RX10_277 (ci := 5) rfl rfl (k_5_0 s0 zPu_28) rfl rfl (Nat.le_of_ble_eq_true rfl) (s_X5_tellCouple l h 28 p1 p2 s0 zPu_28 (by omega) (by omega)) (rm_ok (by decide) (by decide)) (zq_i fun v2 h3 q1 => ?_)
  obtain ⟨b4, s5, f7, u6⟩ := q1
  have f8 : zfC w_X10_couple h h3 := zfC_t (zfC_r _ _) f7 (fun a9 b9 z9 => by
    rcases z9 with z9 | z9
    · exact (Or.inl z9)
    · exact (Or.inr z9))
  exact zj_iret rfl (zdk ttX10_couple 6 rfl rfl) (Nat.le_refl _) (Nat.le_refl _) ⟨v2, rfl, by omega, s5, f8, u6⟩

abbrev tX10_ferry : List (Nat × Instr × Nat) := [(0, .iload_n 1, 1), (1, .iconst 1, 1), (2, .bipush 6, 2), (4, .invokestatic 77, 3), (7, .ifCond .eq 12, 3), (10, .iload_n 2, 1), (11, .iconst 1, 1), (12, .iconst 3, 1), (13, .invokestatic 77, 3), (16, .ifCond .ne 5, 3), (19, .iconst (-1), 1), (20, .ireturn, 1), (21, .aload_n 0, 1), (22, .getfield 41, 3), (25, .aload_n 0, 1), (26, .getfield 10, 3), (29, .getfield 263, 3), (32, .iload_n 1, 1), (33, .iload_n 2, 1), (34, .invokevirtual 280, 3), (37, .ireturn, 1)]
theorem ttX10_ferry : zdt cX10_ferry tX10_ferry = true := by decide +kernel
abbrev w_X10_ferry (a b : Int) : Prop := (111 ≤ a ∧ a ≤ 112)
abbrev q_X10_ferry (h : zM) (p1 : Int) (p2 : Int) : Option zV → zM → Prop := zqi fun v h' => ((-2147483648) ≤ v ∧ v ≤ 2147483647) ∧ okC h' ∧ zfC w_X10_ferry h h'
set_option maxRecDepth 100000 in
set_option maxHeartbeats 4000000 in
theorem s_X10_ferry (l : Launch) (h : zM) (p1 : Int) (p2 : Int) (s0 : okC h) (b_p1 : (-2147483648) ≤ p1 ∧ p1 ≤ 2147483647) (b_p2 : (-2147483648) ≤ p2 ∧ p2 ≤ 2147483647) : zT shC l yX10_ferry cX10_ferry 3 (some .int) (rmL 3) 0 0 [.inr 0, .inl p1, .inl p2] h (q_X10_ferry h p1 p2) := by
  refine zT_of (by decide +kernel) (L0 := [some (.inr 0), some (.inl p1), some (.inl p2)]) rfl (Nat.le_of_ble_eq_true rfl) ?_
  refine zj_iload_n (zdk ttX10_ferry 0 rfl rfl) rfl ?_
  refine zj_iconst (zdk ttX10_ferry 1 rfl rfl) ?_
  refine zj_bipush (zdk ttX10_ferry 2 rfl rfl) (by decide) ?_
  refine zj_callS (av := [.inl p1, .inl 1, .inl 6]) (st := []) (zdk ttX10_ferry 3 rfl rfl) mb_X10_within ms_RX10_77 rfl rfl (Nat.le_of_ble_eq_true rfl) (s_X10_within l h p1 1 6 s0 (by omega) (by omega) (by omega)) (rm_ok (by decide) (by decide)) (zq_i fun v2 h3 q1 => ?_)
  obtain ⟨rfl, ⟨rfl, b4⟩ | ⟨rfl, b4⟩⟩ := q1
  · refine zj_if_eq (t := 19) (zdk ttX10_ferry 4 rfl rfl) (by decide) (by decide) (fun c5 => ?_) (fun c5 => ?_)
    · refine zj_iconst (zdk ttX10_ferry 10 rfl rfl) ?_
      exact zj_iret rfl (zdk ttX10_ferry 11 rfl rfl) (Nat.le_refl _) (Nat.le_refl _) ⟨(-1), rfl, by omega, s0, (zfC_r _ _)⟩
    · exact absurd c5 (by omega)
  · refine zj_if_eq (t := 19) (zdk ttX10_ferry 4 rfl rfl) (by decide) (by decide) (fun c6 => ?_) (fun c6 => ?_)
    · exact absurd c6 (by omega)
    · refine zj_iload_n (zdk ttX10_ferry 5 rfl rfl) rfl ?_
      refine zj_iconst (zdk ttX10_ferry 6 rfl rfl) ?_
      refine zj_iconst (zdk ttX10_ferry 7 rfl rfl) ?_
      refine zj_callS (av := [.inl p2, .inl 1, .inl 3]) (st := []) (zdk ttX10_ferry 8 rfl rfl) mb_X10_within ms_RX10_77 rfl rfl (Nat.le_of_ble_eq_true rfl) (s_X10_within l h p2 1 3 s0 (by omega) (by omega) (by omega)) (rm_ok (by decide) (by decide)) (zq_i fun v8 h9 q7 => ?_)
      obtain ⟨rfl, ⟨rfl, b10⟩ | ⟨rfl, b10⟩⟩ := q7
      · refine zj_if_ne (t := 21) (zdk ttX10_ferry 9 rfl rfl) (by decide) (by decide) (fun c11 => ?_) (fun c11 => ?_)
        · exact absurd c11 (by omega)
        · refine zj_iconst (zdk ttX10_ferry 10 rfl rfl) ?_
          exact zj_iret rfl (zdk ttX10_ferry 11 rfl rfl) (Nat.le_refl _) (Nat.le_refl _) ⟨(-1), rfl, by omega, s0, (zfC_r _ _)⟩
      · refine zj_if_ne (t := 21) (zdk ttX10_ferry 9 rfl rfl) (by decide) (by decide) (fun c12 => ?_) (fun c12 => ?_)
        · refine zj_aload_n (zdk ttX10_ferry 12 rfl rfl) rfl (by decide) ?_
          refine zj_getr (r := 108) (zdk ttX10_ferry 13 rfl rfl) zf_RX10_41 rfl (k_L0 s0) (rf_L0_5 s0) ?_
          refine zj_aload_n (zdk ttX10_ferry 14 rfl rfl) rfl (by decide) ?_
          refine zj_getr (r := 1) (zdk ttX10_ferry 15 rfl rfl) zf_RX10_10 rfl (k_L0 s0) (rf_L0_0 s0) ?_
          refine zj_getr (r := 28) (zdk ttX10_ferry 16 rfl rfl) zf_RX10_263 rfl (k_9_0 s0 zWd_1) (rf_9_0_6 s0 zWd_1) ?_
          refine zj_iload_n (zdk ttX10_ferry 17 rfl rfl) rfl ?_
          refine zj_iload_n (zdk ttX10_ferry 18 rfl rfl) rfl ?_
          refine zj_callV (av := [.inr 28, .inl p1, .inl p2]) (st := []) (zdk ttX10_ferry 19 rfl rfl) mb_X8_fewestCrossings mv_RX10_280 (ci := 8) rfl rfl (k_L108 s0) rfl rfl (Nat.le_of_ble_eq_true rfl) (s_X8_fewestCrossings l h 28 p1 p2 s0 zPu_28 (by omega) (by omega)) (rm_ok (by decide) (by decide)) (zq_i fun v14 h15 q13 => ?_)
          obtain ⟨b16, s17, f18⟩ := q13
          have f19 : zfC w_X10_ferry h h15 := zfC_t (zfC_r _ _) f18 (fun a9 b9 z9 => by
            exact z9)
          exact zj_iret rfl (zdk ttX10_ferry 20 rfl rfl) (Nat.le_refl _) (Nat.le_refl _) ⟨v14, rfl, by omega, s17, f19⟩
        · exact absurd c12 (by omega)
