abbrev tX7_readLaw : List (Nat × Instr × Nat) := [(0, .aload_n 0, 1), (1, .getfield 9, 3), (4, .ldc 17, 2), (6, .invokevirtual 19, 3), (9, .aload_n 1, 1), (10, .iconst 0, 1), (11, .putfield 25, 3), (14, .aload_n 1, 1), (15, .iconst 0, 1), (16, .putfield 29, 3), (19, .iconst 0, 1), (20, .istore_n 2, 1), (21, .iload_n 2, 1), (22, .bipush 16, 2), (24, .if_icmp .gt 50, 3), (27, .aload_n 0, 1), (28, .getfield 9, 3), (31, .getfield 32, 3), (34, .ifCond .eq 40, 3), (37, .aload_n 0, 1), (38, .getfield 9, 3), (41, .iload_n 2, 1), (42, .iconst 0, 1), (43, .iconst 2, 1), (44, .invokevirtual 35, 3), (47, .ifCond .eq 12, 3), (50, .aload_n 0, 1), (51, .aload_n 1, 1), (52, .iload_n 2, 1), (53, .invokevirtual 39, 3), (56, .ifCond .ne 5, 3), (59, .iconst 0, 1), (60, .ireturn, 1), (61, .aload_n 1, 1), (62, .iload_n 2, 1), (63, .iconst 1, 1), (64, .iadd, 1), (65, .putfield 25, 3), (68, .iinc 2 1, 3), (71, .goto (-50), 3), (74, .iconst 1, 1), (75, .ireturn, 1)]
theorem ttX7_readLaw : zdt cX7_readLaw tX7_readLaw = true := by decide +kernel
abbrev w_X7_readLaw (p1 a b : Int) : Prop := (a = 103 ∧ 4 ≤ b ∧ b ≤ 8) ∨ (105 ≤ a ∧ a ≤ 106) ∨ (a = p1 ∧ 6 ≤ b ∧ b ≤ 7) ∨ (p1 + 1 ≤ a ∧ a ≤ p1 + 5)
abbrev q_X7_readLaw (h : zM) (p1 : Int) : Option zV → zM → Prop := zqi fun v h' => (0 ≤ v ∧ v ≤ 1) ∧ okC h' ∧ zfC (w_X7_readLaw p1) h h'
set_option maxRecDepth 100000 in
set_option maxHeartbeats 4000000 in
theorem s_X7_readLaw (l : Launch) (h : zM) (p1 : Int) (s0 : okC h) (r_p1 : zLw p1) : zT shC l yX7_readLaw cX7_readLaw 3 (some .boolean) (rmL 32) 0 0 [.inr 107, .inr p1] h (q_X7_readLaw h p1) := by
  refine zT_of (by decide +kernel) (L0 := [some (.inr 107), some (.inr p1), none]) rfl (Nat.le_of_ble_eq_true rfl) ?_
  have b1 := zLw_b r_p1
  refine zj_aload_n (zdk ttX7_readLaw 0 rfl rfl) rfl (by decide) ?_
  refine zj_getr (r := 103) (zdk ttX7_readLaw 1 rfl rfl) zf_RX7_9 rfl (k_L107 s0) (rf_L107_0 s0) ?_
  refine zj_ldcS (i := 0) (zdk ttX7_readLaw 2 rfl rfl) (List.mem_of_getElem? (i := 0) rfl) ?_
  refine zj_callV (av := [.inr (-2 - ((0 : Nat) : Int))]) (st := []) (zdk ttX7_readLaw 3 rfl rfl) mb_X6_cut mv_RX7_19 (ci := 6) rfl rfl (k_L103 s0) rfl rfl (Nat.le_of_ble_eq_true rfl) (s_X6_cut l h 0 s0 (show 0 < 5 by decide)) (rm_ok (by decide) (by decide)) (zq_v fun h4 q2 => ?_)
  obtain ⟨s6, f7⟩ := q2
  refine zj_aload_n (zdk ttX7_readLaw 4 rfl rfl) rfl (by omega) ?_
  refine zj_iconst (zdk ttX7_readLaw 5 rfl rfl) ?_
  refine zj_puti (zdk ttX7_readLaw 6 rfl rfl) zf_RX7_25 rfl (k_3_0 s6 r_p1) (Or.inl zw_RX7_25) (k2 := 6) rfl (fun h8 e9 => ?_)
  refine zj_aload_n (zdk ttX7_readLaw 7 rfl rfl) rfl (by omega) ?_
  refine zj_iconst (zdk ttX7_readLaw 8 rfl rfl) ?_
  have s10 : okC h8 := fw_3_0_6 s6 r_p1 e9 (by omega)
  refine zj_puti (zdk ttX7_readLaw 9 rfl rfl) zf_RX7_29 rfl (k_3_0 s10 r_p1) (Or.inl zw_RX7_29) (k2 := 7) rfl (fun h11 e12 => ?_)
  refine zj_iconst (zdk ttX7_readLaw 10 rfl rfl) ?_
  refine zj_istore_n (L' := [some (.inr 107), some (.inr p1), some (.inl 0)]) (zdk ttX7_readLaw 11 rfl rfl) (by decide) rfl ?_
  have lp157 : ∀ (n : Nat) (x13 : Int) (h14 : zM), (0 ≤ x13 ∧ x13 ≤ 17) → okC h14 → zfC (w_X7_readLaw p1) h h14 → (18 - x13).toNat < n → zJ shC l yX7_readLaw cX7_readLaw 3 (some .boolean) (rmL 32) 0 0 (q_X7_readLaw h p1) 0 0 21 [some (.inr 107), some (.inr p1), some (.inl x13)] [] h14 := by
    intro n
    induction n with
    | zero => intro x13 h14 b158 s15 f16 m159; exact absurd m159 (Nat.not_lt_zero _)
    | succ n ih160 =>
      intro x13 h14 b158 s15 f16 m159
      refine zj_iload_n (zdk ttX7_readLaw 12 rfl rfl) rfl ?_
      refine zj_bipush (zdk ttX7_readLaw 13 rfl rfl) (by decide) ?_
      refine zj_icmp_gt (t := 74) (zdk ttX7_readLaw 14 rfl rfl) (by decide) (by omega) (by decide) (fun c161 => ?_) (fun c161 => ?_)
      · refine zj_iconst (zdk ttX7_readLaw 40 rfl rfl) ?_
        exact zj_zret rfl (zdk ttX7_readLaw 41 rfl rfl) (Nat.le_refl _) (Nat.le_refl _) (by omega) ⟨1, rfl, by omega, s15, f16⟩
      · refine zj_aload_n (zdk ttX7_readLaw 15 rfl rfl) rfl (by decide) ?_
        refine zj_getr (r := 103) (zdk ttX7_readLaw 16 rfl rfl) zf_RX7_9 rfl (k_L107 s15) (rf_L107_0 s15) ?_
        have b162 : -2147483648 ≤ (h14.2 103 6) ∧ (h14.2 103 6) ≤ 2147483647 := fb_L103_6 s15
        refine zj_geti (v := (h14.2 103 6)) (zdk ttX7_readLaw 17 rfl rfl) zf_RX7_32 rfl (k_L103 s15) rfl ?_
        refine zj_if_eq (t := 74) (zdk ttX7_readLaw 18 rfl rfl) (by decide) (by omega) (fun c163 => ?_) (fun c163 => ?_)
        · refine zj_iconst (zdk ttX7_readLaw 40 rfl rfl) ?_
          exact zj_zret rfl (zdk ttX7_readLaw 41 rfl rfl) (Nat.le_refl _) (Nat.le_refl _) (by omega) ⟨1, rfl, by omega, s15, f16⟩
        · refine zj_aload_n (zdk ttX7_readLaw 19 rfl rfl) rfl (by decide) ?_
          refine zj_getr (r := 103) (zdk ttX7_readLaw 20 rfl rfl) zf_RX7_9 rfl (k_L107 s15) (rf_L107_0 s15) ?_
          refine zj_iload_n (zdk ttX7_readLaw 21 rfl rfl) rfl ?_
          refine zj_iconst (zdk ttX7_readLaw 22 rfl rfl) ?_
          refine zj_iconst (zdk ttX7_readLaw 23 rfl rfl) ?_
          refine zj_callV (av := [.inl x13, .inl 0, .inl 2]) (st := []) (zdk ttX7_readLaw 24 rfl rfl) mb_X6_opensLine mv_RX7_35 (ci := 6) rfl rfl (k_L103 s15) rfl rfl (Nat.le_of_ble_eq_true rfl) (s_X6_opensLine l h14 x13 0 2 s15 (by omega) (by omega) (by omega)) (rm_ok (by decide) (by decide)) (zq_i fun v165 h166 q164 => ?_)
          obtain ⟨b167, s168, f170, u169⟩ := q164
          refine zj_if_eq (t := 59) (zdk ttX7_readLaw 25 rfl rfl) (by decide) (by omega) (fun c171 => ?_) (fun c171 => ?_)
          · refine zj_iconst (zdk ttX7_readLaw 31 rfl rfl) ?_
            have f172 : zfC (w_X7_readLaw p1) h h166 := zfC_t f16 f170 (fun a9 b9 z9 => by
              exact (Or.inl (by omega)))
            exact zj_zret rfl (zdk ttX7_readLaw 32 rfl rfl) (Nat.le_refl _) (Nat.le_refl _) (by omega) ⟨0, rfl, by omega, s168, f172⟩
          · refine zj_aload_n (zdk ttX7_readLaw 26 rfl rfl) rfl (by decide) ?_
            refine zj_aload_n (zdk ttX7_readLaw 27 rfl rfl) rfl (by omega) ?_
            refine zj_iload_n (zdk ttX7_readLaw 28 rfl rfl) rfl ?_
            refine zj_callV (av := [.inr p1, .inl x13]) (st := []) (zdk ttX7_readLaw 29 rfl rfl) mb_X7_readLawLine mv_RX7_39 (ci := 7) rfl rfl (k_L107 s168) rfl rfl (Nat.le_of_ble_eq_true rfl) (s_X7_readLawLine l h166 p1 x13 s168 r_p1 (by omega)) (rm_ok (by decide) (by decide)) (zq_i fun v174 h175 q173 => ?_)
            obtain ⟨b176, s177, f178⟩ := q173
            refine zj_if_ne (t := 61) (zdk ttX7_readLaw 30 rfl rfl) (by decide) (by omega) (fun c179 => ?_) (fun c179 => ?_)
            · refine zj_aload_n (zdk ttX7_readLaw 33 rfl rfl) rfl (by omega) ?_
              refine zj_iload_n (zdk ttX7_readLaw 34 rfl rfl) rfl ?_
              refine zj_iconst (zdk ttX7_readLaw 35 rfl rfl) ?_
              refine zj_iadd (zdk ttX7_readLaw 36 rfl rfl) ?_
              refine zj_puti (zdk ttX7_readLaw 37 rfl rfl) zf_RX7_25 rfl (k_3_0 s177 r_p1) (Or.inl zw_RX7_25) (k2 := 6) rfl (fun h180 e181 => ?_)
              refine zj_iinc (L' := [some (.inr 107), some (.inr p1), some (.inl (x13 + 1))]) (zdk ttX7_readLaw 38 rfl rfl) rfl (by decide) rfl ?_
              refine zj_goto (t := 21) (zdk ttX7_readLaw 39 rfl rfl) (by decide) ?_
              have s182 : okC h180 := fw_3_0_6 s177 r_p1 e181 (by omega)
              have f185 : zfC (w_X7_readLaw p1) h h166 := zfC_t f16 f170 (fun a9 b9 z9 => by
                exact (Or.inl (by omega)))
              have f184 : zfC (w_X7_readLaw p1) h h175 := zfC_t f185 f178 (fun a9 b9 z9 => by
                rcases z9 with z9 | z9 | z9
                · exact (Or.inl (by omega))
                · exact (Or.inr (Or.inr (Or.inl (by omega))))
                · exact (Or.inr (Or.inr (Or.inr (by omega)))))
              have f183 : zfC (w_X7_readLaw p1) h h180 := zfC_w f184 e181 (Or.inr (Or.inr (Or.inl (by omega))))
              exact ih160  (x13 + 1) h180 (by omega) s182 f183 (by omega)
            · refine zj_iconst (zdk ttX7_readLaw 31 rfl rfl) ?_
              have f187 : zfC (w_X7_readLaw p1) h h166 := zfC_t f16 f170 (fun a9 b9 z9 => by
                exact (Or.inl (by omega)))
              have f186 : zfC (w_X7_readLaw p1) h h175 := zfC_t f187 f178 (fun a9 b9 z9 => by
                rcases z9 with z9 | z9 | z9
                · exact (Or.inl (by omega))
                · exact (Or.inr (Or.inr (Or.inl (by omega))))
                · exact (Or.inr (Or.inr (Or.inr (by omega)))))
              exact zj_zret rfl (zdk ttX7_readLaw 32 rfl rfl) (Nat.le_refl _) (Nat.le_refl _) (by omega) ⟨0, rfl, by omega, s177, f186⟩
  have s188 : okC h11 := fw_3_0_7 s10 r_p1 e12 (by omega)
  have f191 : zfC (w_X7_readLaw p1) h h4 := zfC_t (zfC_r _ _) f7 (fun a9 b9 z9 => by
    rcases z9 with z9 | z9
    · exact (Or.inl (by omega))
    · exact (Or.inr (Or.inl z9)))
  have f190 : zfC (w_X7_readLaw p1) h h8 := zfC_w f191 e9 (Or.inr (Or.inr (Or.inl (by omega))))
  have f189 : zfC (w_X7_readLaw p1) h h11 := zfC_w f190 e12 (Or.inr (Or.inr (Or.inl (by omega))))
  exact lp157 _ 0 h11 (by omega) s188 f189 (Nat.lt_succ_self _)

abbrev tX7_readDay : List (Nat × Instr × Nat) := [(0, .aload_n 0, 1), (1, .getfield 9, 3), (4, .invokevirtual 47, 3), (7, .aload_n 0, 1), (8, .getfield 9, 3), (11, .iconst 0, 1), (12, .sipush 999, 3), (15, .invokevirtual 104, 3), (18, .ifCond .ne 5, 3), (21, .iconst 0, 1), (22, .ireturn, 1), (23, .aload_n 1, 1), (24, .getfield 116, 3), (27, .iload_n 2, 1), (28, .aload_n 0, 1), (29, .getfield 9, 3), (32, .getfield 110, 3), (35, .iastore, 1), (36, .iconst 1, 1), (37, .ireturn, 1)]
theorem ttX7_readDay : zdt cX7_readDay tX7_readDay = true := by decide +kernel
abbrev w_X7_readDay (p1 a b : Int) : Prop := (a = 103 ∧ 5 ≤ b ∧ b ≤ 9) ∨ a = p1 + 1
abbrev q_X7_readDay (h : zM) (p1 : Int) (p2 : Int) : Option zV → zM → Prop := zqi fun v h' => (0 ≤ v ∧ v ≤ 1) ∧ okC h' ∧ zfC (w_X7_readDay p1) h h'
set_option maxRecDepth 100000 in
set_option maxHeartbeats 4000000 in
theorem s_X7_readDay (l : Launch) (h : zM) (p1 : Int) (p2 : Int) (s0 : okC h) (r_p1 : zPl p1) (b_p2 : 0 ≤ p2 ∧ p2 ≤ 15) : zT shC l yX7_readDay cX7_readDay 3 (some .boolean) (rmL 5) 0 0 [.inr 107, .inr p1, .inl p2] h (q_X7_readDay h p1 p2) := by
  refine zT_of (by decide +kernel) (L0 := [some (.inr 107), some (.inr p1), some (.inl p2)]) rfl (Nat.le_of_ble_eq_true rfl) ?_
  have b1 := zPl_b r_p1
  refine zj_aload_n (zdk ttX7_readDay 0 rfl rfl) rfl (by decide) ?_
  refine zj_getr (r := 103) (zdk ttX7_readDay 1 rfl rfl) zf_RX7_9 rfl (k_L107 s0) (rf_L107_0 s0) ?_
  refine zj_callV (av := []) (st := []) (zdk ttX7_readDay 2 rfl rfl) mb_X6_pass mv_RX7_47 (ci := 6) rfl rfl (k_L103 s0) rfl rfl (Nat.le_of_ble_eq_true rfl) (s_X6_pass l h s0) (rm_ok (by decide) (by decide)) (zq_v fun h4 q2 => ?_)
  obtain ⟨s6, f7⟩ := q2
  refine zj_aload_n (zdk ttX7_readDay 3 rfl rfl) rfl (by decide) ?_
  refine zj_getr (r := 103) (zdk ttX7_readDay 4 rfl rfl) zf_RX7_9 rfl (k_L107 s6) (rf_L107_0 s6) ?_
  refine zj_iconst (zdk ttX7_readDay 5 rfl rfl) ?_
  refine zj_sipush (zdk ttX7_readDay 6 rfl rfl) (by decide) ?_
  refine zj_callV (av := [.inl 0, .inl 999]) (st := []) (zdk ttX7_readDay 7 rfl rfl) mb_X6_takesNumber mv_RX7_104 (ci := 6) rfl rfl (k_L103 s6) rfl rfl (Nat.le_of_ble_eq_true rfl) (s_X6_takesNumber l h4 0 999 s6 (by omega) (by omega)) (rm_ok (by decide) (by decide)) (zq_i fun v9 h10 q8 => ?_)
  obtain ⟨b11, s12, f13⟩ := q8
  refine zj_if_ne (t := 23) (zdk ttX7_readDay 8 rfl rfl) (by decide) (by omega) (fun c14 => ?_) (fun c14 => ?_)
  · refine zj_aload_n (zdk ttX7_readDay 11 rfl rfl) rfl (by omega) ?_
    refine zj_getr (r := (p1 + 1)) (zdk ttX7_readDay 12 rfl rfl) zf_RX7_116 rfl (k_4_0 s12 r_p1) (rf_4_0_0 s12 r_p1) ?_
    refine zj_iload_n (zdk ttX7_readDay 13 rfl rfl) rfl ?_
    refine zj_aload_n (zdk ttX7_readDay 14 rfl rfl) rfl (by decide) ?_
    refine zj_getr (r := 103) (zdk ttX7_readDay 15 rfl rfl) zf_RX7_9 rfl (k_L107 s12) (rf_L107_0 s12) ?_
    have b15 : -2147483648 ≤ (h10.2 103 9) ∧ (h10.2 103 9) ≤ 2147483647 := fb_L103_9 s12
    refine zj_geti (v := (h10.2 103 9)) (zdk ttX7_readDay 16 rfl rfl) zf_RX7_110 rfl (k_L103 s12) rfl ?_
    refine zj_iast (zdk ttX7_readDay 17 rfl rfl) (ka_4_0_0 s12 r_p1) (by decide) (by omega) (fun h16 e17 => ?_)
    refine zj_iconst (zdk ttX7_readDay 18 rfl rfl) ?_
    have s18 : okC h16 := aw_4_0_0 s12 r_p1 e17 (by omega)
    have f21 : zfC (w_X7_readDay p1) h h4 := zfC_t (zfC_r _ _) f7 (fun a9 b9 z9 => by
      exact (Or.inl (by omega)))
    have f20 : zfC (w_X7_readDay p1) h h10 := zfC_t f21 f13 (fun a9 b9 z9 => by
      exact (Or.inl z9))
    have f19 : zfC (w_X7_readDay p1) h h16 := zfC_w f20 e17 (Or.inr (by omega))
    exact zj_zret rfl (zdk ttX7_readDay 19 rfl rfl) (Nat.le_refl _) (Nat.le_refl _) (by omega) ⟨1, rfl, by omega, s18, f19⟩
  · refine zj_iconst (zdk ttX7_readDay 9 rfl rfl) ?_
    have f23 : zfC (w_X7_readDay p1) h h4 := zfC_t (zfC_r _ _) f7 (fun a9 b9 z9 => by
      exact (Or.inl (by omega)))
    have f22 : zfC (w_X7_readDay p1) h h10 := zfC_t f23 f13 (fun a9 b9 z9 => by
      exact (Or.inl z9))
    exact zj_zret rfl (zdk ttX7_readDay 10 rfl rfl) (Nat.le_refl _) (Nat.le_refl _) (by omega) ⟨0, rfl, by omega, s12, f22⟩

abbrev tX7_readBoat : List (Nat × Instr × Nat) := [(0, .aload_n 0, 1), (1, .aload_n 1, 1), (2, .iload_n 2, 1), (3, .invokevirtual 101, 3), (6, .ifCond .eq 29, 3), (9, .aload_n 0, 1), (10, .getfield 9, 3), (13, .sipush 201, 3), (16, .invokevirtual 70, 3), (19, .ifCond .eq 16, 3), (22, .aload_n 0, 1), (23, .getfield 9, 3), (26, .iconst 1, 1), (27, .bipush 18, 2), (29, .invokevirtual 104, 3), (32, .ifCond .ne 5, 3), (35, .iconst 0, 1), (36, .ireturn, 1), (37, .aload_n 1, 1), (38, .getfield 107, 3), (41, .iload_n 2, 1), (42, .aload_n 0, 1), (43, .getfield 9, 3), (46, .getfield 110, 3), (49, .iastore, 1), (50, .aload_n 0, 1), (51, .getfield 9, 3), (54, .iconst 2, 1), (55, .iconst 3, 1), (56, .invokevirtual 60, 3), (59, .ifCond .ne 12, 3), (62, .aload_n 0, 1), (63, .getfield 9, 3), (66, .iconst 1, 1), (67, .invokevirtual 81, 3), (70, .ireturn, 1), (71, .aload_n 1, 1), (72, .getfield 113, 3), (75, .iload_n 2, 1), (76, .aload_n 0, 1), (77, .getfield 9, 3), (80, .getfield 32, 3), (83, .sipush 200, 3), (86, .isub, 1), (87, .iastore, 1), (88, .aload_n 0, 1), (89, .getfield 9, 3), (92, .invokevirtual 47, 3), (95, .aload_n 0, 1), (96, .getfield 9, 3), (99, .bipush 59, 2), (101, .invokevirtual 70, 3), (104, .ireturn, 1)]
theorem ttX7_readBoat : zdt cX7_readBoat tX7_readBoat = true := by decide +kernel
abbrev w_X7_readBoat (p1 a b : Int) : Prop := (a = 103 ∧ 5 ≤ b ∧ b ≤ 9) ∨ (p1 + 1 ≤ a ∧ a ≤ p1 + 3)
abbrev q_X7_readBoat (h : zM) (p1 : Int) (p2 : Int) : Option zV → zM → Prop := zqi fun v h' => (0 ≤ v ∧ v ≤ 1) ∧ okC h' ∧ zfC (w_X7_readBoat p1) h h'
set_option maxRecDepth 100000 in
set_option maxHeartbeats 4000000 in
theorem s_X7_readBoat (l : Launch) (h : zM) (p1 : Int) (p2 : Int) (s0 : okC h) (r_p1 : zPl p1) (b_p2 : 0 ≤ p2 ∧ p2 ≤ 15) : zT shC l yX7_readBoat cX7_readBoat 3 (some .boolean) (rmL 6) 0 0 [.inr 107, .inr p1, .inl p2] h (q_X7_readBoat h p1 p2) := by
  refine zT_of (by decide +kernel) (L0 := [some (.inr 107), some (.inr p1), some (.inl p2)]) rfl (Nat.le_of_ble_eq_true rfl) ?_
  have b1 := zPl_b r_p1
  refine zj_aload_n (zdk ttX7_readBoat 0 rfl rfl) rfl (by decide) ?_
  refine zj_aload_n (zdk ttX7_readBoat 1 rfl rfl) rfl (by omega) ?_
  refine zj_iload_n (zdk ttX7_readBoat 2 rfl rfl) rfl ?_
  refine zj_callV (av := [.inr p1, .inl p2]) (st := []) (zdk ttX7_readBoat 3 rfl rfl) mb_X7_readDay mv_RX7_101 (ci := 7) rfl rfl (k_L107 s0) rfl rfl (Nat.le_of_ble_eq_true rfl) (s_X7_readDay l h p1 p2 s0 r_p1 (by omega)) (rm_ok (by decide) (by decide)) (zq_i fun v3 h4 q2 => ?_)
  obtain ⟨b5, s6, f7⟩ := q2
  refine zj_if_eq (t := 35) (zdk ttX7_readBoat 4 rfl rfl) (by decide) (by omega) (fun c8 => ?_) (fun c8 => ?_)
  · refine zj_iconst (zdk ttX7_readBoat 16 rfl rfl) ?_
    have f9 : zfC (w_X7_readBoat p1) h h4 := zfC_t (zfC_r _ _) f7 (fun a9 b9 z9 => by
      rcases z9 with z9 | z9
      · exact (Or.inl z9)
      · exact (Or.inr (by omega)))
    exact zj_zret rfl (zdk ttX7_readBoat 17 rfl rfl) (Nat.le_refl _) (Nat.le_refl _) (by omega) ⟨0, rfl, by omega, s6, f9⟩
  · refine zj_aload_n (zdk ttX7_readBoat 5 rfl rfl) rfl (by decide) ?_
    refine zj_getr (r := 103) (zdk ttX7_readBoat 6 rfl rfl) zf_RX7_9 rfl (k_L107 s6) (rf_L107_0 s6) ?_
    refine zj_sipush (zdk ttX7_readBoat 7 rfl rfl) (by decide) ?_
    refine zj_callV (av := [.inl 201]) (st := []) (zdk ttX7_readBoat 8 rfl rfl) mb_X6_takes mv_RX7_70 (ci := 6) rfl rfl (k_L103 s6) rfl rfl (Nat.le_of_ble_eq_true rfl) (s_X6_takes l h4 201 s6 (by omega)) (rm_ok (by decide) (by decide)) (zq_i fun v11 h12 q10 => ?_)
    obtain ⟨b13, s14, f15⟩ := q10
    refine zj_if_eq (t := 35) (zdk ttX7_readBoat 9 rfl rfl) (by decide) (by omega) (fun c16 => ?_) (fun c16 => ?_)
    · refine zj_iconst (zdk ttX7_readBoat 16 rfl rfl) ?_
      have f18 : zfC (w_X7_readBoat p1) h h4 := zfC_t (zfC_r _ _) f7 (fun a9 b9 z9 => by
        rcases z9 with z9 | z9
        · exact (Or.inl z9)
        · exact (Or.inr (by omega)))
      have f17 : zfC (w_X7_readBoat p1) h h12 := zfC_t f18 f15 (fun a9 b9 z9 => by
        exact (Or.inl (by omega)))
      exact zj_zret rfl (zdk ttX7_readBoat 17 rfl rfl) (Nat.le_refl _) (Nat.le_refl _) (by omega) ⟨0, rfl, by omega, s14, f17⟩
    · refine zj_aload_n (zdk ttX7_readBoat 10 rfl rfl) rfl (by decide) ?_
      refine zj_getr (r := 103) (zdk ttX7_readBoat 11 rfl rfl) zf_RX7_9 rfl (k_L107 s14) (rf_L107_0 s14) ?_
      refine zj_iconst (zdk ttX7_readBoat 12 rfl rfl) ?_
      refine zj_bipush (zdk ttX7_readBoat 13 rfl rfl) (by decide) ?_
      refine zj_callV (av := [.inl 1, .inl 18]) (st := []) (zdk ttX7_readBoat 14 rfl rfl) mb_X6_takesNumber mv_RX7_104 (ci := 6) rfl rfl (k_L103 s14) rfl rfl (Nat.le_of_ble_eq_true rfl) (s_X6_takesNumber l h12 1 18 s14 (by omega) (by omega)) (rm_ok (by decide) (by decide)) (zq_i fun v20 h21 q19 => ?_)
      obtain ⟨b22, s23, f24⟩ := q19
      refine zj_if_ne (t := 37) (zdk ttX7_readBoat 15 rfl rfl) (by decide) (by omega) (fun c25 => ?_) (fun c25 => ?_)
      · refine zj_aload_n (zdk ttX7_readBoat 18 rfl rfl) rfl (by omega) ?_
        refine zj_getr (r := (p1 + 3)) (zdk ttX7_readBoat 19 rfl rfl) zf_RX7_107 rfl (k_4_0 s23 r_p1) (rf_4_0_2 s23 r_p1) ?_
        refine zj_iload_n (zdk ttX7_readBoat 20 rfl rfl) rfl ?_
        refine zj_aload_n (zdk ttX7_readBoat 21 rfl rfl) rfl (by decide) ?_
        refine zj_getr (r := 103) (zdk ttX7_readBoat 22 rfl rfl) zf_RX7_9 rfl (k_L107 s23) (rf_L107_0 s23) ?_
        have b26 : -2147483648 ≤ (h21.2 103 9) ∧ (h21.2 103 9) ≤ 2147483647 := fb_L103_9 s23
        refine zj_geti (v := (h21.2 103 9)) (zdk ttX7_readBoat 23 rfl rfl) zf_RX7_110 rfl (k_L103 s23) rfl ?_
        refine zj_iast (zdk ttX7_readBoat 24 rfl rfl) (ka_4_0_2 s23 r_p1) (by decide) (by omega) (fun h27 e28 => ?_)
        refine zj_aload_n (zdk ttX7_readBoat 25 rfl rfl) rfl (by decide) ?_
        have s29 : okC h27 := aw_4_0_2 s23 r_p1 e28 (by omega)
        refine zj_getr (r := 103) (zdk ttX7_readBoat 26 rfl rfl) zf_RX7_9 rfl (k_L107 s29) (rf_L107_0 s29) ?_
        refine zj_iconst (zdk ttX7_readBoat 27 rfl rfl) ?_
        refine zj_iconst (zdk ttX7_readBoat 28 rfl rfl) ?_
        refine zj_callV (av := [.inl 2, .inl 3]) (st := []) (zdk ttX7_readBoat 29 rfl rfl) mb_X6_isWord mv_RX7_60 (ci := 6) rfl rfl (k_L103 s29) rfl rfl (Nat.le_of_ble_eq_true rfl) (s_X6_isWord l h27 2 3 s29 (by omega) (by omega)) (rm_ok (by decide) (by decide)) (zq_i fun v31 h32 q30 => ?_)
        obtain ⟨rfl, b34, ⟨rfl, b33⟩ | ⟨rfl, b33⟩⟩ := q30
        · refine zj_if_ne (t := 71) (zdk ttX7_readBoat 30 rfl rfl) (by decide) (by decide) (fun c35 => ?_) (fun c35 => ?_)
          · exact absurd c35 (by omega)
          · refine zj_aload_n (zdk ttX7_readBoat 31 rfl rfl) rfl (by decide) ?_
            refine zj_getr (r := 103) (zdk ttX7_readBoat 32 rfl rfl) zf_RX7_9 rfl (k_L107 s29) (rf_L107_0 s29) ?_
            refine zj_iconst (zdk ttX7_readBoat 33 rfl rfl) ?_
            refine zj_callV (av := [.inl 1]) (st := []) (zdk ttX7_readBoat 34 rfl rfl) mb_X6_refuse mv_RX7_81 (ci := 6) rfl rfl (k_L103 s29) rfl rfl (Nat.le_of_ble_eq_true rfl) (s_X6_refuse l h27 1 s29 (by omega)) (rm_ok (by decide) (by decide)) (zq_i fun v37 h38 q36 => ?_)
            obtain ⟨b39, s40, f41⟩ := q36
            have f46 : zfC (w_X7_readBoat p1) h h4 := zfC_t (zfC_r _ _) f7 (fun a9 b9 z9 => by
              rcases z9 with z9 | z9
              · exact (Or.inl z9)
              · exact (Or.inr (by omega)))
            have f45 : zfC (w_X7_readBoat p1) h h12 := zfC_t f46 f15 (fun a9 b9 z9 => by
              exact (Or.inl (by omega)))
            have f44 : zfC (w_X7_readBoat p1) h h21 := zfC_t f45 f24 (fun a9 b9 z9 => by
              exact (Or.inl z9))
            have f43 : zfC (w_X7_readBoat p1) h h27 := zfC_w f44 e28 (Or.inr (by omega))
            have f42 : zfC (w_X7_readBoat p1) h h38 := zfC_t f43 f41 (fun a9 b9 z9 => by
              exact (Or.inl (by omega)))
            exact zj_zret rfl (zdk ttX7_readBoat 35 rfl rfl) (Nat.le_refl _) (Nat.le_refl _) (by omega) ⟨v37, rfl, by omega, s40, f42⟩
        · refine zj_if_ne (t := 71) (zdk ttX7_readBoat 30 rfl rfl) (by decide) (by decide) (fun c47 => ?_) (fun c47 => ?_)
          · refine zj_aload_n (zdk ttX7_readBoat 36 rfl rfl) rfl (by omega) ?_
            refine zj_getr (r := (p1 + 2)) (zdk ttX7_readBoat 37 rfl rfl) zf_RX7_113 rfl (k_4_0 s29 r_p1) (rf_4_0_1 s29 r_p1) ?_
            refine zj_iload_n (zdk ttX7_readBoat 38 rfl rfl) rfl ?_
            refine zj_aload_n (zdk ttX7_readBoat 39 rfl rfl) rfl (by decide) ?_
            refine zj_getr (r := 103) (zdk ttX7_readBoat 40 rfl rfl) zf_RX7_9 rfl (k_L107 s29) (rf_L107_0 s29) ?_
            have b48 : -2147483648 ≤ (h21.2 103 6) ∧ (h21.2 103 6) ≤ 2147483647 := fb_L103_6 s23
            refine zj_geti (v := (h21.2 103 6)) (zdk ttX7_readBoat 41 rfl rfl) zf_RX7_32 rfl (k_L103 s29) (zwr_r e28 (by first | decide | exact (absurd ·.1 (by decide)) | exact (absurd ·.2 (by decide)) | omega)) ?_
            refine zj_sipush (zdk ttX7_readBoat 42 rfl rfl) (by decide) ?_
            refine zj_isub (zdk ttX7_readBoat 43 rfl rfl) ?_
            refine zj_wrap ?_
            have b49 := zwp_in ((h21.2 103 6) - 200)
            refine zj_iast (zdk ttX7_readBoat 44 rfl rfl) (ka_4_0_1 s29 r_p1) (by decide) (by omega) (fun h50 e51 => ?_)
            refine zj_aload_n (zdk ttX7_readBoat 45 rfl rfl) rfl (by decide) ?_
            have s52 : okC h50 := aw_4_0_1 s29 r_p1 e51 (by omega)
            refine zj_getr (r := 103) (zdk ttX7_readBoat 46 rfl rfl) zf_RX7_9 rfl (k_L107 s52) (rf_L107_0 s52) ?_
            refine zj_callV (av := []) (st := []) (zdk ttX7_readBoat 47 rfl rfl) mb_X6_pass mv_RX7_47 (ci := 6) rfl rfl (k_L103 s52) rfl rfl (Nat.le_of_ble_eq_true rfl) (s_X6_pass l h50 s52) (rm_ok (by decide) (by decide)) (zq_v fun h55 q53 => ?_)
            obtain ⟨s57, f58⟩ := q53
            refine zj_aload_n (zdk ttX7_readBoat 48 rfl rfl) rfl (by decide) ?_
            refine zj_getr (r := 103) (zdk ttX7_readBoat 49 rfl rfl) zf_RX7_9 rfl (k_L107 s57) (rf_L107_0 s57) ?_
            refine zj_bipush (zdk ttX7_readBoat 50 rfl rfl) (by decide) ?_
            refine zj_callV (av := [.inl 59]) (st := []) (zdk ttX7_readBoat 51 rfl rfl) mb_X6_takes mv_RX7_70 (ci := 6) rfl rfl (k_L103 s57) rfl rfl (Nat.le_of_ble_eq_true rfl) (s_X6_takes l h55 59 s57 (by omega)) (rm_ok (by decide) (by decide)) (zq_i fun v60 h61 q59 => ?_)
            obtain ⟨b62, s63, f64⟩ := q59
            have f71 : zfC (w_X7_readBoat p1) h h4 := zfC_t (zfC_r _ _) f7 (fun a9 b9 z9 => by
              rcases z9 with z9 | z9
              · exact (Or.inl z9)
              · exact (Or.inr (by omega)))
            have f70 : zfC (w_X7_readBoat p1) h h12 := zfC_t f71 f15 (fun a9 b9 z9 => by
              exact (Or.inl (by omega)))
            have f69 : zfC (w_X7_readBoat p1) h h21 := zfC_t f70 f24 (fun a9 b9 z9 => by
              exact (Or.inl z9))
            have f68 : zfC (w_X7_readBoat p1) h h27 := zfC_w f69 e28 (Or.inr (by omega))
            have f67 : zfC (w_X7_readBoat p1) h h50 := zfC_w f68 e51 (Or.inr (by omega))
            have f66 : zfC (w_X7_readBoat p1) h h55 := zfC_t f67 f58 (fun a9 b9 z9 => by
              exact (Or.inl (by omega)))
            have f65 : zfC (w_X7_readBoat p1) h h61 := zfC_t f66 f64 (fun a9 b9 z9 => by
              exact (Or.inl (by omega)))
            exact zj_zret rfl (zdk ttX7_readBoat 52 rfl rfl) (Nat.le_refl _) (Nat.le_refl _) (by omega) ⟨v60, rfl, by omega, s63, f65⟩
          · exact absurd c47 (by omega)
      · refine zj_iconst (zdk ttX7_readBoat 16 rfl rfl) ?_
        have f74 : zfC (w_X7_readBoat p1) h h4 := zfC_t (zfC_r _ _) f7 (fun a9 b9 z9 => by
          rcases z9 with z9 | z9
          · exact (Or.inl z9)
          · exact (Or.inr (by omega)))
        have f73 : zfC (w_X7_readBoat p1) h h12 := zfC_t f74 f15 (fun a9 b9 z9 => by
          exact (Or.inl (by omega)))
        have f72 : zfC (w_X7_readBoat p1) h h21 := zfC_t f73 f24 (fun a9 b9 z9 => by
          exact (Or.inl z9))
        exact zj_zret rfl (zdk ttX7_readBoat 17 rfl rfl) (Nat.le_refl _) (Nat.le_refl _) (by omega) ⟨0, rfl, by omega, s23, f72⟩

abbrev tX7_readBoats : List (Nat × Instr × Nat) := [(0, .aload_n 0, 1), (1, .getfield 9, 3), (4, .ldc 94, 2), (6, .invokevirtual 19, 3), (9, .aload_n 1, 1), (10, .iconst 0, 1), (11, .putfield 96, 3), (14, .iconst 0, 1), (15, .istore_n 2, 1), (16, .iload_n 2, 1), (17, .bipush 16, 2), (19, .if_icmp .gt 50, 3), (22, .aload_n 0, 1), (23, .getfield 9, 3), (26, .getfield 32, 3), (29, .ifCond .eq 40, 3), (32, .aload_n 0, 1), (33, .getfield 9, 3), (36, .iload_n 2, 1), (37, .iconst 0, 1), (38, .iconst 0, 1), (39, .invokevirtual 35, 3), (42, .ifCond .eq 12, 3), (45, .aload_n 0, 1), (46, .aload_n 1, 1), (47, .iload_n 2, 1), (48, .invokevirtual 97, 3), (51, .ifCond .ne 5, 3), (54, .iconst 0, 1), (55, .ireturn, 1), (56, .aload_n 1, 1), (57, .iload_n 2, 1), (58, .iconst 1, 1), (59, .iadd, 1), (60, .putfield 96, 3), (63, .iinc 2 1, 3), (66, .goto (-50), 3), (69, .iconst 1, 1), (70, .ireturn, 1)]
theorem ttX7_readBoats : zdt cX7_readBoats tX7_readBoats = true := by decide +kernel
abbrev w_X7_readBoats (p1 a b : Int) : Prop := (a = 103 ∧ 4 ≤ b ∧ b ≤ 9) ∨ (105 ≤ a ∧ a ≤ 106) ∨ (a = p1 ∧ b = 3) ∨ (p1 + 1 ≤ a ∧ a ≤ p1 + 3)
abbrev q_X7_readBoats (h : zM) (p1 : Int) : Option zV → zM → Prop := zqi fun v h' => (0 ≤ v ∧ v ≤ 1) ∧ okC h' ∧ zfC (w_X7_readBoats p1) h h'
set_option maxRecDepth 100000 in
set_option maxHeartbeats 4000000 in
theorem s_X7_readBoats (l : Launch) (h : zM) (p1 : Int) (s0 : okC h) (r_p1 : zPl p1) : zT shC l yX7_readBoats cX7_readBoats 3 (some .boolean) (rmL 9) 0 0 [.inr 107, .inr p1] h (q_X7_readBoats h p1) := by
  refine zT_of (by decide +kernel) (L0 := [some (.inr 107), some (.inr p1), none]) rfl (Nat.le_of_ble_eq_true rfl) ?_
  have b1 := zPl_b r_p1
  refine zj_aload_n (zdk ttX7_readBoats 0 rfl rfl) rfl (by decide) ?_
  refine zj_getr (r := 103) (zdk ttX7_readBoats 1 rfl rfl) zf_RX7_9 rfl (k_L107 s0) (rf_L107_0 s0) ?_
  refine zj_ldcS (i := 2) (zdk ttX7_readBoats 2 rfl rfl) (List.mem_of_getElem? (i := 2) rfl) ?_
  refine zj_callV (av := [.inr (-2 - ((2 : Nat) : Int))]) (st := []) (zdk ttX7_readBoats 3 rfl rfl) mb_X6_cut mv_RX7_19 (ci := 6) rfl rfl (k_L103 s0) rfl rfl (Nat.le_of_ble_eq_true rfl) (s_X6_cut l h 2 s0 (show 2 < 5 by decide)) (rm_ok (by decide) (by decide)) (zq_v fun h4 q2 => ?_)
  obtain ⟨s6, f7⟩ := q2
  refine zj_aload_n (zdk ttX7_readBoats 4 rfl rfl) rfl (by omega) ?_
  refine zj_iconst (zdk ttX7_readBoats 5 rfl rfl) ?_
  refine zj_puti (zdk ttX7_readBoats 6 rfl rfl) zf_RX7_96 rfl (k_4_0 s6 r_p1) (Or.inl zw_RX7_96) (k2 := 3) rfl (fun h8 e9 => ?_)
  refine zj_iconst (zdk ttX7_readBoats 7 rfl rfl) ?_
  refine zj_istore_n (L' := [some (.inr 107), some (.inr p1), some (.inl 0)]) (zdk ttX7_readBoats 8 rfl rfl) (by decide) rfl ?_
  have lp134 : ∀ (n : Nat) (x10 : Int) (h11 : zM), (0 ≤ x10 ∧ x10 ≤ 17) → okC h11 → zfC (w_X7_readBoats p1) h h11 → (18 - x10).toNat < n → zJ shC l yX7_readBoats cX7_readBoats 3 (some .boolean) (rmL 9) 0 0 (q_X7_readBoats h p1) 0 0 16 [some (.inr 107), some (.inr p1), some (.inl x10)] [] h11 := by
    intro n
    induction n with
    | zero => intro x10 h11 b135 s12 f13 m136; exact absurd m136 (Nat.not_lt_zero _)
    | succ n ih137 =>
      intro x10 h11 b135 s12 f13 m136
      refine zj_iload_n (zdk ttX7_readBoats 9 rfl rfl) rfl ?_
      refine zj_bipush (zdk ttX7_readBoats 10 rfl rfl) (by decide) ?_
      refine zj_icmp_gt (t := 69) (zdk ttX7_readBoats 11 rfl rfl) (by decide) (by omega) (by decide) (fun c138 => ?_) (fun c138 => ?_)
      · refine zj_iconst (zdk ttX7_readBoats 37 rfl rfl) ?_
        exact zj_zret rfl (zdk ttX7_readBoats 38 rfl rfl) (Nat.le_refl _) (Nat.le_refl _) (by omega) ⟨1, rfl, by omega, s12, f13⟩
      · refine zj_aload_n (zdk ttX7_readBoats 12 rfl rfl) rfl (by decide) ?_
        refine zj_getr (r := 103) (zdk ttX7_readBoats 13 rfl rfl) zf_RX7_9 rfl (k_L107 s12) (rf_L107_0 s12) ?_
        have b139 : -2147483648 ≤ (h11.2 103 6) ∧ (h11.2 103 6) ≤ 2147483647 := fb_L103_6 s12
        refine zj_geti (v := (h11.2 103 6)) (zdk ttX7_readBoats 14 rfl rfl) zf_RX7_32 rfl (k_L103 s12) rfl ?_
        refine zj_if_eq (t := 69) (zdk ttX7_readBoats 15 rfl rfl) (by decide) (by omega) (fun c140 => ?_) (fun c140 => ?_)
        · refine zj_iconst (zdk ttX7_readBoats 37 rfl rfl) ?_
          exact zj_zret rfl (zdk ttX7_readBoats 38 rfl rfl) (Nat.le_refl _) (Nat.le_refl _) (by omega) ⟨1, rfl, by omega, s12, f13⟩
        · refine zj_aload_n (zdk ttX7_readBoats 16 rfl rfl) rfl (by decide) ?_
          refine zj_getr (r := 103) (zdk ttX7_readBoats 17 rfl rfl) zf_RX7_9 rfl (k_L107 s12) (rf_L107_0 s12) ?_
          refine zj_iload_n (zdk ttX7_readBoats 18 rfl rfl) rfl ?_
          refine zj_iconst (zdk ttX7_readBoats 19 rfl rfl) ?_
          refine zj_iconst (zdk ttX7_readBoats 20 rfl rfl) ?_
          refine zj_callV (av := [.inl x10, .inl 0, .inl 0]) (st := []) (zdk ttX7_readBoats 21 rfl rfl) mb_X6_opensLine mv_RX7_35 (ci := 6) rfl rfl (k_L103 s12) rfl rfl (Nat.le_of_ble_eq_true rfl) (s_X6_opensLine l h11 x10 0 0 s12 (by omega) (by omega) (by omega)) (rm_ok (by decide) (by decide)) (zq_i fun v142 h143 q141 => ?_)
          obtain ⟨b144, s145, f147, u146⟩ := q141
          refine zj_if_eq (t := 54) (zdk ttX7_readBoats 22 rfl rfl) (by decide) (by omega) (fun c148 => ?_) (fun c148 => ?_)
          · refine zj_iconst (zdk ttX7_readBoats 28 rfl rfl) ?_
            have f149 : zfC (w_X7_readBoats p1) h h143 := zfC_t f13 f147 (fun a9 b9 z9 => by
              exact (Or.inl (by omega)))
            exact zj_zret rfl (zdk ttX7_readBoats 29 rfl rfl) (Nat.le_refl _) (Nat.le_refl _) (by omega) ⟨0, rfl, by omega, s145, f149⟩
          · refine zj_aload_n (zdk ttX7_readBoats 23 rfl rfl) rfl (by decide) ?_
            refine zj_aload_n (zdk ttX7_readBoats 24 rfl rfl) rfl (by omega) ?_
            refine zj_iload_n (zdk ttX7_readBoats 25 rfl rfl) rfl ?_
            refine zj_callV (av := [.inr p1, .inl x10]) (st := []) (zdk ttX7_readBoats 26 rfl rfl) mb_X7_readBoat mv_RX7_97 (ci := 7) rfl rfl (k_L107 s145) rfl rfl (Nat.le_of_ble_eq_true rfl) (s_X7_readBoat l h143 p1 x10 s145 r_p1 (by omega)) (rm_ok (by decide) (by decide)) (zq_i fun v151 h152 q150 => ?_)
            obtain ⟨b153, s154, f155⟩ := q150
            refine zj_if_ne (t := 56) (zdk ttX7_readBoats 27 rfl rfl) (by decide) (by omega) (fun c156 => ?_) (fun c156 => ?_)
            · refine zj_aload_n (zdk ttX7_readBoats 30 rfl rfl) rfl (by omega) ?_
              refine zj_iload_n (zdk ttX7_readBoats 31 rfl rfl) rfl ?_
              refine zj_iconst (zdk ttX7_readBoats 32 rfl rfl) ?_
              refine zj_iadd (zdk ttX7_readBoats 33 rfl rfl) ?_
              refine zj_puti (zdk ttX7_readBoats 34 rfl rfl) zf_RX7_96 rfl (k_4_0 s154 r_p1) (Or.inl zw_RX7_96) (k2 := 3) rfl (fun h157 e158 => ?_)
              refine zj_iinc (L' := [some (.inr 107), some (.inr p1), some (.inl (x10 + 1))]) (zdk ttX7_readBoats 35 rfl rfl) rfl (by decide) rfl ?_
              refine zj_goto (t := 16) (zdk ttX7_readBoats 36 rfl rfl) (by decide) ?_
              have s159 : okC h157 := fw_4_0_3 s154 r_p1 e158 (by omega)
              have f162 : zfC (w_X7_readBoats p1) h h143 := zfC_t f13 f147 (fun a9 b9 z9 => by
                exact (Or.inl (by omega)))
              have f161 : zfC (w_X7_readBoats p1) h h152 := zfC_t f162 f155 (fun a9 b9 z9 => by
                rcases z9 with z9 | z9
                · exact (Or.inl (by omega))
                · exact (Or.inr (Or.inr (Or.inr (by omega)))))
              have f160 : zfC (w_X7_readBoats p1) h h157 := zfC_w f161 e158 (Or.inr (Or.inr (Or.inl (by omega))))
              exact ih137  (x10 + 1) h157 (by omega) s159 f160 (by omega)
            · refine zj_iconst (zdk ttX7_readBoats 28 rfl rfl) ?_
              have f164 : zfC (w_X7_readBoats p1) h h143 := zfC_t f13 f147 (fun a9 b9 z9 => by
                exact (Or.inl (by omega)))
              have f163 : zfC (w_X7_readBoats p1) h h152 := zfC_t f164 f155 (fun a9 b9 z9 => by
                rcases z9 with z9 | z9
                · exact (Or.inl (by omega))
                · exact (Or.inr (Or.inr (Or.inr (by omega)))))
              exact zj_zret rfl (zdk ttX7_readBoats 29 rfl rfl) (Nat.le_refl _) (Nat.le_refl _) (by omega) ⟨0, rfl, by omega, s154, f163⟩
  have s165 : okC h8 := fw_4_0_3 s6 r_p1 e9 (by omega)
  have f167 : zfC (w_X7_readBoats p1) h h4 := zfC_t (zfC_r _ _) f7 (fun a9 b9 z9 => by
    rcases z9 with z9 | z9
    · exact (Or.inl (by omega))
    · exact (Or.inr (Or.inl z9)))
  have f166 : zfC (w_X7_readBoats p1) h h8 := zfC_w f167 e9 (Or.inr (Or.inr (Or.inl (by omega))))
  exact lp134 _ 0 h8 (by omega) s165 f166 (Nat.lt_succ_self _)

abbrev tX7_readAmount : List (Nat × Instr × Nat) := [(0, .iload_n 1, 1), (1, .lookupswitch 50 #[(5, 27), (6, 38)], 27), (28, .aload_n 0, 1), (29, .getfield 9, 3), (32, .iconst 1, 1), (33, .bipush 99, 2), (35, .invokevirtual 104, 3), (38, .ireturn, 1), (39, .aload_n 0, 1), (40, .getfield 9, 3), (43, .iconst 1, 1), (44, .sipush 719, 3), (47, .invokevirtual 104, 3), (50, .ireturn, 1), (51, .aload_n 0, 1), (52, .getfield 9, 3), (55, .iconst 0, 1), (56, .iload_n 2, 1), (57, .iconst 1, 1), (58, .isub, 1), (59, .invokevirtual 104, 3), (62, .ireturn, 1)]
theorem ttX7_readAmount : zdt cX7_readAmount tX7_readAmount = true := by decide +kernel
abbrev w_X7_readAmount (a b : Int) : Prop := (a = 103 ∧ 5 ≤ b ∧ b ≤ 9)
abbrev q_X7_readAmount (h : zM) (p1 : Int) (p2 : Int) : Option zV → zM → Prop := zqi fun v h' => (0 ≤ v ∧ v ≤ 1) ∧ okC h' ∧ zfC w_X7_readAmount h h'
set_option maxRecDepth 100000 in
set_option maxHeartbeats 4000000 in
theorem s_X7_readAmount (l : Launch) (h : zM) (p1 : Int) (p2 : Int) (s0 : okC h) (b_p1 : (-2147483648) ≤ p1 ∧ p1 ≤ 2147483647) (b_p2 : (-2147483648) ≤ p2 ∧ p2 ≤ 2147483647) : zT shC l yX7_readAmount cX7_readAmount 3 (some .boolean) (rmL 5) 0 0 [.inr 107, .inl p1, .inl p2] h (q_X7_readAmount h p1 p2) := by
  refine zT_of (by decide +kernel) (L0 := [some (.inr 107), some (.inl p1), some (.inl p2)]) rfl (Nat.le_of_ble_eq_true rfl) ?_
  refine zj_iload_n (zdk ttX7_readAmount 0 rfl rfl) rfl ?_
  have k2 : (¬ p1 = 5 ∧ ¬ p1 = 6) → zJ shC l yX7_readAmount cX7_readAmount 3 (some .boolean) (rmL 5) 0 0 (q_X7_readAmount h p1 p2) 0 0 51 [some (.inr 107), some (.inl p1), some (.inl p2)] [] h := by
    intro c1
    refine zj_aload_n (zdk ttX7_readAmount 14 rfl rfl) rfl (by decide) ?_
    refine zj_getr (r := 103) (zdk ttX7_readAmount 15 rfl rfl) zf_RX7_9 rfl (k_L107 s0) (rf_L107_0 s0) ?_
    refine zj_iconst (zdk ttX7_readAmount 16 rfl rfl) ?_
    refine zj_iload_n (zdk ttX7_readAmount 17 rfl rfl) rfl ?_
    refine zj_iconst (zdk ttX7_readAmount 18 rfl rfl) ?_
    refine zj_isub (zdk ttX7_readAmount 19 rfl rfl) ?_
    refine zj_wrap ?_
    have b3 := zwp_in (p2 - 1)
    refine zj_callV (av := [.inl 0, .inl (zwp (p2 - 1))]) (st := []) (zdk ttX7_readAmount 20 rfl rfl) mb_X6_takesNumber mv_RX7_104 (ci := 6) rfl rfl (k_L103 s0) rfl rfl (Nat.le_of_ble_eq_true rfl) (s_X6_takesNumber l h 0 (zwp (p2 - 1)) s0 (by omega) (by omega)) (rm_ok (by decide) (by decide)) (zq_i fun v5 h6 q4 => ?_)
    obtain ⟨b7, s8, f9⟩ := q4
    have f10 : zfC w_X7_readAmount h h6 := zfC_t (zfC_r _ _) f9 (fun a9 b9 z9 => by
      exact z9)
    exact zj_zret rfl (zdk ttX7_readAmount 21 rfl rfl) (Nat.le_refl _) (Nat.le_refl _) (by omega) ⟨v5, rfl, by omega, s8, f10⟩
  have k11 : p1 = 5 → zJ shC l yX7_readAmount cX7_readAmount 3 (some .boolean) (rmL 5) 0 0 (q_X7_readAmount h p1 p2) 0 0 28 [some (.inr 107), some (.inl p1), some (.inl p2)] [] h := by
    intro c1
    refine zj_aload_n (zdk ttX7_readAmount 2 rfl rfl) rfl (by decide) ?_
    refine zj_getr (r := 103) (zdk ttX7_readAmount 3 rfl rfl) zf_RX7_9 rfl (k_L107 s0) (rf_L107_0 s0) ?_
    refine zj_iconst (zdk ttX7_readAmount 4 rfl rfl) ?_
    refine zj_bipush (zdk ttX7_readAmount 5 rfl rfl) (by decide) ?_
    refine zj_callV (av := [.inl 1, .inl 99]) (st := []) (zdk ttX7_readAmount 6 rfl rfl) mb_X6_takesNumber mv_RX7_104 (ci := 6) rfl rfl (k_L103 s0) rfl rfl (Nat.le_of_ble_eq_true rfl) (s_X6_takesNumber l h 1 99 s0 (by omega) (by omega)) (rm_ok (by decide) (by decide)) (zq_i fun v13 h14 q12 => ?_)
    obtain ⟨b15, s16, f17⟩ := q12
    have f18 : zfC w_X7_readAmount h h14 := zfC_t (zfC_r _ _) f17 (fun a9 b9 z9 => by
      exact z9)
    exact zj_zret rfl (zdk ttX7_readAmount 7 rfl rfl) (Nat.le_refl _) (Nat.le_refl _) (by omega) ⟨v13, rfl, by omega, s16, f18⟩
  have k19 : p1 = 6 → zJ shC l yX7_readAmount cX7_readAmount 3 (some .boolean) (rmL 5) 0 0 (q_X7_readAmount h p1 p2) 0 0 39 [some (.inr 107), some (.inl p1), some (.inl p2)] [] h := by
    intro c1
    refine zj_aload_n (zdk ttX7_readAmount 8 rfl rfl) rfl (by decide) ?_
    refine zj_getr (r := 103) (zdk ttX7_readAmount 9 rfl rfl) zf_RX7_9 rfl (k_L107 s0) (rf_L107_0 s0) ?_
    refine zj_iconst (zdk ttX7_readAmount 10 rfl rfl) ?_
    refine zj_sipush (zdk ttX7_readAmount 11 rfl rfl) (by decide) ?_
    refine zj_callV (av := [.inl 1, .inl 719]) (st := []) (zdk ttX7_readAmount 12 rfl rfl) mb_X6_takesNumber mv_RX7_104 (ci := 6) rfl rfl (k_L103 s0) rfl rfl (Nat.le_of_ble_eq_true rfl) (s_X6_takesNumber l h 1 719 s0 (by omega) (by omega)) (rm_ok (by decide) (by decide)) (zq_i fun v21 h22 q20 => ?_)
    obtain ⟨b23, s24, f25⟩ := q20
    have f26 : zfC w_X7_readAmount h h22 := zfC_t (zfC_r _ _) f25 (fun a9 b9 z9 => by
      exact z9)
    exact zj_zret rfl (zdk ttX7_readAmount 13 rfl rfl) (Nat.le_refl _) (Nat.le_refl _) (by omega) ⟨v21, rfl, by omega, s24, f26⟩
  by_cases z27 : p1 = 5
  · exact zj_lookup (t := 28) (zdk ttX7_readAmount 1 rfl rfl) (by omega) rfl (by rw [z27] <;> rfl) (by decide) (k11 z27)
  by_cases z28 : p1 = 6
  · exact zj_lookup (t := 39) (zdk ttX7_readAmount 1 rfl rfl) (by omega) rfl (by rw [z28] <;> rfl) (by decide) (k19 z28)
  exact zj_lookup (t := 51) (zdk ttX7_readAmount 1 rfl rfl) (by omega) rfl (by show Op.lookupswitch.offset [(5, 27), (6, 38)] 50 p1 = _; rw [Op.lookupswitch.offset_cons, if_neg (by omega), Op.lookupswitch.offset_cons, if_neg (by omega), Op.lookupswitch.offset_nil]) (by decide) (k2 (by omega))

abbrev tX7_readDoing : List (Nat × Instr × Nat) := [(0, .aload_n 0, 1), (1, .aload_n 1, 1), (2, .iload_n 2, 1), (3, .invokevirtual 101, 3), (6, .ifCond .ne 5, 3), (9, .iconst 0, 1), (10, .ireturn, 1), (11, .aload_n 0, 1), (12, .getfield 9, 3), (15, .iconst 1, 1), (16, .bipush 6, 2), (18, .invokevirtual 60, 3), (21, .ifCond .ne 12, 3), (24, .aload_n 0, 1), (25, .getfield 9, 3), (28, .iconst 1, 1), (29, .invokevirtual 81, 3), (32, .ireturn, 1), (33, .aload_n 0, 1), (34, .getfield 9, 3), (37, .getfield 32, 3), (40, .sipush 200, 3), (43, .isub, 1), (44, .istore 4, 2), (46, .aload_n 0, 1), (47, .getfield 9, 3), (50, .invokevirtual 47, 3), (53, .aload_n 1, 1), (54, .getfield 113, 3), (57, .iload_n 2, 1), (58, .iload 4, 2), (60, .iastore, 1), (61, .aload_n 1, 1), (62, .getfield 107, 3), (65, .iload_n 2, 1), (66, .iconst 0, 1), (67, .iastore, 1), (68, .iload 4, 2), (70, .iconst 3, 1), (71, .if_icmp .eq 34, 3), (74, .iload 4, 2), (76, .iconst 4, 1), (77, .if_icmp .eq 28, 3), (80, .aload_n 0, 1), (81, .iload 4, 2), (83, .iload_n 3, 1), (84, .invokevirtual 125, 3), (87, .ifCond .ne 5, 3), (90, .iconst 0, 1), (91, .ireturn, 1), (92, .aload_n 1, 1), (93, .getfield 107, 3), (96, .iload_n 2, 1), (97, .aload_n 0, 1), (98, .getfield 9, 3), (101, .getfield 110, 3), (104, .iastore, 1), (105, .aload_n 0, 1), (106, .getfield 9, 3), (109, .bipush 59, 2), (111, .invokevirtual 70, 3), (114, .ireturn, 1)]
theorem ttX7_readDoing : zdt cX7_readDoing tX7_readDoing = true := by decide +kernel
abbrev w_X7_readDoing (p1 a b : Int) : Prop := (a = 103 ∧ 5 ≤ b ∧ b ≤ 9) ∨ (p1 + 1 ≤ a ∧ a ≤ p1 + 3)
abbrev q_X7_readDoing (h : zM) (p1 : Int) (p2 : Int) (p3 : Int) : Option zV → zM → Prop := zqi fun v h' => (0 ≤ v ∧ v ≤ 1) ∧ okC h' ∧ zfC (w_X7_readDoing p1) h h'
set_option maxRecDepth 100000 in
set_option maxHeartbeats 4000000 in
theorem s_X7_readDoing (l : Launch) (h : zM) (p1 : Int) (p2 : Int) (p3 : Int) (s0 : okC h) (r_p1 : zPl p1) (b_p2 : 0 ≤ p2 ∧ p2 ≤ 15) (b_p3 : (-2147483648) ≤ p3 ∧ p3 ≤ 2147483647) : zT shC l yX7_readDoing cX7_readDoing 5 (some .boolean) (rmL 6) 0 0 [.inr 107, .inr p1, .inl p2, .inl p3] h (q_X7_readDoing h p1 p2 p3) := by
  refine zT_of (by decide +kernel) (L0 := [some (.inr 107), some (.inr p1), some (.inl p2), some (.inl p3), none]) rfl (Nat.le_of_ble_eq_true rfl) ?_
  have b1 := zPl_b r_p1
  refine zj_aload_n (zdk ttX7_readDoing 0 rfl rfl) rfl (by decide) ?_
  refine zj_aload_n (zdk ttX7_readDoing 1 rfl rfl) rfl (by omega) ?_
  refine zj_iload_n (zdk ttX7_readDoing 2 rfl rfl) rfl ?_
  refine zj_callV (av := [.inr p1, .inl p2]) (st := []) (zdk ttX7_readDoing 3 rfl rfl) mb_X7_readDay mv_RX7_101 (ci := 7) rfl rfl (k_L107 s0) rfl rfl (Nat.le_of_ble_eq_true rfl) (s_X7_readDay l h p1 p2 s0 r_p1 (by omega)) (rm_ok (by decide) (by decide)) (zq_i fun v3 h4 q2 => ?_)
  obtain ⟨b5, s6, f7⟩ := q2
  refine zj_if_ne (t := 11) (zdk ttX7_readDoing 4 rfl rfl) (by decide) (by omega) (fun c8 => ?_) (fun c8 => ?_)
  · refine zj_aload_n (zdk ttX7_readDoing 7 rfl rfl) rfl (by decide) ?_
    refine zj_getr (r := 103) (zdk ttX7_readDoing 8 rfl rfl) zf_RX7_9 rfl (k_L107 s6) (rf_L107_0 s6) ?_
    refine zj_iconst (zdk ttX7_readDoing 9 rfl rfl) ?_
    refine zj_bipush (zdk ttX7_readDoing 10 rfl rfl) (by decide) ?_
    refine zj_callV (av := [.inl 1, .inl 6]) (st := []) (zdk ttX7_readDoing 11 rfl rfl) mb_X6_isWord mv_RX7_60 (ci := 6) rfl rfl (k_L103 s6) rfl rfl (Nat.le_of_ble_eq_true rfl) (s_X6_isWord l h4 1 6 s6 (by omega) (by omega)) (rm_ok (by decide) (by decide)) (zq_i fun v10 h11 q9 => ?_)
    obtain ⟨rfl, b13, ⟨rfl, b12⟩ | ⟨rfl, b12⟩⟩ := q9
    · refine zj_if_ne (t := 33) (zdk ttX7_readDoing 12 rfl rfl) (by decide) (by decide) (fun c14 => ?_) (fun c14 => ?_)
      · exact absurd c14 (by omega)
      · refine zj_aload_n (zdk ttX7_readDoing 13 rfl rfl) rfl (by decide) ?_
        refine zj_getr (r := 103) (zdk ttX7_readDoing 14 rfl rfl) zf_RX7_9 rfl (k_L107 s6) (rf_L107_0 s6) ?_
        refine zj_iconst (zdk ttX7_readDoing 15 rfl rfl) ?_
        refine zj_callV (av := [.inl 1]) (st := []) (zdk ttX7_readDoing 16 rfl rfl) mb_X6_refuse mv_RX7_81 (ci := 6) rfl rfl (k_L103 s6) rfl rfl (Nat.le_of_ble_eq_true rfl) (s_X6_refuse l h4 1 s6 (by omega)) (rm_ok (by decide) (by decide)) (zq_i fun v16 h17 q15 => ?_)
        obtain ⟨b18, s19, f20⟩ := q15
        have f22 : zfC (w_X7_readDoing p1) h h4 := zfC_t (zfC_r _ _) f7 (fun a9 b9 z9 => by
          rcases z9 with z9 | z9
          · exact (Or.inl z9)
          · exact (Or.inr (by omega)))
        have f21 : zfC (w_X7_readDoing p1) h h17 := zfC_t f22 f20 (fun a9 b9 z9 => by
          exact (Or.inl (by omega)))
        exact zj_zret rfl (zdk ttX7_readDoing 17 rfl rfl) (Nat.le_refl _) (Nat.le_refl _) (by omega) ⟨v16, rfl, by omega, s19, f21⟩
    · refine zj_if_ne (t := 33) (zdk ttX7_readDoing 12 rfl rfl) (by decide) (by decide) (fun c23 => ?_) (fun c23 => ?_)
      · refine zj_aload_n (zdk ttX7_readDoing 18 rfl rfl) rfl (by decide) ?_
        refine zj_getr (r := 103) (zdk ttX7_readDoing 19 rfl rfl) zf_RX7_9 rfl (k_L107 s6) (rf_L107_0 s6) ?_
        refine zj_geti (v := (h4.2 103 6)) (zdk ttX7_readDoing 20 rfl rfl) zf_RX7_32 rfl (k_L103 s6) rfl ?_
        refine zj_sipush (zdk ttX7_readDoing 21 rfl rfl) (by decide) ?_
        refine zj_isub (zdk ttX7_readDoing 22 rfl rfl) ?_
        refine zj_istore (L' := [some (.inr 107), some (.inr p1), some (.inl p2), some (.inl p3), some (.inl ((h4.2 103 6) - 200))]) (zdk ttX7_readDoing 23 rfl rfl) (by decide) rfl ?_
        refine zj_aload_n (zdk ttX7_readDoing 24 rfl rfl) rfl (by decide) ?_
        refine zj_getr (r := 103) (zdk ttX7_readDoing 25 rfl rfl) zf_RX7_9 rfl (k_L107 s6) (rf_L107_0 s6) ?_
        refine zj_callV (av := []) (st := []) (zdk ttX7_readDoing 26 rfl rfl) mb_X6_pass mv_RX7_47 (ci := 6) rfl rfl (k_L103 s6) rfl rfl (Nat.le_of_ble_eq_true rfl) (s_X6_pass l h4 s6) (rm_ok (by decide) (by decide)) (zq_v fun h26 q24 => ?_)
        obtain ⟨s28, f29⟩ := q24
        refine zj_aload_n (zdk ttX7_readDoing 27 rfl rfl) rfl (by omega) ?_
        refine zj_getr (r := (p1 + 2)) (zdk ttX7_readDoing 28 rfl rfl) zf_RX7_113 rfl (k_4_0 s28 r_p1) (rf_4_0_1 s28 r_p1) ?_
        refine zj_iload_n (zdk ttX7_readDoing 29 rfl rfl) rfl ?_
        refine zj_iload (zdk ttX7_readDoing 30 rfl rfl) rfl ?_
        refine zj_iast (zdk ttX7_readDoing 31 rfl rfl) (ka_4_0_1 s28 r_p1) (by decide) (by omega) (fun h30 e31 => ?_)
        refine zj_aload_n (zdk ttX7_readDoing 32 rfl rfl) rfl (by omega) ?_
        have s32 : okC h30 := aw_4_0_1 s28 r_p1 e31 (by omega)
        refine zj_getr (r := (p1 + 3)) (zdk ttX7_readDoing 33 rfl rfl) zf_RX7_107 rfl (k_4_0 s32 r_p1) (rf_4_0_2 s32 r_p1) ?_
        refine zj_iload_n (zdk ttX7_readDoing 34 rfl rfl) rfl ?_
        refine zj_iconst (zdk ttX7_readDoing 35 rfl rfl) ?_
        refine zj_iast (zdk ttX7_readDoing 36 rfl rfl) (ka_4_0_2 s32 r_p1) (by decide) (by omega) (fun h33 e34 => ?_)
        refine zj_iload (zdk ttX7_readDoing 37 rfl rfl) rfl ?_
        refine zj_iconst (zdk ttX7_readDoing 38 rfl rfl) ?_
        refine zj_icmp_eq (t := 105) (zdk ttX7_readDoing 39 rfl rfl) (by decide) (by omega) (by decide) (fun c35 => ?_) (fun c35 => ?_)
        · refine zj_aload_n (zdk ttX7_readDoing 57 rfl rfl) rfl (by decide) ?_
          have s36 : okC h33 := aw_4_0_2 s32 r_p1 e34 (by omega)
          refine zj_getr (r := 103) (zdk ttX7_readDoing 58 rfl rfl) zf_RX7_9 rfl (k_L107 s36) (rf_L107_0 s36) ?_
          refine zj_bipush (zdk ttX7_readDoing 59 rfl rfl) (by decide) ?_
          refine zj_callV (av := [.inl 59]) (st := []) (zdk ttX7_readDoing 60 rfl rfl) mb_X6_takes mv_RX7_70 (ci := 6) rfl rfl (k_L103 s36) rfl rfl (Nat.le_of_ble_eq_true rfl) (s_X6_takes l h33 59 s36 (by omega)) (rm_ok (by decide) (by decide)) (zq_i fun v38 h39 q37 => ?_)
          obtain ⟨b40, s41, f42⟩ := q37
          have f47 : zfC (w_X7_readDoing p1) h h4 := zfC_t (zfC_r _ _) f7 (fun a9 b9 z9 => by
            rcases z9 with z9 | z9
            · exact (Or.inl z9)
            · exact (Or.inr (by omega)))
          have f46 : zfC (w_X7_readDoing p1) h h26 := zfC_t f47 f29 (fun a9 b9 z9 => by
            exact (Or.inl (by omega)))
          have f45 : zfC (w_X7_readDoing p1) h h30 := zfC_w f46 e31 (Or.inr (by omega))
          have f44 : zfC (w_X7_readDoing p1) h h33 := zfC_w f45 e34 (Or.inr (by omega))
          have f43 : zfC (w_X7_readDoing p1) h h39 := zfC_t f44 f42 (fun a9 b9 z9 => by
            exact (Or.inl (by omega)))
          exact zj_zret rfl (zdk ttX7_readDoing 61 rfl rfl) (Nat.le_refl _) (Nat.le_refl _) (by omega) ⟨v38, rfl, by omega, s41, f43⟩
        · refine zj_iload (zdk ttX7_readDoing 40 rfl rfl) rfl ?_
          refine zj_iconst (zdk ttX7_readDoing 41 rfl rfl) ?_
          refine zj_icmp_eq (t := 105) (zdk ttX7_readDoing 42 rfl rfl) (by decide) (by omega) (by decide) (fun c48 => ?_) (fun c48 => ?_)
          · refine zj_aload_n (zdk ttX7_readDoing 57 rfl rfl) rfl (by decide) ?_
            have s49 : okC h33 := aw_4_0_2 s32 r_p1 e34 (by omega)
            refine zj_getr (r := 103) (zdk ttX7_readDoing 58 rfl rfl) zf_RX7_9 rfl (k_L107 s49) (rf_L107_0 s49) ?_
            refine zj_bipush (zdk ttX7_readDoing 59 rfl rfl) (by decide) ?_
            refine zj_callV (av := [.inl 59]) (st := []) (zdk ttX7_readDoing 60 rfl rfl) mb_X6_takes mv_RX7_70 (ci := 6) rfl rfl (k_L103 s49) rfl rfl (Nat.le_of_ble_eq_true rfl) (s_X6_takes l h33 59 s49 (by omega)) (rm_ok (by decide) (by decide)) (zq_i fun v51 h52 q50 => ?_)
            obtain ⟨b53, s54, f55⟩ := q50
            have f60 : zfC (w_X7_readDoing p1) h h4 := zfC_t (zfC_r _ _) f7 (fun a9 b9 z9 => by
              rcases z9 with z9 | z9
              · exact (Or.inl z9)
              · exact (Or.inr (by omega)))
            have f59 : zfC (w_X7_readDoing p1) h h26 := zfC_t f60 f29 (fun a9 b9 z9 => by
              exact (Or.inl (by omega)))
            have f58 : zfC (w_X7_readDoing p1) h h30 := zfC_w f59 e31 (Or.inr (by omega))
            have f57 : zfC (w_X7_readDoing p1) h h33 := zfC_w f58 e34 (Or.inr (by omega))
            have f56 : zfC (w_X7_readDoing p1) h h52 := zfC_t f57 f55 (fun a9 b9 z9 => by
              exact (Or.inl (by omega)))
            exact zj_zret rfl (zdk ttX7_readDoing 61 rfl rfl) (Nat.le_refl _) (Nat.le_refl _) (by omega) ⟨v51, rfl, by omega, s54, f56⟩
          · refine zj_aload_n (zdk ttX7_readDoing 43 rfl rfl) rfl (by decide) ?_
            refine zj_iload (zdk ttX7_readDoing 44 rfl rfl) rfl ?_
            refine zj_iload_n (zdk ttX7_readDoing 45 rfl rfl) rfl ?_
            have s61 : okC h33 := aw_4_0_2 s32 r_p1 e34 (by omega)
            refine zj_callV (av := [.inl ((h4.2 103 6) - 200), .inl p3]) (st := []) (zdk ttX7_readDoing 46 rfl rfl) mb_X7_readAmount mv_RX7_125 (ci := 7) rfl rfl (k_L107 s61) rfl rfl (Nat.le_of_ble_eq_true rfl) (s_X7_readAmount l h33 ((h4.2 103 6) - 200) p3 s61 (by omega) (by omega)) (rm_ok (by decide) (by decide)) (zq_i fun v63 h64 q62 => ?_)
            obtain ⟨b65, s66, f67⟩ := q62
            refine zj_if_ne (t := 92) (zdk ttX7_readDoing 47 rfl rfl) (by decide) (by omega) (fun c68 => ?_) (fun c68 => ?_)
            · refine zj_aload_n (zdk ttX7_readDoing 50 rfl rfl) rfl (by omega) ?_
              refine zj_getr (r := (p1 + 3)) (zdk ttX7_readDoing 51 rfl rfl) zf_RX7_107 rfl (k_4_0 s66 r_p1) (rf_4_0_2 s66 r_p1) ?_
              refine zj_iload_n (zdk ttX7_readDoing 52 rfl rfl) rfl ?_
              refine zj_aload_n (zdk ttX7_readDoing 53 rfl rfl) rfl (by decide) ?_
              refine zj_getr (r := 103) (zdk ttX7_readDoing 54 rfl rfl) zf_RX7_9 rfl (k_L107 s66) (rf_L107_0 s66) ?_
              have b69 : -2147483648 ≤ (h64.2 103 9) ∧ (h64.2 103 9) ≤ 2147483647 := fb_L103_9 s66
              refine zj_geti (v := (h64.2 103 9)) (zdk ttX7_readDoing 55 rfl rfl) zf_RX7_110 rfl (k_L103 s66) rfl ?_
              refine zj_iast (zdk ttX7_readDoing 56 rfl rfl) (ka_4_0_2 s66 r_p1) (by decide) (by omega) (fun h70 e71 => ?_)
              refine zj_aload_n (zdk ttX7_readDoing 57 rfl rfl) rfl (by decide) ?_
              have s72 : okC h70 := aw_4_0_2 s66 r_p1 e71 (by omega)
              refine zj_getr (r := 103) (zdk ttX7_readDoing 58 rfl rfl) zf_RX7_9 rfl (k_L107 s72) (rf_L107_0 s72) ?_
              refine zj_bipush (zdk ttX7_readDoing 59 rfl rfl) (by decide) ?_
              refine zj_callV (av := [.inl 59]) (st := []) (zdk ttX7_readDoing 60 rfl rfl) mb_X6_takes mv_RX7_70 (ci := 6) rfl rfl (k_L103 s72) rfl rfl (Nat.le_of_ble_eq_true rfl) (s_X6_takes l h70 59 s72 (by omega)) (rm_ok (by decide) (by decide)) (zq_i fun v74 h75 q73 => ?_)
              obtain ⟨b76, s77, f78⟩ := q73
              have f85 : zfC (w_X7_readDoing p1) h h4 := zfC_t (zfC_r _ _) f7 (fun a9 b9 z9 => by
                rcases z9 with z9 | z9
                · exact (Or.inl z9)
                · exact (Or.inr (by omega)))
              have f84 : zfC (w_X7_readDoing p1) h h26 := zfC_t f85 f29 (fun a9 b9 z9 => by
                exact (Or.inl (by omega)))
              have f83 : zfC (w_X7_readDoing p1) h h30 := zfC_w f84 e31 (Or.inr (by omega))
              have f82 : zfC (w_X7_readDoing p1) h h33 := zfC_w f83 e34 (Or.inr (by omega))
              have f81 : zfC (w_X7_readDoing p1) h h64 := zfC_t f82 f67 (fun a9 b9 z9 => by
                exact (Or.inl z9))
              have f80 : zfC (w_X7_readDoing p1) h h70 := zfC_w f81 e71 (Or.inr (by omega))
              have f79 : zfC (w_X7_readDoing p1) h h75 := zfC_t f80 f78 (fun a9 b9 z9 => by
                exact (Or.inl (by omega)))
              exact zj_zret rfl (zdk ttX7_readDoing 61 rfl rfl) (Nat.le_refl _) (Nat.le_refl _) (by omega) ⟨v74, rfl, by omega, s77, f79⟩
            · refine zj_iconst (zdk ttX7_readDoing 48 rfl rfl) ?_
              have f90 : zfC (w_X7_readDoing p1) h h4 := zfC_t (zfC_r _ _) f7 (fun a9 b9 z9 => by
                rcases z9 with z9 | z9
                · exact (Or.inl z9)
                · exact (Or.inr (by omega)))
              have f89 : zfC (w_X7_readDoing p1) h h26 := zfC_t f90 f29 (fun a9 b9 z9 => by
                exact (Or.inl (by omega)))
              have f88 : zfC (w_X7_readDoing p1) h h30 := zfC_w f89 e31 (Or.inr (by omega))
              have f87 : zfC (w_X7_readDoing p1) h h33 := zfC_w f88 e34 (Or.inr (by omega))
              have f86 : zfC (w_X7_readDoing p1) h h64 := zfC_t f87 f67 (fun a9 b9 z9 => by
                exact (Or.inl z9))
              exact zj_zret rfl (zdk ttX7_readDoing 49 rfl rfl) (Nat.le_refl _) (Nat.le_refl _) (by omega) ⟨0, rfl, by omega, s66, f86⟩
      · exact absurd c23 (by omega)
  · refine zj_iconst (zdk ttX7_readDoing 5 rfl rfl) ?_
    have f91 : zfC (w_X7_readDoing p1) h h4 := zfC_t (zfC_r _ _) f7 (fun a9 b9 z9 => by
      rcases z9 with z9 | z9
      · exact (Or.inl z9)
      · exact (Or.inr (by omega)))
    exact zj_zret rfl (zdk ttX7_readDoing 6 rfl rfl) (Nat.le_refl _) (Nat.le_refl _) (by omega) ⟨0, rfl, by omega, s6, f91⟩

abbrev tX7_readTown : List (Nat × Instr × Nat) := [(0, .aload_n 0, 1), (1, .getfield 9, 3), (4, .ldc 119, 2), (6, .invokevirtual 19, 3), (9, .aload_n 1, 1), (10, .iconst 0, 1), (11, .putfield 96, 3), (14, .iconst 0, 1), (15, .istore_n 3, 1), (16, .iload_n 3, 1), (17, .bipush 16, 2), (19, .if_icmp .gt 51, 3), (22, .aload_n 0, 1), (23, .getfield 9, 3), (26, .getfield 32, 3), (29, .ifCond .eq 41, 3), (32, .aload_n 0, 1), (33, .getfield 9, 3), (36, .iload_n 3, 1), (37, .iconst 0, 1), (38, .iconst 0, 1), (39, .invokevirtual 35, 3), (42, .ifCond .eq 13, 3), (45, .aload_n 0, 1), (46, .aload_n 1, 1), (47, .iload_n 3, 1), (48, .iload_n 2, 1), (49, .invokevirtual 121, 3), (52, .ifCond .ne 5, 3), (55, .iconst 0, 1), (56, .ireturn, 1), (57, .aload_n 1, 1), (58, .iload_n 3, 1), (59, .iconst 1, 1), (60, .iadd, 1), (61, .putfield 96, 3), (64, .iinc 3 1, 3), (67, .goto (-51), 3), (70, .iconst 1, 1), (71, .ireturn, 1)]
theorem ttX7_readTown : zdt cX7_readTown tX7_readTown = true := by decide +kernel
abbrev w_X7_readTown (p1 a b : Int) : Prop := (a = 103 ∧ 4 ≤ b ∧ b ≤ 9) ∨ (105 ≤ a ∧ a ≤ 106) ∨ (a = p1 ∧ b = 3) ∨ (p1 + 1 ≤ a ∧ a ≤ p1 + 3)
abbrev q_X7_readTown (h : zM) (p1 : Int) (p2 : Int) : Option zV → zM → Prop := zqi fun v h' => (0 ≤ v ∧ v ≤ 1) ∧ okC h' ∧ zfC (w_X7_readTown p1) h h'
set_option maxRecDepth 100000 in
set_option maxHeartbeats 4000000 in
theorem s_X7_readTown (l : Launch) (h : zM) (p1 : Int) (p2 : Int) (s0 : okC h) (r_p1 : zPl p1) (b_p2 : (-2147483648) ≤ p2 ∧ p2 ≤ 2147483647) : zT shC l yX7_readTown cX7_readTown 4 (some .boolean) (rmL 9) 0 0 [.inr 107, .inr p1, .inl p2] h (q_X7_readTown h p1 p2) := by
  refine zT_of (by decide +kernel) (L0 := [some (.inr 107), some (.inr p1), some (.inl p2), none]) rfl (Nat.le_of_ble_eq_true rfl) ?_
  have b1 := zPl_b r_p1
  refine zj_aload_n (zdk ttX7_readTown 0 rfl rfl) rfl (by decide) ?_
  refine zj_getr (r := 103) (zdk ttX7_readTown 1 rfl rfl) zf_RX7_9 rfl (k_L107 s0) (rf_L107_0 s0) ?_
  refine zj_ldcS (i := 3) (zdk ttX7_readTown 2 rfl rfl) (List.mem_of_getElem? (i := 3) rfl) ?_
  refine zj_callV (av := [.inr (-2 - ((3 : Nat) : Int))]) (st := []) (zdk ttX7_readTown 3 rfl rfl) mb_X6_cut mv_RX7_19 (ci := 6) rfl rfl (k_L103 s0) rfl rfl (Nat.le_of_ble_eq_true rfl) (s_X6_cut l h 3 s0 (show 3 < 5 by decide)) (rm_ok (by decide) (by decide)) (zq_v fun h4 q2 => ?_)
  obtain ⟨s6, f7⟩ := q2
  refine zj_aload_n (zdk ttX7_readTown 4 rfl rfl) rfl (by omega) ?_
  refine zj_iconst (zdk ttX7_readTown 5 rfl rfl) ?_
  refine zj_puti (zdk ttX7_readTown 6 rfl rfl) zf_RX7_96 rfl (k_4_0 s6 r_p1) (Or.inl zw_RX7_96) (k2 := 3) rfl (fun h8 e9 => ?_)
  refine zj_iconst (zdk ttX7_readTown 7 rfl rfl) ?_
  refine zj_istore_n (L' := [some (.inr 107), some (.inr p1), some (.inl p2), some (.inl 0)]) (zdk ttX7_readTown 8 rfl rfl) (by decide) rfl ?_
  have lp134 : ∀ (n : Nat) (x10 : Int) (h11 : zM), (0 ≤ x10 ∧ x10 ≤ 17) → okC h11 → zfC (w_X7_readTown p1) h h11 → (18 - x10).toNat < n → zJ shC l yX7_readTown cX7_readTown 4 (some .boolean) (rmL 9) 0 0 (q_X7_readTown h p1 p2) 0 0 16 [some (.inr 107), some (.inr p1), some (.inl p2), some (.inl x10)] [] h11 := by
    intro n
    induction n with
    | zero => intro x10 h11 b135 s12 f13 m136; exact absurd m136 (Nat.not_lt_zero _)
    | succ n ih137 =>
      intro x10 h11 b135 s12 f13 m136
      refine zj_iload_n (zdk ttX7_readTown 9 rfl rfl) rfl ?_
      refine zj_bipush (zdk ttX7_readTown 10 rfl rfl) (by decide) ?_
      refine zj_icmp_gt (t := 70) (zdk ttX7_readTown 11 rfl rfl) (by decide) (by omega) (by decide) (fun c138 => ?_) (fun c138 => ?_)
      · refine zj_iconst (zdk ttX7_readTown 38 rfl rfl) ?_
        exact zj_zret rfl (zdk ttX7_readTown 39 rfl rfl) (Nat.le_refl _) (Nat.le_refl _) (by omega) ⟨1, rfl, by omega, s12, f13⟩
      · refine zj_aload_n (zdk ttX7_readTown 12 rfl rfl) rfl (by decide) ?_
        refine zj_getr (r := 103) (zdk ttX7_readTown 13 rfl rfl) zf_RX7_9 rfl (k_L107 s12) (rf_L107_0 s12) ?_
        have b139 : -2147483648 ≤ (h11.2 103 6) ∧ (h11.2 103 6) ≤ 2147483647 := fb_L103_6 s12
        refine zj_geti (v := (h11.2 103 6)) (zdk ttX7_readTown 14 rfl rfl) zf_RX7_32 rfl (k_L103 s12) rfl ?_
        refine zj_if_eq (t := 70) (zdk ttX7_readTown 15 rfl rfl) (by decide) (by omega) (fun c140 => ?_) (fun c140 => ?_)
        · refine zj_iconst (zdk ttX7_readTown 38 rfl rfl) ?_
          exact zj_zret rfl (zdk ttX7_readTown 39 rfl rfl) (Nat.le_refl _) (Nat.le_refl _) (by omega) ⟨1, rfl, by omega, s12, f13⟩
        · refine zj_aload_n (zdk ttX7_readTown 16 rfl rfl) rfl (by decide) ?_
          refine zj_getr (r := 103) (zdk ttX7_readTown 17 rfl rfl) zf_RX7_9 rfl (k_L107 s12) (rf_L107_0 s12) ?_
          refine zj_iload_n (zdk ttX7_readTown 18 rfl rfl) rfl ?_
          refine zj_iconst (zdk ttX7_readTown 19 rfl rfl) ?_
          refine zj_iconst (zdk ttX7_readTown 20 rfl rfl) ?_
          refine zj_callV (av := [.inl x10, .inl 0, .inl 0]) (st := []) (zdk ttX7_readTown 21 rfl rfl) mb_X6_opensLine mv_RX7_35 (ci := 6) rfl rfl (k_L103 s12) rfl rfl (Nat.le_of_ble_eq_true rfl) (s_X6_opensLine l h11 x10 0 0 s12 (by omega) (by omega) (by omega)) (rm_ok (by decide) (by decide)) (zq_i fun v142 h143 q141 => ?_)
          obtain ⟨b144, s145, f147, u146⟩ := q141
          refine zj_if_eq (t := 55) (zdk ttX7_readTown 22 rfl rfl) (by decide) (by omega) (fun c148 => ?_) (fun c148 => ?_)
          · refine zj_iconst (zdk ttX7_readTown 29 rfl rfl) ?_
            have f149 : zfC (w_X7_readTown p1) h h143 := zfC_t f13 f147 (fun a9 b9 z9 => by
              exact (Or.inl (by omega)))
            exact zj_zret rfl (zdk ttX7_readTown 30 rfl rfl) (Nat.le_refl _) (Nat.le_refl _) (by omega) ⟨0, rfl, by omega, s145, f149⟩
          · refine zj_aload_n (zdk ttX7_readTown 23 rfl rfl) rfl (by decide) ?_
            refine zj_aload_n (zdk ttX7_readTown 24 rfl rfl) rfl (by omega) ?_
            refine zj_iload_n (zdk ttX7_readTown 25 rfl rfl) rfl ?_
            refine zj_iload_n (zdk ttX7_readTown 26 rfl rfl) rfl ?_
            refine zj_callV (av := [.inr p1, .inl x10, .inl p2]) (st := []) (zdk ttX7_readTown 27 rfl rfl) mb_X7_readDoing mv_RX7_121 (ci := 7) rfl rfl (k_L107 s145) rfl rfl (Nat.le_of_ble_eq_true rfl) (s_X7_readDoing l h143 p1 x10 p2 s145 r_p1 (by omega) (by omega)) (rm_ok (by decide) (by decide)) (zq_i fun v151 h152 q150 => ?_)
            obtain ⟨b153, s154, f155⟩ := q150
            refine zj_if_ne (t := 57) (zdk ttX7_readTown 28 rfl rfl) (by decide) (by omega) (fun c156 => ?_) (fun c156 => ?_)
            · refine zj_aload_n (zdk ttX7_readTown 31 rfl rfl) rfl (by omega) ?_
              refine zj_iload_n (zdk ttX7_readTown 32 rfl rfl) rfl ?_
              refine zj_iconst (zdk ttX7_readTown 33 rfl rfl) ?_
              refine zj_iadd (zdk ttX7_readTown 34 rfl rfl) ?_
              refine zj_puti (zdk ttX7_readTown 35 rfl rfl) zf_RX7_96 rfl (k_4_0 s154 r_p1) (Or.inl zw_RX7_96) (k2 := 3) rfl (fun h157 e158 => ?_)
              refine zj_iinc (L' := [some (.inr 107), some (.inr p1), some (.inl p2), some (.inl (x10 + 1))]) (zdk ttX7_readTown 36 rfl rfl) rfl (by decide) rfl ?_
              refine zj_goto (t := 16) (zdk ttX7_readTown 37 rfl rfl) (by decide) ?_
              have s159 : okC h157 := fw_4_0_3 s154 r_p1 e158 (by omega)
              have f162 : zfC (w_X7_readTown p1) h h143 := zfC_t f13 f147 (fun a9 b9 z9 => by
                exact (Or.inl (by omega)))
              have f161 : zfC (w_X7_readTown p1) h h152 := zfC_t f162 f155 (fun a9 b9 z9 => by
                rcases z9 with z9 | z9
                · exact (Or.inl (by omega))
                · exact (Or.inr (Or.inr (Or.inr (by omega)))))
              have f160 : zfC (w_X7_readTown p1) h h157 := zfC_w f161 e158 (Or.inr (Or.inr (Or.inl (by omega))))
              exact ih137  (x10 + 1) h157 (by omega) s159 f160 (by omega)
            · refine zj_iconst (zdk ttX7_readTown 29 rfl rfl) ?_
              have f164 : zfC (w_X7_readTown p1) h h143 := zfC_t f13 f147 (fun a9 b9 z9 => by
                exact (Or.inl (by omega)))
              have f163 : zfC (w_X7_readTown p1) h h152 := zfC_t f164 f155 (fun a9 b9 z9 => by
                rcases z9 with z9 | z9
                · exact (Or.inl (by omega))
                · exact (Or.inr (Or.inr (Or.inr (by omega)))))
              exact zj_zret rfl (zdk ttX7_readTown 30 rfl rfl) (Nat.le_refl _) (Nat.le_refl _) (by omega) ⟨0, rfl, by omega, s154, f163⟩
  have s165 : okC h8 := fw_4_0_3 s6 r_p1 e9 (by omega)
  have f167 : zfC (w_X7_readTown p1) h h4 := zfC_t (zfC_r _ _) f7 (fun a9 b9 z9 => by
    rcases z9 with z9 | z9
    · exact (Or.inl (by omega))
    · exact (Or.inr (Or.inl z9)))
  have f166 : zfC (w_X7_readTown p1) h h8 := zfC_w f167 e9 (Or.inr (Or.inr (Or.inl (by omega))))
  exact lp134 _ 0 h8 (by omega) s165 f166 (Nat.lt_succ_self _)

abbrev tX7_readKinLine : List (Nat × Instr × Nat) := [(0, .aload_n 0, 1), (1, .getfield 9, 3), (4, .invokevirtual 47, 3), (7, .aload_n 0, 1), (8, .getfield 9, 3), (11, .iconst 0, 1), (12, .iload_n 2, 1), (13, .iconst 1, 1), (14, .isub, 1), (15, .invokevirtual 104, 3), (18, .ifCond .ne 5, 3), (21, .iconst 0, 1), (22, .ireturn, 1), (23, .aload_n 0, 1), (24, .getfield 9, 3), (27, .getfield 110, 3), (30, .istore_n 3, 1), (31, .aload_n 0, 1), (32, .getfield 9, 3), (35, .sipush 201, 3), (38, .invokevirtual 70, 3), (41, .ifCond .ne 5, 3), (44, .iconst 0, 1), (45, .ireturn, 1), (46, .aload_n 0, 1), (47, .getfield 9, 3), (50, .getfield 32, 3), (53, .sipush 1000, 3), (56, .iload_n 3, 1), (57, .iadd, 1), (58, .if_icmp .ne 12, 3), (61, .aload_n 0, 1), (62, .getfield 9, 3), (65, .iconst 2, 1), (66, .invokevirtual 81, 3), (69, .ireturn, 1), (70, .aload_n 0, 1), (71, .getfield 9, 3), (74, .iconst 0, 1), (75, .iload_n 2, 1), (76, .iconst 1, 1), (77, .isub, 1), (78, .invokevirtual 104, 3), (81, .ifCond .ne 5, 3), (84, .iconst 0, 1), (85, .ireturn, 1), (86, .aload_n 1, 1), (87, .iload_n 3, 1), (88, .aload_n 0, 1), (89, .getfield 9, 3), (92, .getfield 110, 3), (95, .invokevirtual 140, 3), (98, .aload_n 0, 1), (99, .getfield 9, 3), (102, .bipush 59, 2), (104, .invokevirtual 70, 3), (107, .ireturn, 1)]
theorem ttX7_readKinLine : zdt cX7_readKinLine tX7_readKinLine = true := by decide +kernel
abbrev w_X7_readKinLine (p1 a b : Int) : Prop := (a = 103 ∧ 5 ≤ b ∧ b ≤ 9) ∨ a = p1 + 1
abbrev q_X7_readKinLine (h : zM) (p1 : Int) (p2 : Int) : Option zV → zM → Prop := zqi fun v h' => (0 ≤ v ∧ v ≤ 1) ∧ okC h' ∧ zfC (w_X7_readKinLine p1) h h'
set_option maxRecDepth 100000 in
set_option maxHeartbeats 4000000 in
theorem s_X7_readKinLine (l : Launch) (h : zM) (p1 : Int) (p2 : Int) (s0 : okC h) (r_p1 : zKi p1) (b_p2 : (-2147483648) ≤ p2 ∧ p2 ≤ 2147483647) : zT shC l yX7_readKinLine cX7_readKinLine 4 (some .boolean) (rmL 6) 0 0 [.inr 107, .inr p1, .inl p2] h (q_X7_readKinLine h p1 p2) := by
  refine zT_of (by decide +kernel) (L0 := [some (.inr 107), some (.inr p1), some (.inl p2), none]) rfl (Nat.le_of_ble_eq_true rfl) ?_
  have b1 := zKi_b r_p1
  refine zj_aload_n (zdk ttX7_readKinLine 0 rfl rfl) rfl (by decide) ?_
  refine zj_getr (r := 103) (zdk ttX7_readKinLine 1 rfl rfl) zf_RX7_9 rfl (k_L107 s0) (rf_L107_0 s0) ?_
  refine zj_callV (av := []) (st := []) (zdk ttX7_readKinLine 2 rfl rfl) mb_X6_pass mv_RX7_47 (ci := 6) rfl rfl (k_L103 s0) rfl rfl (Nat.le_of_ble_eq_true rfl) (s_X6_pass l h s0) (rm_ok (by decide) (by decide)) (zq_v fun h4 q2 => ?_)
  obtain ⟨s6, f7⟩ := q2
  refine zj_aload_n (zdk ttX7_readKinLine 3 rfl rfl) rfl (by decide) ?_
  refine zj_getr (r := 103) (zdk ttX7_readKinLine 4 rfl rfl) zf_RX7_9 rfl (k_L107 s6) (rf_L107_0 s6) ?_
  refine zj_iconst (zdk ttX7_readKinLine 5 rfl rfl) ?_
  refine zj_iload_n (zdk ttX7_readKinLine 6 rfl rfl) rfl ?_
  refine zj_iconst (zdk ttX7_readKinLine 7 rfl rfl) ?_
  refine zj_isub (zdk ttX7_readKinLine 8 rfl rfl) ?_
  refine zj_wrap ?_
  have b8 := zwp_in (p2 - 1)
  refine zj_callV (av := [.inl 0, .inl (zwp (p2 - 1))]) (st := []) (zdk ttX7_readKinLine 9 rfl rfl) mb_X6_takesNumber mv_RX7_104 (ci := 6) rfl rfl (k_L103 s6) rfl rfl (Nat.le_of_ble_eq_true rfl) (s_X6_takesNumber l h4 0 (zwp (p2 - 1)) s6 (by omega) (by omega)) (rm_ok (by decide) (by decide)) (zq_i fun v10 h11 q9 => ?_)
  obtain ⟨b12, s13, f14⟩ := q9
  refine zj_if_ne (t := 23) (zdk ttX7_readKinLine 10 rfl rfl) (by decide) (by omega) (fun c15 => ?_) (fun c15 => ?_)
  · refine zj_aload_n (zdk ttX7_readKinLine 13 rfl rfl) rfl (by decide) ?_
    refine zj_getr (r := 103) (zdk ttX7_readKinLine 14 rfl rfl) zf_RX7_9 rfl (k_L107 s13) (rf_L107_0 s13) ?_
    have b16 : -2147483648 ≤ (h11.2 103 9) ∧ (h11.2 103 9) ≤ 2147483647 := fb_L103_9 s13
    refine zj_geti (v := (h11.2 103 9)) (zdk ttX7_readKinLine 15 rfl rfl) zf_RX7_110 rfl (k_L103 s13) rfl ?_
    refine zj_istore_n (L' := [some (.inr 107), some (.inr p1), some (.inl p2), some (.inl (h11.2 103 9))]) (zdk ttX7_readKinLine 16 rfl rfl) (by decide) rfl ?_
    refine zj_aload_n (zdk ttX7_readKinLine 17 rfl rfl) rfl (by decide) ?_
    refine zj_getr (r := 103) (zdk ttX7_readKinLine 18 rfl rfl) zf_RX7_9 rfl (k_L107 s13) (rf_L107_0 s13) ?_
    refine zj_sipush (zdk ttX7_readKinLine 19 rfl rfl) (by decide) ?_
    refine zj_callV (av := [.inl 201]) (st := []) (zdk ttX7_readKinLine 20 rfl rfl) mb_X6_takes mv_RX7_70 (ci := 6) rfl rfl (k_L103 s13) rfl rfl (Nat.le_of_ble_eq_true rfl) (s_X6_takes l h11 201 s13 (by omega)) (rm_ok (by decide) (by decide)) (zq_i fun v18 h19 q17 => ?_)
    obtain ⟨b20, s21, f22⟩ := q17
    refine zj_if_ne (t := 46) (zdk ttX7_readKinLine 21 rfl rfl) (by decide) (by omega) (fun c23 => ?_) (fun c23 => ?_)
    · refine zj_aload_n (zdk ttX7_readKinLine 24 rfl rfl) rfl (by decide) ?_
      refine zj_getr (r := 103) (zdk ttX7_readKinLine 25 rfl rfl) zf_RX7_9 rfl (k_L107 s21) (rf_L107_0 s21) ?_
      have b24 : -2147483648 ≤ (h19.2 103 6) ∧ (h19.2 103 6) ≤ 2147483647 := fb_L103_6 s21
      refine zj_geti (v := (h19.2 103 6)) (zdk ttX7_readKinLine 26 rfl rfl) zf_RX7_32 rfl (k_L103 s21) rfl ?_
      refine zj_sipush (zdk ttX7_readKinLine 27 rfl rfl) (by decide) ?_
      refine zj_iload_n (zdk ttX7_readKinLine 28 rfl rfl) rfl ?_
      refine zj_iadd (zdk ttX7_readKinLine 29 rfl rfl) ?_
      refine zj_wrap ?_
      have b25 := zwp_in (1000 + (h11.2 103 9))
      refine zj_icmp_ne (t := 70) (zdk ttX7_readKinLine 30 rfl rfl) (by decide) (by omega) (by omega) (fun c26 => ?_) (fun c26 => ?_)
      · refine zj_aload_n (zdk ttX7_readKinLine 36 rfl rfl) rfl (by decide) ?_
        refine zj_getr (r := 103) (zdk ttX7_readKinLine 37 rfl rfl) zf_RX7_9 rfl (k_L107 s21) (rf_L107_0 s21) ?_
        refine zj_iconst (zdk ttX7_readKinLine 38 rfl rfl) ?_
        refine zj_iload_n (zdk ttX7_readKinLine 39 rfl rfl) rfl ?_
        refine zj_iconst (zdk ttX7_readKinLine 40 rfl rfl) ?_
        refine zj_isub (zdk ttX7_readKinLine 41 rfl rfl) ?_
        refine zj_wrap ?_
        refine zj_callV (av := [.inl 0, .inl (zwp (p2 - 1))]) (st := []) (zdk ttX7_readKinLine 42 rfl rfl) mb_X6_takesNumber mv_RX7_104 (ci := 6) rfl rfl (k_L103 s21) rfl rfl (Nat.le_of_ble_eq_true rfl) (s_X6_takesNumber l h19 0 (zwp (p2 - 1)) s21 (by omega) (by omega)) (rm_ok (by decide) (by decide)) (zq_i fun v28 h29 q27 => ?_)
        obtain ⟨b30, s31, f32⟩ := q27
        refine zj_if_ne (t := 86) (zdk ttX7_readKinLine 43 rfl rfl) (by decide) (by omega) (fun c33 => ?_) (fun c33 => ?_)
        · refine zj_aload_n (zdk ttX7_readKinLine 46 rfl rfl) rfl (by omega) ?_
          refine zj_iload_n (zdk ttX7_readKinLine 47 rfl rfl) rfl ?_
          refine zj_aload_n (zdk ttX7_readKinLine 48 rfl rfl) rfl (by decide) ?_
          refine zj_getr (r := 103) (zdk ttX7_readKinLine 49 rfl rfl) zf_RX7_9 rfl (k_L107 s31) (rf_L107_0 s31) ?_
          have b34 : -2147483648 ≤ (h29.2 103 9) ∧ (h29.2 103 9) ≤ 2147483647 := fb_L103_9 s31
          refine zj_geti (v := (h29.2 103 9)) (zdk ttX7_readKinLine 50 rfl rfl) zf_RX7_110 rfl (k_L103 s31) rfl ?_
          refine zj_callV (av := [.inl (h11.2 103 9), .inl (h29.2 103 9)]) (st := []) (zdk ttX7_readKinLine 51 rfl rfl) mb_X2_join mv_RX7_140 (ci := 2) rfl rfl (k_2_0 s31 r_p1) rfl rfl (Nat.le_of_ble_eq_true rfl) (s_X2_join l h29 p1 (h11.2 103 9) (h29.2 103 9) s31 r_p1 (by omega) (by omega)) (rm_ok (by decide) (by decide)) (zq_v fun h37 q35 => ?_)
          obtain ⟨s39, f40⟩ := q35
          refine zj_aload_n (zdk ttX7_readKinLine 52 rfl rfl) rfl (by decide) ?_
          refine zj_getr (r := 103) (zdk ttX7_readKinLine 53 rfl rfl) zf_RX7_9 rfl (k_L107 s39) (rf_L107_0 s39) ?_
          refine zj_bipush (zdk ttX7_readKinLine 54 rfl rfl) (by decide) ?_
          refine zj_callV (av := [.inl 59]) (st := []) (zdk ttX7_readKinLine 55 rfl rfl) mb_X6_takes mv_RX7_70 (ci := 6) rfl rfl (k_L103 s39) rfl rfl (Nat.le_of_ble_eq_true rfl) (s_X6_takes l h37 59 s39 (by omega)) (rm_ok (by decide) (by decide)) (zq_i fun v42 h43 q41 => ?_)
          obtain ⟨b44, s45, f46⟩ := q41
          have f52 : zfC (w_X7_readKinLine p1) h h4 := zfC_t (zfC_r _ _) f7 (fun a9 b9 z9 => by
            exact (Or.inl (by omega)))
          have f51 : zfC (w_X7_readKinLine p1) h h11 := zfC_t f52 f14 (fun a9 b9 z9 => by
            exact (Or.inl z9))
          have f50 : zfC (w_X7_readKinLine p1) h h19 := zfC_t f51 f22 (fun a9 b9 z9 => by
            exact (Or.inl (by omega)))
          have f49 : zfC (w_X7_readKinLine p1) h h29 := zfC_t f50 f32 (fun a9 b9 z9 => by
            exact (Or.inl z9))
          have f48 : zfC (w_X7_readKinLine p1) h h37 := zfC_t f49 f40 (fun a9 b9 z9 => by
            exact (Or.inr (by omega)))
          have f47 : zfC (w_X7_readKinLine p1) h h43 := zfC_t f48 f46 (fun a9 b9 z9 => by
            exact (Or.inl (by omega)))
          exact zj_zret rfl (zdk ttX7_readKinLine 56 rfl rfl) (Nat.le_refl _) (Nat.le_refl _) (by omega) ⟨v42, rfl, by omega, s45, f47⟩
        · refine zj_iconst (zdk ttX7_readKinLine 44 rfl rfl) ?_
          have f56 : zfC (w_X7_readKinLine p1) h h4 := zfC_t (zfC_r _ _) f7 (fun a9 b9 z9 => by
            exact (Or.inl (by omega)))
          have f55 : zfC (w_X7_readKinLine p1) h h11 := zfC_t f56 f14 (fun a9 b9 z9 => by
            exact (Or.inl z9))
          have f54 : zfC (w_X7_readKinLine p1) h h19 := zfC_t f55 f22 (fun a9 b9 z9 => by
            exact (Or.inl (by omega)))
          have f53 : zfC (w_X7_readKinLine p1) h h29 := zfC_t f54 f32 (fun a9 b9 z9 => by
            exact (Or.inl z9))
          exact zj_zret rfl (zdk ttX7_readKinLine 45 rfl rfl) (Nat.le_refl _) (Nat.le_refl _) (by omega) ⟨0, rfl, by omega, s31, f53⟩
      · refine zj_aload_n (zdk ttX7_readKinLine 31 rfl rfl) rfl (by decide) ?_
        refine zj_getr (r := 103) (zdk ttX7_readKinLine 32 rfl rfl) zf_RX7_9 rfl (k_L107 s21) (rf_L107_0 s21) ?_
        refine zj_iconst (zdk ttX7_readKinLine 33 rfl rfl) ?_
        refine zj_callV (av := [.inl 2]) (st := []) (zdk ttX7_readKinLine 34 rfl rfl) mb_X6_refuse mv_RX7_81 (ci := 6) rfl rfl (k_L103 s21) rfl rfl (Nat.le_of_ble_eq_true rfl) (s_X6_refuse l h19 2 s21 (by omega)) (rm_ok (by decide) (by decide)) (zq_i fun v58 h59 q57 => ?_)
        obtain ⟨b60, s61, f62⟩ := q57
        have f66 : zfC (w_X7_readKinLine p1) h h4 := zfC_t (zfC_r _ _) f7 (fun a9 b9 z9 => by
          exact (Or.inl (by omega)))
        have f65 : zfC (w_X7_readKinLine p1) h h11 := zfC_t f66 f14 (fun a9 b9 z9 => by
          exact (Or.inl z9))
        have f64 : zfC (w_X7_readKinLine p1) h h19 := zfC_t f65 f22 (fun a9 b9 z9 => by
          exact (Or.inl (by omega)))
        have f63 : zfC (w_X7_readKinLine p1) h h59 := zfC_t f64 f62 (fun a9 b9 z9 => by
          exact (Or.inl (by omega)))
        exact zj_zret rfl (zdk ttX7_readKinLine 35 rfl rfl) (Nat.le_refl _) (Nat.le_refl _) (by omega) ⟨v58, rfl, by omega, s61, f63⟩
    · refine zj_iconst (zdk ttX7_readKinLine 22 rfl rfl) ?_
      have f69 : zfC (w_X7_readKinLine p1) h h4 := zfC_t (zfC_r _ _) f7 (fun a9 b9 z9 => by
        exact (Or.inl (by omega)))
      have f68 : zfC (w_X7_readKinLine p1) h h11 := zfC_t f69 f14 (fun a9 b9 z9 => by
        exact (Or.inl z9))
      have f67 : zfC (w_X7_readKinLine p1) h h19 := zfC_t f68 f22 (fun a9 b9 z9 => by
        exact (Or.inl (by omega)))
      exact zj_zret rfl (zdk ttX7_readKinLine 23 rfl rfl) (Nat.le_refl _) (Nat.le_refl _) (by omega) ⟨0, rfl, by omega, s21, f67⟩
  · refine zj_iconst (zdk ttX7_readKinLine 11 rfl rfl) ?_
    have f71 : zfC (w_X7_readKinLine p1) h h4 := zfC_t (zfC_r _ _) f7 (fun a9 b9 z9 => by
      exact (Or.inl (by omega)))
    have f70 : zfC (w_X7_readKinLine p1) h h11 := zfC_t f71 f14 (fun a9 b9 z9 => by
      exact (Or.inl z9))
    exact zj_zret rfl (zdk ttX7_readKinLine 12 rfl rfl) (Nat.le_refl _) (Nat.le_refl _) (by omega) ⟨0, rfl, by omega, s13, f70⟩

abbrev tX7_readKin : List (Nat × Instr × Nat) := [(0, .aload_n 0, 1), (1, .getfield 9, 3), (4, .ldc 130, 2), (6, .invokevirtual 19, 3), (9, .aload_n 1, 1), (10, .invokevirtual 132, 3), (13, .iconst 0, 1), (14, .istore_n 3, 1), (15, .iload_n 3, 1), (16, .bipush 16, 2), (18, .if_icmp .gt 50, 3), (21, .aload_n 0, 1), (22, .getfield 9, 3), (25, .getfield 32, 3), (28, .ifCond .eq 40, 3), (31, .aload_n 0, 1), (32, .getfield 9, 3), (35, .iload_n 3, 1), (36, .iconst 0, 1), (37, .iconst 0, 1), (38, .invokevirtual 35, 3), (41, .ifCond .eq 12, 3), (44, .aload_n 0, 1), (45, .aload_n 1, 1), (46, .iload_n 2, 1), (47, .invokevirtual 135, 3), (50, .ifCond .ne 5, 3), (53, .iconst 0, 1), (54, .ireturn, 1), (55, .aload_n 1, 1), (56, .iload_n 3, 1), (57, .iconst 1, 1), (58, .iadd, 1), (59, .putfield 139, 3), (62, .iinc 3 1, 3), (65, .goto (-50), 3), (68, .iconst 1, 1), (69, .ireturn, 1)]
theorem ttX7_readKin : zdt cX7_readKin tX7_readKin = true := by decide +kernel
abbrev w_X7_readKin (p1 a b : Int) : Prop := (a = 103 ∧ 4 ≤ b ∧ b ≤ 9) ∨ (105 ≤ a ∧ a ≤ 106) ∨ (a = p1 ∧ b = 1) ∨ a = p1 + 1
abbrev q_X7_readKin (h : zM) (p1 : Int) (p2 : Int) : Option zV → zM → Prop := zqi fun v h' => (0 ≤ v ∧ v ≤ 1) ∧ okC h' ∧ zfC (w_X7_readKin p1) h h'
set_option maxRecDepth 100000 in
set_option maxHeartbeats 4000000 in
theorem s_X7_readKin (l : Launch) (h : zM) (p1 : Int) (p2 : Int) (s0 : okC h) (r_p1 : zKi p1) (b_p2 : (-2147483648) ≤ p2 ∧ p2 ≤ 2147483647) : zT shC l yX7_readKin cX7_readKin 4 (some .boolean) (rmL 9) 0 0 [.inr 107, .inr p1, .inl p2] h (q_X7_readKin h p1 p2) := by
  refine zT_of (by decide +kernel) (L0 := [some (.inr 107), some (.inr p1), some (.inl p2), none]) rfl (Nat.le_of_ble_eq_true rfl) ?_
  have b1 := zKi_b r_p1
  refine zj_aload_n (zdk ttX7_readKin 0 rfl rfl) rfl (by decide) ?_
  refine zj_getr (r := 103) (zdk ttX7_readKin 1 rfl rfl) zf_RX7_9 rfl (k_L107 s0) (rf_L107_0 s0) ?_
  refine zj_ldcS (i := 4) (zdk ttX7_readKin 2 rfl rfl) (List.mem_of_getElem? (i := 4) rfl) ?_
  refine zj_callV (av := [.inr (-2 - ((4 : Nat) : Int))]) (st := []) (zdk ttX7_readKin 3 rfl rfl) mb_X6_cut mv_RX7_19 (ci := 6) rfl rfl (k_L103 s0) rfl rfl (Nat.le_of_ble_eq_true rfl) (s_X6_cut l h 4 s0 (show 4 < 5 by decide)) (rm_ok (by decide) (by decide)) (zq_v fun h4 q2 => ?_)
  obtain ⟨s6, f7⟩ := q2
  refine zj_aload_n (zdk ttX7_readKin 4 rfl rfl) rfl (by omega) ?_
  refine zj_callV (av := []) (st := []) (zdk ttX7_readKin 5 rfl rfl) mb_X2_clear mv_RX7_132 (ci := 2) rfl rfl (k_2_0 s6 r_p1) rfl rfl (Nat.le_of_ble_eq_true rfl) (s_X2_clear l h4 p1 s6 r_p1) (rm_ok (by decide) (by decide)) (zq_v fun h10 q8 => ?_)
  obtain ⟨s12, f13⟩ := q8
  refine zj_iconst (zdk ttX7_readKin 6 rfl rfl) ?_
  refine zj_istore_n (L' := [some (.inr 107), some (.inr p1), some (.inl p2), some (.inl 0)]) (zdk ttX7_readKin 7 rfl rfl) (by decide) rfl ?_
  have lp138 : ∀ (n : Nat) (x14 : Int) (h15 : zM), (0 ≤ x14 ∧ x14 ≤ 17) → okC h15 → zfC (w_X7_readKin p1) h h15 → (18 - x14).toNat < n → zJ shC l yX7_readKin cX7_readKin 4 (some .boolean) (rmL 9) 0 0 (q_X7_readKin h p1 p2) 0 0 15 [some (.inr 107), some (.inr p1), some (.inl p2), some (.inl x14)] [] h15 := by
    intro n
    induction n with
    | zero => intro x14 h15 b139 s16 f17 m140; exact absurd m140 (Nat.not_lt_zero _)
    | succ n ih141 =>
      intro x14 h15 b139 s16 f17 m140
      refine zj_iload_n (zdk ttX7_readKin 8 rfl rfl) rfl ?_
      refine zj_bipush (zdk ttX7_readKin 9 rfl rfl) (by decide) ?_
      refine zj_icmp_gt (t := 68) (zdk ttX7_readKin 10 rfl rfl) (by decide) (by omega) (by decide) (fun c142 => ?_) (fun c142 => ?_)
      · refine zj_iconst (zdk ttX7_readKin 36 rfl rfl) ?_
        exact zj_zret rfl (zdk ttX7_readKin 37 rfl rfl) (Nat.le_refl _) (Nat.le_refl _) (by omega) ⟨1, rfl, by omega, s16, f17⟩
      · refine zj_aload_n (zdk ttX7_readKin 11 rfl rfl) rfl (by decide) ?_
        refine zj_getr (r := 103) (zdk ttX7_readKin 12 rfl rfl) zf_RX7_9 rfl (k_L107 s16) (rf_L107_0 s16) ?_
        have b143 : -2147483648 ≤ (h15.2 103 6) ∧ (h15.2 103 6) ≤ 2147483647 := fb_L103_6 s16
        refine zj_geti (v := (h15.2 103 6)) (zdk ttX7_readKin 13 rfl rfl) zf_RX7_32 rfl (k_L103 s16) rfl ?_
        refine zj_if_eq (t := 68) (zdk ttX7_readKin 14 rfl rfl) (by decide) (by omega) (fun c144 => ?_) (fun c144 => ?_)
        · refine zj_iconst (zdk ttX7_readKin 36 rfl rfl) ?_
          exact zj_zret rfl (zdk ttX7_readKin 37 rfl rfl) (Nat.le_refl _) (Nat.le_refl _) (by omega) ⟨1, rfl, by omega, s16, f17⟩
        · refine zj_aload_n (zdk ttX7_readKin 15 rfl rfl) rfl (by decide) ?_
          refine zj_getr (r := 103) (zdk ttX7_readKin 16 rfl rfl) zf_RX7_9 rfl (k_L107 s16) (rf_L107_0 s16) ?_
          refine zj_iload_n (zdk ttX7_readKin 17 rfl rfl) rfl ?_
          refine zj_iconst (zdk ttX7_readKin 18 rfl rfl) ?_
          refine zj_iconst (zdk ttX7_readKin 19 rfl rfl) ?_
          refine zj_callV (av := [.inl x14, .inl 0, .inl 0]) (st := []) (zdk ttX7_readKin 20 rfl rfl) mb_X6_opensLine mv_RX7_35 (ci := 6) rfl rfl (k_L103 s16) rfl rfl (Nat.le_of_ble_eq_true rfl) (s_X6_opensLine l h15 x14 0 0 s16 (by omega) (by omega) (by omega)) (rm_ok (by decide) (by decide)) (zq_i fun v146 h147 q145 => ?_)
          obtain ⟨b148, s149, f151, u150⟩ := q145
          refine zj_if_eq (t := 53) (zdk ttX7_readKin 21 rfl rfl) (by decide) (by omega) (fun c152 => ?_) (fun c152 => ?_)
          · refine zj_iconst (zdk ttX7_readKin 27 rfl rfl) ?_
            have f153 : zfC (w_X7_readKin p1) h h147 := zfC_t f17 f151 (fun a9 b9 z9 => by
              exact (Or.inl (by omega)))
            exact zj_zret rfl (zdk ttX7_readKin 28 rfl rfl) (Nat.le_refl _) (Nat.le_refl _) (by omega) ⟨0, rfl, by omega, s149, f153⟩
          · refine zj_aload_n (zdk ttX7_readKin 22 rfl rfl) rfl (by decide) ?_
            refine zj_aload_n (zdk ttX7_readKin 23 rfl rfl) rfl (by omega) ?_
            refine zj_iload_n (zdk ttX7_readKin 24 rfl rfl) rfl ?_
            refine zj_callV (av := [.inr p1, .inl p2]) (st := []) (zdk ttX7_readKin 25 rfl rfl) mb_X7_readKinLine mv_RX7_135 (ci := 7) rfl rfl (k_L107 s149) rfl rfl (Nat.le_of_ble_eq_true rfl) (s_X7_readKinLine l h147 p1 p2 s149 r_p1 (by omega)) (rm_ok (by decide) (by decide)) (zq_i fun v155 h156 q154 => ?_)
            obtain ⟨b157, s158, f159⟩ := q154
            refine zj_if_ne (t := 55) (zdk ttX7_readKin 26 rfl rfl) (by decide) (by omega) (fun c160 => ?_) (fun c160 => ?_)
            · refine zj_aload_n (zdk ttX7_readKin 29 rfl rfl) rfl (by omega) ?_
              refine zj_iload_n (zdk ttX7_readKin 30 rfl rfl) rfl ?_
              refine zj_iconst (zdk ttX7_readKin 31 rfl rfl) ?_
              refine zj_iadd (zdk ttX7_readKin 32 rfl rfl) ?_
              refine zj_puti (zdk ttX7_readKin 33 rfl rfl) zf_RX7_139 rfl (k_2_0 s158 r_p1) (Or.inl zw_RX7_139) (k2 := 1) rfl (fun h161 e162 => ?_)
              refine zj_iinc (L' := [some (.inr 107), some (.inr p1), some (.inl p2), some (.inl (x14 + 1))]) (zdk ttX7_readKin 34 rfl rfl) rfl (by decide) rfl ?_
              refine zj_goto (t := 15) (zdk ttX7_readKin 35 rfl rfl) (by decide) ?_
              have s163 : okC h161 := fw_2_0_1 s158 r_p1 e162 (by omega)
              have f166 : zfC (w_X7_readKin p1) h h147 := zfC_t f17 f151 (fun a9 b9 z9 => by
                exact (Or.inl (by omega)))
              have f165 : zfC (w_X7_readKin p1) h h156 := zfC_t f166 f159 (fun a9 b9 z9 => by
                rcases z9 with z9 | z9
                · exact (Or.inl (by omega))
                · exact (Or.inr (Or.inr (Or.inr (by omega)))))
              have f164 : zfC (w_X7_readKin p1) h h161 := zfC_w f165 e162 (Or.inr (Or.inr (Or.inl (by omega))))
              exact ih141  (x14 + 1) h161 (by omega) s163 f164 (by omega)
            · refine zj_iconst (zdk ttX7_readKin 27 rfl rfl) ?_
              have f168 : zfC (w_X7_readKin p1) h h147 := zfC_t f17 f151 (fun a9 b9 z9 => by
                exact (Or.inl (by omega)))
              have f167 : zfC (w_X7_readKin p1) h h156 := zfC_t f168 f159 (fun a9 b9 z9 => by
                rcases z9 with z9 | z9
                · exact (Or.inl (by omega))
                · exact (Or.inr (Or.inr (Or.inr (by omega)))))
              exact zj_zret rfl (zdk ttX7_readKin 28 rfl rfl) (Nat.le_refl _) (Nat.le_refl _) (by omega) ⟨0, rfl, by omega, s158, f167⟩
  have f170 : zfC (w_X7_readKin p1) h h4 := zfC_t (zfC_r _ _) f7 (fun a9 b9 z9 => by
    rcases z9 with z9 | z9
    · exact (Or.inl (by omega))
    · exact (Or.inr (Or.inl z9)))
  have f169 : zfC (w_X7_readKin p1) h h10 := zfC_t f170 f13 (fun a9 b9 z9 => by
    rcases z9 with z9 | z9
    · exact (Or.inr (Or.inr (Or.inl (by omega))))
    · exact (Or.inr (Or.inr (Or.inr (by omega)))))
  exact lp138 _ 0 h10 (by omega) s12 f169 (Nat.lt_succ_self _)

abbrev tX10_text : List (Nat × Instr × Nat) := [(0, .aload_n 0, 1), (1, .getfield 10, 3), (4, .getfield 67, 3), (7, .getfield 81, 3), (10, .istore_n 2, 1), (11, .iconst (-1), 1), (12, .istore_n 3, 1), (13, .aload_n 0, 1), (14, .getfield 25, 3), (17, .invokevirtual 143, 3), (20, .iload_n 1, 1), (21, .tableswitch 233 0 3 #[31, 79, 131, 184], 31), (52, .aload_n 0, 1), (53, .getfield 34, 3), (56, .aload_n 0, 1), (57, .getfield 19, 3), (60, .getfield 146, 3), (63, .invokevirtual 150, 3), (66, .ifCond .eq 188, 3), (69, .aload_n 0, 1), (70, .getfield 10, 3), (73, .getfield 146, 3), (76, .aload_n 0, 1), (77, .getfield 19, 3), (80, .getfield 146, 3), (83, .invokevirtual 154, 3), (86, .aload_n 0, 1), (87, .getfield 10, 3), (90, .getfield 146, 3), (93, .getfield 160, 3), (96, .istore_n 3, 1), (97, .goto 157, 3), (100, .aload_n 0, 1), (101, .getfield 34, 3), (104, .aload_n 0, 1), (105, .getfield 19, 3), (108, .getfield 163, 3), (111, .invokevirtual 167, 3), (114, .ifCond .eq 140, 3), (117, .aload_n 0, 1), (118, .getfield 10, 3), (121, .getfield 163, 3), (124, .aload_n 0, 1), (125, .getfield 19, 3), (128, .getfield 163, 3), (131, .invokevirtual 171, 3), (134, .aload_n 0, 1), (135, .getfield 10, 3), (138, .getfield 163, 3), (141, .getfield 176, 3), (144, .istore_n 3, 1), (145, .aload_n 0, 1), (146, .invokevirtual 74, 3), (149, .goto 105, 3), (152, .aload_n 0, 1), (153, .getfield 34, 3), (156, .aload_n 0, 1), (157, .getfield 19, 3), (160, .getfield 177, 3), (163, .iload_n 2, 1), (164, .invokevirtual 180, 3), (167, .ifCond .eq 87, 3), (170, .aload_n 0, 1), (171, .getfield 10, 3), (174, .getfield 177, 3), (177, .aload_n 0, 1), (178, .getfield 19, 3), (181, .getfield 177, 3), (184, .invokevirtual 171, 3), (187, .aload_n 0, 1), (188, .getfield 10, 3), (191, .getfield 177, 3), (194, .getfield 176, 3), (197, .istore_n 3, 1), (198, .aload_n 0, 1), (199, .invokevirtual 74, 3), (202, .goto 52, 3), (205, .aload_n 0, 1), (206, .getfield 34, 3), (209, .aload_n 0, 1), (210, .getfield 19, 3), (213, .getfield 184, 3), (216, .iload_n 2, 1), (217, .invokevirtual 188, 3), (220, .ifCond .eq 34, 3), (223, .aload_n 0, 1), (224, .getfield 10, 3), (227, .getfield 184, 3), (230, .aload_n 0, 1), (231, .getfield 19, 3), (234, .getfield 184, 3), (237, .invokevirtual 192, 3), (240, .aload_n 0, 1), (241, .getfield 10, 3), (244, .getfield 184, 3), (247, .getfield 197, 3), (250, .istore_n 3, 1), (251, .goto 3, 3), (254, .aload_n 0, 1), (255, .getfield 25, 3), (258, .iconst 0, 1), (259, .putfield 137, 3), (262, .iload_n 3, 1), (263, .ireturn, 1)]
theorem ttX10_text : zdt cX10_text tX10_text = true := by decide +kernel
abbrev w_X10_text (a b : Int) : Prop := (a = 0 ∧ b = 8) ∨ (a = 6 ∧ 6 ≤ b ∧ b ≤ 7) ∨ (7 ≤ a ∧ a ≤ 11) ∨ (a = 13 ∧ b = 3) ∨ (14 ≤ a ∧ a ≤ 16) ∨ (a = 17 ∧ b = 3) ∨ (18 ≤ a ∧ a ≤ 20) ∨ (a = 21 ∧ b = 1) ∨ a = 22 ∨ (a = 74 ∧ 6 ≤ b ∧ b ≤ 7) ∨ (75 ≤ a ∧ a ≤ 79) ∨ (a = 81 ∧ b = 3) ∨ (82 ≤ a ∧ a ≤ 84) ∨ (a = 85 ∧ b = 3) ∨ (86 ≤ a ∧ a ≤ 88) ∨ (a = 89 ∧ b = 1) ∨ a = 90 ∨ (a = 103 ∧ 3 ≤ b ∧ b ≤ 9) ∨ (105 ≤ a ∧ a ≤ 106)
abbrev q_X10_text (h : zM) (p1 : Int) : Option zV → zM → Prop := zqi fun v h' => ((-2147483648) ≤ v ∧ v ≤ 2147483647) ∧ okC h' ∧ zfC w_X10_text h h' ∧ (h'.2 103 3 = 0) ∧ (zJP h → zJP h')
set_option maxRecDepth 100000 in
set_option maxHeartbeats 4000000 in
theorem s_X10_text (l : Launch) (h : zM) (p1 : Int) (s0 : okC h) (b_p1 : (-2147483648) ≤ p1 ∧ p1 ≤ 2147483647) : zT shC l yX10_text cX10_text 4 (some .int) (rmL 33) 0 0 [.inr 0, .inl p1] h (q_X10_text h p1) := by
  refine zT_of (by decide +kernel) (L0 := [some (.inr 0), some (.inl p1), none, none]) rfl (Nat.le_of_ble_eq_true rfl) ?_
  refine zj_aload_n (zdk ttX10_text 0 rfl rfl) rfl (by decide) ?_
  refine zj_getr (r := 1) (zdk ttX10_text 1 rfl rfl) zf_RX10_10 rfl (k_L0 s0) (rf_L0_0 s0) ?_
  refine zj_getr (r := 2) (zdk ttX10_text 2 rfl rfl) zf_RX10_67 rfl (k_9_0 s0 zWd_1) (rf_9_0_0 s0 zWd_1) ?_
  have b1 : 0 ≤ (h.2 2 3) ∧ (h.2 2 3) ≤ 18 := fb_1_0_3 s0 zIs_2
  refine zj_geti (v := (h.2 2 3)) (zdk ttX10_text 3 rfl rfl) zf_RX10_81 rfl (k_1_0 s0 zIs_2) rfl ?_
  refine zj_istore_n (L' := [some (.inr 0), some (.inl p1), some (.inl (h.2 2 3)), none]) (zdk ttX10_text 4 rfl rfl) (by decide) rfl ?_
  refine zj_iconst (zdk ttX10_text 5 rfl rfl) ?_
  refine zj_istore_n (L' := [some (.inr 0), some (.inl p1), some (.inl (h.2 2 3)), some (.inl (-1))]) (zdk ttX10_text 6 rfl rfl) (by decide) rfl ?_
  refine zj_aload_n (zdk ttX10_text 7 rfl rfl) rfl (by decide) ?_
  refine zj_getr (r := 103) (zdk ttX10_text 8 rfl rfl) zf_RX10_25 rfl (k_L0 s0) (rf_L0_3 s0) ?_
  refine zj_callV (av := []) (st := []) (zdk ttX10_text 9 rfl rfl) mb_X6_rewind mv_RX10_143 (ci := 6) rfl rfl (k_L103 s0) rfl rfl (Nat.le_of_ble_eq_true rfl) (s_X6_rewind l h s0) (rm_ok (by decide) (by decide)) (zq_v fun h4 q2 => ?_)
  obtain ⟨s6, f7⟩ := q2
  refine zj_iload_n (zdk ttX10_text 10 rfl rfl) rfl ?_
  have k9 : (p1 < 0 ∨ 3 < p1) → zJ shC l yX10_text cX10_text 4 (some .int) (rmL 33) 0 0 (q_X10_text h p1) 0 0 254 [some (.inr 0), some (.inl p1), some (.inl (h.2 2 3)), some (.inl (-1))] [] h4 := by
    intro c8
    refine zj_aload_n (zdk ttX10_text 98 rfl rfl) rfl (by decide) ?_
    refine zj_getr (r := 103) (zdk ttX10_text 99 rfl rfl) zf_RX10_25 rfl (k_L0 s6) (rf_L0_3 s6) ?_
    refine zj_iconst (zdk ttX10_text 100 rfl rfl) ?_
    refine zj_puti (zdk ttX10_text 101 rfl rfl) zf_RX10_137 rfl (k_L103 s6) (Or.inl zw_RX10_137) (k2 := 3) rfl (fun h10 e11 => ?_)
    refine zj_iload_n (zdk ttX10_text 102 rfl rfl) rfl ?_
    have s12 : okC h10 := fw_L103_3 s6 e11 (by omega)
    have f14 : zfC w_X10_text h h4 := zfC_t (zfC_r _ _) f7 (fun a9 b9 z9 => by
      exact (Or.inr (Or.inr (Or.inr (Or.inr (Or.inr (Or.inr (Or.inr (Or.inr (Or.inr (Or.inr (Or.inr (Or.inr (Or.inr (Or.inr (Or.inr (Or.inr (Or.inr (Or.inl (by omega))))))))))))))))))))
    have f13 : zfC w_X10_text h h10 := zfC_w f14 e11 (Or.inr (Or.inr (Or.inr (Or.inr (Or.inr (Or.inr (Or.inr (Or.inr (Or.inr (Or.inr (Or.inr (Or.inr (Or.inr (Or.inr (Or.inr (Or.inr (Or.inr (Or.inl (by omega)))))))))))))))))))
    have b15 : h10.2 103 3 = 0 := (zwr_v e11)
    exact zj_iret rfl (zdk ttX10_text 103 rfl rfl) (Nat.le_refl _) (Nat.le_refl _) ⟨(-1), rfl, by omega, s12, f13, by omega, (fun j => zJP_g s0 ((zwr_r e11 (by decide)).trans (zfC_a f7 (fun z9 => by unfold w_X6_rewind at z9; first | (revert z9; decide) | omega))) ((zwr_r e11 (by decide)).trans (zfC_a f7 (fun z9 => by unfold w_X6_rewind at z9; first | (revert z9; decide) | omega))) (fun a b z1 z2 => ((zwr_r e11 (by first | decide | exact (absurd ·.1 (by decide)) | exact (absurd ·.2 (by decide)) | omega)).trans (zfC_a f7 (fun z9 => by unfold w_X6_rewind at z9; first | (revert z9; decide) | omega)))) j)⟩
  have k16 : p1 = 0 → zJ shC l yX10_text cX10_text 4 (some .int) (rmL 33) 0 0 (q_X10_text h p1) 0 0 52 [some (.inr 0), some (.inl p1), some (.inl (h.2 2 3)), some (.inl (-1))] [] h4 := by
    intro c8
    refine zj_aload_n (zdk ttX10_text 12 rfl rfl) rfl (by decide) ?_
    refine zj_getr (r := 107) (zdk ttX10_text 13 rfl rfl) zf_RX10_34 rfl (k_L0 s6) (rf_L0_4 s6) ?_
    refine zj_aload_n (zdk ttX10_text 14 rfl rfl) rfl (by decide) ?_
    refine zj_getr (r := 69) (zdk ttX10_text 15 rfl rfl) zf_RX10_19 rfl (k_L0 s6) (rf_L0_2 s6) ?_
    refine zj_getr (r := 74) (zdk ttX10_text 16 rfl rfl) zf_RX10_146 rfl (k_9_0 s6 zWd_69) (rf_9_0_1 s6 zWd_69) ?_
    refine zj_callV (av := [.inr 74]) (st := []) (zdk ttX10_text 17 rfl rfl) mb_X7_readLaw mv_RX10_150 (ci := 7) rfl rfl (k_L107 s6) rfl rfl (Nat.le_of_ble_eq_true rfl) (s_X7_readLaw l h4 74 s6 zLw_74) (rm_ok (by decide) (by decide)) (zq_i fun v18 h19 q17 => ?_)
    obtain ⟨b20, s21, f22⟩ := q17
    refine zj_if_eq (t := 254) (zdk ttX10_text 18 rfl rfl) (by decide) (by omega) (fun c23 => ?_) (fun c23 => ?_)
    · refine zj_aload_n (zdk ttX10_text 98 rfl rfl) rfl (by decide) ?_
      refine zj_getr (r := 103) (zdk ttX10_text 99 rfl rfl) zf_RX10_25 rfl (k_L0 s21) (rf_L0_3 s21) ?_
      refine zj_iconst (zdk ttX10_text 100 rfl rfl) ?_
      refine zj_puti (zdk ttX10_text 101 rfl rfl) zf_RX10_137 rfl (k_L103 s21) (Or.inl zw_RX10_137) (k2 := 3) rfl (fun h24 e25 => ?_)
      refine zj_iload_n (zdk ttX10_text 102 rfl rfl) rfl ?_
      have s26 : okC h24 := fw_L103_3 s21 e25 (by omega)
      have f29 : zfC w_X10_text h h4 := zfC_t (zfC_r _ _) f7 (fun a9 b9 z9 => by
        exact (Or.inr (Or.inr (Or.inr (Or.inr (Or.inr (Or.inr (Or.inr (Or.inr (Or.inr (Or.inr (Or.inr (Or.inr (Or.inr (Or.inr (Or.inr (Or.inr (Or.inr (Or.inl (by omega))))))))))))))))))))
      have f28 : zfC w_X10_text h h19 := zfC_t f29 f22 (fun a9 b9 z9 => by
        rcases z9 with z9 | z9 | z9 | z9
        · exact (Or.inr (Or.inr (Or.inr (Or.inr (Or.inr (Or.inr (Or.inr (Or.inr (Or.inr (Or.inr (Or.inr (Or.inr (Or.inr (Or.inr (Or.inr (Or.inr (Or.inr (Or.inl (by omega)))))))))))))))))))
        · exact (Or.inr (Or.inr (Or.inr (Or.inr (Or.inr (Or.inr (Or.inr (Or.inr (Or.inr (Or.inr (Or.inr (Or.inr (Or.inr (Or.inr (Or.inr (Or.inr (Or.inr (Or.inr z9))))))))))))))))))
        · exact (Or.inr (Or.inr (Or.inr (Or.inr (Or.inr (Or.inr (Or.inr (Or.inr (Or.inr (Or.inl z9))))))))))
        · exact (Or.inr (Or.inr (Or.inr (Or.inr (Or.inr (Or.inr (Or.inr (Or.inr (Or.inr (Or.inr (Or.inl z9))))))))))))
      have f27 : zfC w_X10_text h h24 := zfC_w f28 e25 (Or.inr (Or.inr (Or.inr (Or.inr (Or.inr (Or.inr (Or.inr (Or.inr (Or.inr (Or.inr (Or.inr (Or.inr (Or.inr (Or.inr (Or.inr (Or.inr (Or.inr (Or.inl (by omega)))))))))))))))))))
      have b30 : h24.2 103 3 = 0 := (zwr_v e25)
      exact zj_iret rfl (zdk ttX10_text 103 rfl rfl) (Nat.le_refl _) (Nat.le_refl _) ⟨(-1), rfl, by omega, s26, f27, by omega, (fun j => zJP_g s0 (((zwr_r e25 (by decide)).trans (zfC_a f22 (fun z9 => by unfold w_X7_readLaw at z9; first | (revert z9; decide) | omega))).trans (zfC_a f7 (fun z9 => by unfold w_X6_rewind at z9; first | (revert z9; decide) | omega))) (((zwr_r e25 (by decide)).trans (zfC_a f22 (fun z9 => by unfold w_X7_readLaw at z9; first | (revert z9; decide) | omega))).trans (zfC_a f7 (fun z9 => by unfold w_X6_rewind at z9; first | (revert z9; decide) | omega))) (fun a b z1 z2 => (((zwr_r e25 (by first | decide | exact (absurd ·.1 (by decide)) | exact (absurd ·.2 (by decide)) | omega)).trans (zfC_a f22 (fun z9 => by unfold w_X7_readLaw at z9; first | (revert z9; decide) | omega))).trans (zfC_a f7 (fun z9 => by unfold w_X6_rewind at z9; first | (revert z9; decide) | omega)))) j)⟩
    · refine zj_aload_n (zdk ttX10_text 19 rfl rfl) rfl (by decide) ?_
      refine zj_getr (r := 1) (zdk ttX10_text 20 rfl rfl) zf_RX10_10 rfl (k_L0 s21) (rf_L0_0 s21) ?_
      refine zj_getr (r := 6) (zdk ttX10_text 21 rfl rfl) zf_RX10_146 rfl (k_9_0 s21 zWd_1) (rf_9_0_1 s21 zWd_1) ?_
      refine zj_aload_n (zdk ttX10_text 22 rfl rfl) rfl (by decide) ?_
      refine zj_getr (r := 69) (zdk ttX10_text 23 rfl rfl) zf_RX10_19 rfl (k_L0 s21) (rf_L0_2 s21) ?_
      refine zj_getr (r := 74) (zdk ttX10_text 24 rfl rfl) zf_RX10_146 rfl (k_9_0 s21 zWd_69) (rf_9_0_1 s21 zWd_69) ?_
      refine zj_callV (av := [.inr 74]) (st := []) (zdk ttX10_text 25 rfl rfl) mb_X3_copyFrom mv_RX10_154 (ci := 3) rfl rfl (k_3_0 s21 zLw_6) rfl rfl (Nat.le_of_ble_eq_true rfl) (s_X3_copyFrom l h19 6 74 s21 zLw_6 zLw_74) (rm_ok (by decide) (by decide)) (zq_v fun h33 q31 => ?_)
      obtain ⟨s35, f36⟩ := q31
      refine zj_aload_n (zdk ttX10_text 26 rfl rfl) rfl (by decide) ?_
      refine zj_getr (r := 1) (zdk ttX10_text 27 rfl rfl) zf_RX10_10 rfl (k_L0 s35) (rf_L0_0 s35) ?_
      refine zj_getr (r := 6) (zdk ttX10_text 28 rfl rfl) zf_RX10_146 rfl (k_9_0 s35 zWd_1) (rf_9_0_1 s35 zWd_1) ?_
      have b37 : 0 ≤ (h33.2 6 6) ∧ (h33.2 6 6) ≤ 16 := fb_3_0_6 s35 zLw_6
      refine zj_geti (v := (h33.2 6 6)) (zdk ttX10_text 29 rfl rfl) zf_RX10_160 rfl (k_3_0 s35 zLw_6) rfl ?_
      refine zj_istore_n (L' := [some (.inr 0), some (.inl p1), some (.inl (h.2 2 3)), some (.inl (h33.2 6 6))]) (zdk ttX10_text 30 rfl rfl) (by decide) rfl ?_
      refine zj_goto (t := 254) (zdk ttX10_text 31 rfl rfl) (by decide) ?_
      refine zj_aload_n (zdk ttX10_text 98 rfl rfl) rfl (by decide) ?_
      refine zj_getr (r := 103) (zdk ttX10_text 99 rfl rfl) zf_RX10_25 rfl (k_L0 s35) (rf_L0_3 s35) ?_
      refine zj_iconst (zdk ttX10_text 100 rfl rfl) ?_
      refine zj_puti (zdk ttX10_text 101 rfl rfl) zf_RX10_137 rfl (k_L103 s35) (Or.inl zw_RX10_137) (k2 := 3) rfl (fun h38 e39 => ?_)
      refine zj_iload_n (zdk ttX10_text 102 rfl rfl) rfl ?_
      have s40 : okC h38 := fw_L103_3 s35 e39 (by omega)
      have f44 : zfC w_X10_text h h4 := zfC_t (zfC_r _ _) f7 (fun a9 b9 z9 => by
        exact (Or.inr (Or.inr (Or.inr (Or.inr (Or.inr (Or.inr (Or.inr (Or.inr (Or.inr (Or.inr (Or.inr (Or.inr (Or.inr (Or.inr (Or.inr (Or.inr (Or.inr (Or.inl (by omega))))))))))))))))))))
      have f43 : zfC w_X10_text h h19 := zfC_t f44 f22 (fun a9 b9 z9 => by
        rcases z9 with z9 | z9 | z9 | z9
        · exact (Or.inr (Or.inr (Or.inr (Or.inr (Or.inr (Or.inr (Or.inr (Or.inr (Or.inr (Or.inr (Or.inr (Or.inr (Or.inr (Or.inr (Or.inr (Or.inr (Or.inr (Or.inl (by omega)))))))))))))))))))
        · exact (Or.inr (Or.inr (Or.inr (Or.inr (Or.inr (Or.inr (Or.inr (Or.inr (Or.inr (Or.inr (Or.inr (Or.inr (Or.inr (Or.inr (Or.inr (Or.inr (Or.inr (Or.inr z9))))))))))))))))))
        · exact (Or.inr (Or.inr (Or.inr (Or.inr (Or.inr (Or.inr (Or.inr (Or.inr (Or.inr (Or.inl z9))))))))))
        · exact (Or.inr (Or.inr (Or.inr (Or.inr (Or.inr (Or.inr (Or.inr (Or.inr (Or.inr (Or.inr (Or.inl z9))))))))))))
      have f42 : zfC w_X10_text h h33 := zfC_t f43 f36 (fun a9 b9 z9 => by
        rcases z9 with z9 | z9
        · exact (Or.inr (Or.inl z9))
        · exact (Or.inr (Or.inr (Or.inl z9))))
      have f41 : zfC w_X10_text h h38 := zfC_w f42 e39 (Or.inr (Or.inr (Or.inr (Or.inr (Or.inr (Or.inr (Or.inr (Or.inr (Or.inr (Or.inr (Or.inr (Or.inr (Or.inr (Or.inr (Or.inr (Or.inr (Or.inr (Or.inl (by omega)))))))))))))))))))
      have b45 : h38.2 103 3 = 0 := (zwr_v e39)
      exact zj_iret rfl (zdk ttX10_text 103 rfl rfl) (Nat.le_refl _) (Nat.le_refl _) ⟨(h33.2 6 6), rfl, by omega, s40, f41, by omega, (fun j => zJP_g s0 ((((zwr_r e39 (by decide)).trans (zfC_a f36 (fun z9 => by unfold w_X3_copyFrom at z9; first | (revert z9; decide) | omega))).trans (zfC_a f22 (fun z9 => by unfold w_X7_readLaw at z9; first | (revert z9; decide) | omega))).trans (zfC_a f7 (fun z9 => by unfold w_X6_rewind at z9; first | (revert z9; decide) | omega))) ((((zwr_r e39 (by decide)).trans (zfC_a f36 (fun z9 => by unfold w_X3_copyFrom at z9; first | (revert z9; decide) | omega))).trans (zfC_a f22 (fun z9 => by unfold w_X7_readLaw at z9; first | (revert z9; decide) | omega))).trans (zfC_a f7 (fun z9 => by unfold w_X6_rewind at z9; first | (revert z9; decide) | omega))) (fun a b z1 z2 => ((((zwr_r e39 (by first | decide | exact (absurd ·.1 (by decide)) | exact (absurd ·.2 (by decide)) | omega)).trans (zfC_a f36 (fun z9 => by unfold w_X3_copyFrom at z9; first | (revert z9; decide) | omega))).trans (zfC_a f22 (fun z9 => by unfold w_X7_readLaw at z9; first | (revert z9; decide) | omega))).trans (zfC_a f7 (fun z9 => by unfold w_X6_rewind at z9; first | (revert z9; decide) | omega)))) j)⟩
  have k46 : p1 = 1 → zJ shC l yX10_text cX10_text 4 (some .int) (rmL 33) 0 0 (q_X10_text h p1) 0 0 100 [some (.inr 0), some (.inl p1), some (.inl (h.2 2 3)), some (.inl (-1))] [] h4 := by
    intro c8
    refine zj_aload_n (zdk ttX10_text 32 rfl rfl) rfl (by decide) ?_
    refine zj_getr (r := 107) (zdk ttX10_text 33 rfl rfl) zf_RX10_34 rfl (k_L0 s6) (rf_L0_4 s6) ?_
    refine zj_aload_n (zdk ttX10_text 34 rfl rfl) rfl (by decide) ?_
    refine zj_getr (r := 69) (zdk ttX10_text 35 rfl rfl) zf_RX10_19 rfl (k_L0 s6) (rf_L0_2 s6) ?_
    refine zj_getr (r := 81) (zdk ttX10_text 36 rfl rfl) zf_RX10_163 rfl (k_9_0 s6 zWd_69) (rf_9_0_2 s6 zWd_69) ?_
    refine zj_callV (av := [.inr 81]) (st := []) (zdk ttX10_text 37 rfl rfl) mb_X7_readBoats mv_RX10_167 (ci := 7) rfl rfl (k_L107 s6) rfl rfl (Nat.le_of_ble_eq_true rfl) (s_X7_readBoats l h4 81 s6 zPl_81) (rm_ok (by decide) (by decide)) (zq_i fun v48 h49 q47 => ?_)
    obtain ⟨b50, s51, f52⟩ := q47
    refine zj_if_eq (t := 254) (zdk ttX10_text 38 rfl rfl) (by decide) (by omega) (fun c53 => ?_) (fun c53 => ?_)
    · refine zj_aload_n (zdk ttX10_text 98 rfl rfl) rfl (by decide) ?_
      refine zj_getr (r := 103) (zdk ttX10_text 99 rfl rfl) zf_RX10_25 rfl (k_L0 s51) (rf_L0_3 s51) ?_
      refine zj_iconst (zdk ttX10_text 100 rfl rfl) ?_
      refine zj_puti (zdk ttX10_text 101 rfl rfl) zf_RX10_137 rfl (k_L103 s51) (Or.inl zw_RX10_137) (k2 := 3) rfl (fun h54 e55 => ?_)
      refine zj_iload_n (zdk ttX10_text 102 rfl rfl) rfl ?_
      have s56 : okC h54 := fw_L103_3 s51 e55 (by omega)
      have f59 : zfC w_X10_text h h4 := zfC_t (zfC_r _ _) f7 (fun a9 b9 z9 => by
        exact (Or.inr (Or.inr (Or.inr (Or.inr (Or.inr (Or.inr (Or.inr (Or.inr (Or.inr (Or.inr (Or.inr (Or.inr (Or.inr (Or.inr (Or.inr (Or.inr (Or.inr (Or.inl (by omega))))))))))))))))))))
      have f58 : zfC w_X10_text h h49 := zfC_t f59 f52 (fun a9 b9 z9 => by
        rcases z9 with z9 | z9 | z9 | z9
        · exact (Or.inr (Or.inr (Or.inr (Or.inr (Or.inr (Or.inr (Or.inr (Or.inr (Or.inr (Or.inr (Or.inr (Or.inr (Or.inr (Or.inr (Or.inr (Or.inr (Or.inr (Or.inl (by omega)))))))))))))))))))
        · exact (Or.inr (Or.inr (Or.inr (Or.inr (Or.inr (Or.inr (Or.inr (Or.inr (Or.inr (Or.inr (Or.inr (Or.inr (Or.inr (Or.inr (Or.inr (Or.inr (Or.inr (Or.inr z9))))))))))))))))))
        · exact (Or.inr (Or.inr (Or.inr (Or.inr (Or.inr (Or.inr (Or.inr (Or.inr (Or.inr (Or.inr (Or.inr (Or.inl z9))))))))))))
        · exact (Or.inr (Or.inr (Or.inr (Or.inr (Or.inr (Or.inr (Or.inr (Or.inr (Or.inr (Or.inr (Or.inr (Or.inr (Or.inl z9))))))))))))))
      have f57 : zfC w_X10_text h h54 := zfC_w f58 e55 (Or.inr (Or.inr (Or.inr (Or.inr (Or.inr (Or.inr (Or.inr (Or.inr (Or.inr (Or.inr (Or.inr (Or.inr (Or.inr (Or.inr (Or.inr (Or.inr (Or.inr (Or.inl (by omega)))))))))))))))))))
      have b60 : h54.2 103 3 = 0 := (zwr_v e55)
      exact zj_iret rfl (zdk ttX10_text 103 rfl rfl) (Nat.le_refl _) (Nat.le_refl _) ⟨(-1), rfl, by omega, s56, f57, by omega, (fun j => zJP_g s0 (((zwr_r e55 (by decide)).trans (zfC_a f52 (fun z9 => by unfold w_X7_readBoats at z9; first | (revert z9; decide) | omega))).trans (zfC_a f7 (fun z9 => by unfold w_X6_rewind at z9; first | (revert z9; decide) | omega))) (((zwr_r e55 (by decide)).trans (zfC_a f52 (fun z9 => by unfold w_X7_readBoats at z9; first | (revert z9; decide) | omega))).trans (zfC_a f7 (fun z9 => by unfold w_X6_rewind at z9; first | (revert z9; decide) | omega))) (fun a b z1 z2 => (((zwr_r e55 (by first | decide | exact (absurd ·.1 (by decide)) | exact (absurd ·.2 (by decide)) | omega)).trans (zfC_a f52 (fun z9 => by unfold w_X7_readBoats at z9; first | (revert z9; decide) | omega))).trans (zfC_a f7 (fun z9 => by unfold w_X6_rewind at z9; first | (revert z9; decide) | omega)))) j)⟩
    · refine zj_aload_n (zdk ttX10_text 39 rfl rfl) rfl (by decide) ?_
      refine zj_getr (r := 1) (zdk ttX10_text 40 rfl rfl) zf_RX10_10 rfl (k_L0 s51) (rf_L0_0 s51) ?_
      refine zj_getr (r := 13) (zdk ttX10_text 41 rfl rfl) zf_RX10_163 rfl (k_9_0 s51 zWd_1) (rf_9_0_2 s51 zWd_1) ?_
      refine zj_aload_n (zdk ttX10_text 42 rfl rfl) rfl (by decide) ?_
      refine zj_getr (r := 69) (zdk ttX10_text 43 rfl rfl) zf_RX10_19 rfl (k_L0 s51) (rf_L0_2 s51) ?_
      refine zj_getr (r := 81) (zdk ttX10_text 44 rfl rfl) zf_RX10_163 rfl (k_9_0 s51 zWd_69) (rf_9_0_2 s51 zWd_69) ?_
      refine zj_callV (av := [.inr 81]) (st := []) (zdk ttX10_text 45 rfl rfl) mb_X4_copyFrom mv_RX10_171 (ci := 4) rfl rfl (k_4_0 s51 zPl_13) rfl rfl (Nat.le_of_ble_eq_true rfl) (s_X4_copyFrom l h49 13 81 s51 zPl_13 zPl_81) (rm_ok (by decide) (by decide)) (zq_v fun h63 q61 => ?_)
      obtain ⟨s65, f66⟩ := q61
      refine zj_aload_n (zdk ttX10_text 46 rfl rfl) rfl (by decide) ?_
      refine zj_getr (r := 1) (zdk ttX10_text 47 rfl rfl) zf_RX10_10 rfl (k_L0 s65) (rf_L0_0 s65) ?_
      refine zj_getr (r := 13) (zdk ttX10_text 48 rfl rfl) zf_RX10_163 rfl (k_9_0 s65 zWd_1) (rf_9_0_2 s65 zWd_1) ?_
      have b67 : 0 ≤ (h63.2 13 3) ∧ (h63.2 13 3) ≤ 16 := fb_4_0_3 s65 zPl_13
      refine zj_geti (v := (h63.2 13 3)) (zdk ttX10_text 49 rfl rfl) zf_RX10_176 rfl (k_4_0 s65 zPl_13) rfl ?_
      refine zj_istore_n (L' := [some (.inr 0), some (.inl p1), some (.inl (h.2 2 3)), some (.inl (h63.2 13 3))]) (zdk ttX10_text 50 rfl rfl) (by decide) rfl ?_
      refine zj_aload_n (zdk ttX10_text 51 rfl rfl) rfl (by decide) ?_
      refine zj_callV (av := []) (st := []) (zdk ttX10_text 52 rfl rfl) mb_X10_forget mv_RX10_74 (ci := 10) rfl rfl (k_L0 s65) rfl rfl (Nat.le_of_ble_eq_true rfl) (s_X10_forget l h63 s65) (rm_ok (by decide) (by decide)) (zq_v fun h70 q68 => ?_)
      obtain ⟨s72, f74, u73⟩ := q68
      refine zj_goto (t := 254) (zdk ttX10_text 53 rfl rfl) (by decide) ?_
      refine zj_aload_n (zdk ttX10_text 98 rfl rfl) rfl (by decide) ?_
      refine zj_getr (r := 103) (zdk ttX10_text 99 rfl rfl) zf_RX10_25 rfl (k_L0 s72) (rf_L0_3 s72) ?_
      refine zj_iconst (zdk ttX10_text 100 rfl rfl) ?_
      refine zj_puti (zdk ttX10_text 101 rfl rfl) zf_RX10_137 rfl (k_L103 s72) (Or.inl zw_RX10_137) (k2 := 3) rfl (fun h75 e76 => ?_)
      refine zj_iload_n (zdk ttX10_text 102 rfl rfl) rfl ?_
      have s77 : okC h75 := fw_L103_3 s72 e76 (by omega)
      have f82 : zfC w_X10_text h h4 := zfC_t (zfC_r _ _) f7 (fun a9 b9 z9 => by
        exact (Or.inr (Or.inr (Or.inr (Or.inr (Or.inr (Or.inr (Or.inr (Or.inr (Or.inr (Or.inr (Or.inr (Or.inr (Or.inr (Or.inr (Or.inr (Or.inr (Or.inr (Or.inl (by omega))))))))))))))))))))
      have f81 : zfC w_X10_text h h49 := zfC_t f82 f52 (fun a9 b9 z9 => by
        rcases z9 with z9 | z9 | z9 | z9
        · exact (Or.inr (Or.inr (Or.inr (Or.inr (Or.inr (Or.inr (Or.inr (Or.inr (Or.inr (Or.inr (Or.inr (Or.inr (Or.inr (Or.inr (Or.inr (Or.inr (Or.inr (Or.inl (by omega)))))))))))))))))))
        · exact (Or.inr (Or.inr (Or.inr (Or.inr (Or.inr (Or.inr (Or.inr (Or.inr (Or.inr (Or.inr (Or.inr (Or.inr (Or.inr (Or.inr (Or.inr (Or.inr (Or.inr (Or.inr z9))))))))))))))))))
        · exact (Or.inr (Or.inr (Or.inr (Or.inr (Or.inr (Or.inr (Or.inr (Or.inr (Or.inr (Or.inr (Or.inr (Or.inl z9))))))))))))
        · exact (Or.inr (Or.inr (Or.inr (Or.inr (Or.inr (Or.inr (Or.inr (Or.inr (Or.inr (Or.inr (Or.inr (Or.inr (Or.inl z9))))))))))))))
      have f80 : zfC w_X10_text h h63 := zfC_t f81 f66 (fun a9 b9 z9 => by
        rcases z9 with z9 | z9
        · exact (Or.inr (Or.inr (Or.inr (Or.inl z9))))
        · exact (Or.inr (Or.inr (Or.inr (Or.inr (Or.inl z9))))))
      have f79 : zfC w_X10_text h h70 := zfC_t f80 f74 (fun a9 b9 z9 => by
        exact (Or.inl z9))
      have f78 : zfC w_X10_text h h75 := zfC_w f79 e76 (Or.inr (Or.inr (Or.inr (Or.inr (Or.inr (Or.inr (Or.inr (Or.inr (Or.inr (Or.inr (Or.inr (Or.inr (Or.inr (Or.inr (Or.inr (Or.inr (Or.inr (Or.inl (by omega)))))))))))))))))))
      have b83 : h75.2 103 3 = 0 := (zwr_v e76)
      have b84 : h75.2 0 8 = (h70.2 0 8) := (zwr_r e76 (by first | decide | exact (absurd ·.1 (by decide)) | exact (absurd ·.2 (by decide)) | omega))
      exact zj_iret rfl (zdk ttX10_text 103 rfl rfl) (Nat.le_refl _) (Nat.le_refl _) ⟨(h63.2 13 3), rfl, by omega, s77, f78, by omega, (fun _ => zJP_0 (by omega))⟩
  have k85 : p1 = 2 → zJ shC l yX10_text cX10_text 4 (some .int) (rmL 33) 0 0 (q_X10_text h p1) 0 0 152 [some (.inr 0), some (.inl p1), some (.inl (h.2 2 3)), some (.inl (-1))] [] h4 := by
    intro c8
    refine zj_aload_n (zdk ttX10_text 54 rfl rfl) rfl (by decide) ?_
    refine zj_getr (r := 107) (zdk ttX10_text 55 rfl rfl) zf_RX10_34 rfl (k_L0 s6) (rf_L0_4 s6) ?_
    refine zj_aload_n (zdk ttX10_text 56 rfl rfl) rfl (by decide) ?_
    refine zj_getr (r := 69) (zdk ttX10_text 57 rfl rfl) zf_RX10_19 rfl (k_L0 s6) (rf_L0_2 s6) ?_
    refine zj_getr (r := 85) (zdk ttX10_text 58 rfl rfl) zf_RX10_177 rfl (k_9_0 s6 zWd_69) (rf_9_0_3 s6 zWd_69) ?_
    refine zj_iload_n (zdk ttX10_text 59 rfl rfl) rfl ?_
    refine zj_callV (av := [.inr 85, .inl (h.2 2 3)]) (st := []) (zdk ttX10_text 60 rfl rfl) mb_X7_readTown mv_RX10_180 (ci := 7) rfl rfl (k_L107 s6) rfl rfl (Nat.le_of_ble_eq_true rfl) (s_X7_readTown l h4 85 (h.2 2 3) s6 zPl_85 (by omega)) (rm_ok (by decide) (by decide)) (zq_i fun v87 h88 q86 => ?_)
    obtain ⟨b89, s90, f91⟩ := q86
    refine zj_if_eq (t := 254) (zdk ttX10_text 61 rfl rfl) (by decide) (by omega) (fun c92 => ?_) (fun c92 => ?_)
    · refine zj_aload_n (zdk ttX10_text 98 rfl rfl) rfl (by decide) ?_
      refine zj_getr (r := 103) (zdk ttX10_text 99 rfl rfl) zf_RX10_25 rfl (k_L0 s90) (rf_L0_3 s90) ?_
      refine zj_iconst (zdk ttX10_text 100 rfl rfl) ?_
      refine zj_puti (zdk ttX10_text 101 rfl rfl) zf_RX10_137 rfl (k_L103 s90) (Or.inl zw_RX10_137) (k2 := 3) rfl (fun h93 e94 => ?_)
      refine zj_iload_n (zdk ttX10_text 102 rfl rfl) rfl ?_
      have s95 : okC h93 := fw_L103_3 s90 e94 (by omega)
      have f98 : zfC w_X10_text h h4 := zfC_t (zfC_r _ _) f7 (fun a9 b9 z9 => by
        exact (Or.inr (Or.inr (Or.inr (Or.inr (Or.inr (Or.inr (Or.inr (Or.inr (Or.inr (Or.inr (Or.inr (Or.inr (Or.inr (Or.inr (Or.inr (Or.inr (Or.inr (Or.inl (by omega))))))))))))))))))))
      have f97 : zfC w_X10_text h h88 := zfC_t f98 f91 (fun a9 b9 z9 => by
        rcases z9 with z9 | z9 | z9 | z9
        · exact (Or.inr (Or.inr (Or.inr (Or.inr (Or.inr (Or.inr (Or.inr (Or.inr (Or.inr (Or.inr (Or.inr (Or.inr (Or.inr (Or.inr (Or.inr (Or.inr (Or.inr (Or.inl (by omega)))))))))))))))))))
        · exact (Or.inr (Or.inr (Or.inr (Or.inr (Or.inr (Or.inr (Or.inr (Or.inr (Or.inr (Or.inr (Or.inr (Or.inr (Or.inr (Or.inr (Or.inr (Or.inr (Or.inr (Or.inr z9))))))))))))))))))
        · exact (Or.inr (Or.inr (Or.inr (Or.inr (Or.inr (Or.inr (Or.inr (Or.inr (Or.inr (Or.inr (Or.inr (Or.inr (Or.inr (Or.inl z9))))))))))))))
        · exact (Or.inr (Or.inr (Or.inr (Or.inr (Or.inr (Or.inr (Or.inr (Or.inr (Or.inr (Or.inr (Or.inr (Or.inr (Or.inr (Or.inr (Or.inl z9))))))))))))))))
      have f96 : zfC w_X10_text h h93 := zfC_w f97 e94 (Or.inr (Or.inr (Or.inr (Or.inr (Or.inr (Or.inr (Or.inr (Or.inr (Or.inr (Or.inr (Or.inr (Or.inr (Or.inr (Or.inr (Or.inr (Or.inr (Or.inr (Or.inl (by omega)))))))))))))))))))
      have b99 : h93.2 103 3 = 0 := (zwr_v e94)
      exact zj_iret rfl (zdk ttX10_text 103 rfl rfl) (Nat.le_refl _) (Nat.le_refl _) ⟨(-1), rfl, by omega, s95, f96, by omega, (fun j => zJP_g s0 (((zwr_r e94 (by decide)).trans (zfC_a f91 (fun z9 => by unfold w_X7_readTown at z9; first | (revert z9; decide) | omega))).trans (zfC_a f7 (fun z9 => by unfold w_X6_rewind at z9; first | (revert z9; decide) | omega))) (((zwr_r e94 (by decide)).trans (zfC_a f91 (fun z9 => by unfold w_X7_readTown at z9; first | (revert z9; decide) | omega))).trans (zfC_a f7 (fun z9 => by unfold w_X6_rewind at z9; first | (revert z9; decide) | omega))) (fun a b z1 z2 => (((zwr_r e94 (by first | decide | exact (absurd ·.1 (by decide)) | exact (absurd ·.2 (by decide)) | omega)).trans (zfC_a f91 (fun z9 => by unfold w_X7_readTown at z9; first | (revert z9; decide) | omega))).trans (zfC_a f7 (fun z9 => by unfold w_X6_rewind at z9; first | (revert z9; decide) | omega)))) j)⟩
    · refine zj_aload_n (zdk ttX10_text 62 rfl rfl) rfl (by decide) ?_
      refine zj_getr (r := 1) (zdk ttX10_text 63 rfl rfl) zf_RX10_10 rfl (k_L0 s90) (rf_L0_0 s90) ?_
      refine zj_getr (r := 17) (zdk ttX10_text 64 rfl rfl) zf_RX10_177 rfl (k_9_0 s90 zWd_1) (rf_9_0_3 s90 zWd_1) ?_
      refine zj_aload_n (zdk ttX10_text 65 rfl rfl) rfl (by decide) ?_
      refine zj_getr (r := 69) (zdk ttX10_text 66 rfl rfl) zf_RX10_19 rfl (k_L0 s90) (rf_L0_2 s90) ?_
      refine zj_getr (r := 85) (zdk ttX10_text 67 rfl rfl) zf_RX10_177 rfl (k_9_0 s90 zWd_69) (rf_9_0_3 s90 zWd_69) ?_
      refine zj_callV (av := [.inr 85]) (st := []) (zdk ttX10_text 68 rfl rfl) mb_X4_copyFrom mv_RX10_171 (ci := 4) rfl rfl (k_4_0 s90 zPl_17) rfl rfl (Nat.le_of_ble_eq_true rfl) (s_X4_copyFrom l h88 17 85 s90 zPl_17 zPl_85) (rm_ok (by decide) (by decide)) (zq_v fun h102 q100 => ?_)
      obtain ⟨s104, f105⟩ := q100
      refine zj_aload_n (zdk ttX10_text 69 rfl rfl) rfl (by decide) ?_
      refine zj_getr (r := 1) (zdk ttX10_text 70 rfl rfl) zf_RX10_10 rfl (k_L0 s104) (rf_L0_0 s104) ?_
      refine zj_getr (r := 17) (zdk ttX10_text 71 rfl rfl) zf_RX10_177 rfl (k_9_0 s104 zWd_1) (rf_9_0_3 s104 zWd_1) ?_
      have b106 : 0 ≤ (h102.2 17 3) ∧ (h102.2 17 3) ≤ 16 := fb_4_0_3 s104 zPl_17
      refine zj_geti (v := (h102.2 17 3)) (zdk ttX10_text 72 rfl rfl) zf_RX10_176 rfl (k_4_0 s104 zPl_17) rfl ?_
      refine zj_istore_n (L' := [some (.inr 0), some (.inl p1), some (.inl (h.2 2 3)), some (.inl (h102.2 17 3))]) (zdk ttX10_text 73 rfl rfl) (by decide) rfl ?_
      refine zj_aload_n (zdk ttX10_text 74 rfl rfl) rfl (by decide) ?_
      refine zj_callV (av := []) (st := []) (zdk ttX10_text 75 rfl rfl) mb_X10_forget mv_RX10_74 (ci := 10) rfl rfl (k_L0 s104) rfl rfl (Nat.le_of_ble_eq_true rfl) (s_X10_forget l h102 s104) (rm_ok (by decide) (by decide)) (zq_v fun h109 q107 => ?_)
      obtain ⟨s111, f113, u112⟩ := q107
      refine zj_goto (t := 254) (zdk ttX10_text 76 rfl rfl) (by decide) ?_
      refine zj_aload_n (zdk ttX10_text 98 rfl rfl) rfl (by decide) ?_
      refine zj_getr (r := 103) (zdk ttX10_text 99 rfl rfl) zf_RX10_25 rfl (k_L0 s111) (rf_L0_3 s111) ?_
      refine zj_iconst (zdk ttX10_text 100 rfl rfl) ?_
      refine zj_puti (zdk ttX10_text 101 rfl rfl) zf_RX10_137 rfl (k_L103 s111) (Or.inl zw_RX10_137) (k2 := 3) rfl (fun h114 e115 => ?_)
      refine zj_iload_n (zdk ttX10_text 102 rfl rfl) rfl ?_
      have s116 : okC h114 := fw_L103_3 s111 e115 (by omega)
      have f121 : zfC w_X10_text h h4 := zfC_t (zfC_r _ _) f7 (fun a9 b9 z9 => by
        exact (Or.inr (Or.inr (Or.inr (Or.inr (Or.inr (Or.inr (Or.inr (Or.inr (Or.inr (Or.inr (Or.inr (Or.inr (Or.inr (Or.inr (Or.inr (Or.inr (Or.inr (Or.inl (by omega))))))))))))))))))))
      have f120 : zfC w_X10_text h h88 := zfC_t f121 f91 (fun a9 b9 z9 => by
        rcases z9 with z9 | z9 | z9 | z9
        · exact (Or.inr (Or.inr (Or.inr (Or.inr (Or.inr (Or.inr (Or.inr (Or.inr (Or.inr (Or.inr (Or.inr (Or.inr (Or.inr (Or.inr (Or.inr (Or.inr (Or.inr (Or.inl (by omega)))))))))))))))))))
        · exact (Or.inr (Or.inr (Or.inr (Or.inr (Or.inr (Or.inr (Or.inr (Or.inr (Or.inr (Or.inr (Or.inr (Or.inr (Or.inr (Or.inr (Or.inr (Or.inr (Or.inr (Or.inr z9))))))))))))))))))
        · exact (Or.inr (Or.inr (Or.inr (Or.inr (Or.inr (Or.inr (Or.inr (Or.inr (Or.inr (Or.inr (Or.inr (Or.inr (Or.inr (Or.inl z9))))))))))))))
        · exact (Or.inr (Or.inr (Or.inr (Or.inr (Or.inr (Or.inr (Or.inr (Or.inr (Or.inr (Or.inr (Or.inr (Or.inr (Or.inr (Or.inr (Or.inl z9))))))))))))))))
      have f119 : zfC w_X10_text h h102 := zfC_t f120 f105 (fun a9 b9 z9 => by
        rcases z9 with z9 | z9
        · exact (Or.inr (Or.inr (Or.inr (Or.inr (Or.inr (Or.inl z9))))))
        · exact (Or.inr (Or.inr (Or.inr (Or.inr (Or.inr (Or.inr (Or.inl z9))))))))
      have f118 : zfC w_X10_text h h109 := zfC_t f119 f113 (fun a9 b9 z9 => by
        exact (Or.inl z9))
      have f117 : zfC w_X10_text h h114 := zfC_w f118 e115 (Or.inr (Or.inr (Or.inr (Or.inr (Or.inr (Or.inr (Or.inr (Or.inr (Or.inr (Or.inr (Or.inr (Or.inr (Or.inr (Or.inr (Or.inr (Or.inr (Or.inr (Or.inl (by omega)))))))))))))))))))
      have b122 : h114.2 103 3 = 0 := (zwr_v e115)
      have b123 : h114.2 0 8 = (h109.2 0 8) := (zwr_r e115 (by first | decide | exact (absurd ·.1 (by decide)) | exact (absurd ·.2 (by decide)) | omega))
      exact zj_iret rfl (zdk ttX10_text 103 rfl rfl) (Nat.le_refl _) (Nat.le_refl _) ⟨(h102.2 17 3), rfl, by omega, s116, f117, by omega, (fun _ => zJP_0 (by omega))⟩
  have k124 : p1 = 3 → zJ shC l yX10_text cX10_text 4 (some .int) (rmL 33) 0 0 (q_X10_text h p1) 0 0 205 [some (.inr 0), some (.inl p1), some (.inl (h.2 2 3)), some (.inl (-1))] [] h4 := by
    intro c8
    refine zj_aload_n (zdk ttX10_text 77 rfl rfl) rfl (by decide) ?_
    refine zj_getr (r := 107) (zdk ttX10_text 78 rfl rfl) zf_RX10_34 rfl (k_L0 s6) (rf_L0_4 s6) ?_
    refine zj_aload_n (zdk ttX10_text 79 rfl rfl) rfl (by decide) ?_
    refine zj_getr (r := 69) (zdk ttX10_text 80 rfl rfl) zf_RX10_19 rfl (k_L0 s6) (rf_L0_2 s6) ?_
    refine zj_getr (r := 89) (zdk ttX10_text 81 rfl rfl) zf_RX10_184 rfl (k_9_0 s6 zWd_69) (rf_9_0_4 s6 zWd_69) ?_
    refine zj_iload_n (zdk ttX10_text 82 rfl rfl) rfl ?_
    refine zj_callV (av := [.inr 89, .inl (h.2 2 3)]) (st := []) (zdk ttX10_text 83 rfl rfl) mb_X7_readKin mv_RX10_188 (ci := 7) rfl rfl (k_L107 s6) rfl rfl (Nat.le_of_ble_eq_true rfl) (s_X7_readKin l h4 89 (h.2 2 3) s6 zKi_89 (by omega)) (rm_ok (by decide) (by decide)) (zq_i fun v126 h127 q125 => ?_)
    obtain ⟨b128, s129, f130⟩ := q125
    refine zj_if_eq (t := 254) (zdk ttX10_text 84 rfl rfl) (by decide) (by omega) (fun c131 => ?_) (fun c131 => ?_)
    · refine zj_aload_n (zdk ttX10_text 98 rfl rfl) rfl (by decide) ?_
      refine zj_getr (r := 103) (zdk ttX10_text 99 rfl rfl) zf_RX10_25 rfl (k_L0 s129) (rf_L0_3 s129) ?_
      refine zj_iconst (zdk ttX10_text 100 rfl rfl) ?_
      refine zj_puti (zdk ttX10_text 101 rfl rfl) zf_RX10_137 rfl (k_L103 s129) (Or.inl zw_RX10_137) (k2 := 3) rfl (fun h132 e133 => ?_)
      refine zj_iload_n (zdk ttX10_text 102 rfl rfl) rfl ?_
      have s134 : okC h132 := fw_L103_3 s129 e133 (by omega)
      have f137 : zfC w_X10_text h h4 := zfC_t (zfC_r _ _) f7 (fun a9 b9 z9 => by
        exact (Or.inr (Or.inr (Or.inr (Or.inr (Or.inr (Or.inr (Or.inr (Or.inr (Or.inr (Or.inr (Or.inr (Or.inr (Or.inr (Or.inr (Or.inr (Or.inr (Or.inr (Or.inl (by omega))))))))))))))))))))
      have f136 : zfC w_X10_text h h127 := zfC_t f137 f130 (fun a9 b9 z9 => by
        rcases z9 with z9 | z9 | z9 | z9
        · exact (Or.inr (Or.inr (Or.inr (Or.inr (Or.inr (Or.inr (Or.inr (Or.inr (Or.inr (Or.inr (Or.inr (Or.inr (Or.inr (Or.inr (Or.inr (Or.inr (Or.inr (Or.inl (by omega)))))))))))))))))))
        · exact (Or.inr (Or.inr (Or.inr (Or.inr (Or.inr (Or.inr (Or.inr (Or.inr (Or.inr (Or.inr (Or.inr (Or.inr (Or.inr (Or.inr (Or.inr (Or.inr (Or.inr (Or.inr z9))))))))))))))))))
        · exact (Or.inr (Or.inr (Or.inr (Or.inr (Or.inr (Or.inr (Or.inr (Or.inr (Or.inr (Or.inr (Or.inr (Or.inr (Or.inr (Or.inr (Or.inr (Or.inl z9))))))))))))))))
        · exact (Or.inr (Or.inr (Or.inr (Or.inr (Or.inr (Or.inr (Or.inr (Or.inr (Or.inr (Or.inr (Or.inr (Or.inr (Or.inr (Or.inr (Or.inr (Or.inr (Or.inl z9))))))))))))))))))
      have f135 : zfC w_X10_text h h132 := zfC_w f136 e133 (Or.inr (Or.inr (Or.inr (Or.inr (Or.inr (Or.inr (Or.inr (Or.inr (Or.inr (Or.inr (Or.inr (Or.inr (Or.inr (Or.inr (Or.inr (Or.inr (Or.inr (Or.inl (by omega)))))))))))))))))))
      have b138 : h132.2 103 3 = 0 := (zwr_v e133)
      exact zj_iret rfl (zdk ttX10_text 103 rfl rfl) (Nat.le_refl _) (Nat.le_refl _) ⟨(-1), rfl, by omega, s134, f135, by omega, (fun j => zJP_g s0 (((zwr_r e133 (by decide)).trans (zfC_a f130 (fun z9 => by unfold w_X7_readKin at z9; first | (revert z9; decide) | omega))).trans (zfC_a f7 (fun z9 => by unfold w_X6_rewind at z9; first | (revert z9; decide) | omega))) (((zwr_r e133 (by decide)).trans (zfC_a f130 (fun z9 => by unfold w_X7_readKin at z9; first | (revert z9; decide) | omega))).trans (zfC_a f7 (fun z9 => by unfold w_X6_rewind at z9; first | (revert z9; decide) | omega))) (fun a b z1 z2 => (((zwr_r e133 (by first | decide | exact (absurd ·.1 (by decide)) | exact (absurd ·.2 (by decide)) | omega)).trans (zfC_a f130 (fun z9 => by unfold w_X7_readKin at z9; first | (revert z9; decide) | omega))).trans (zfC_a f7 (fun z9 => by unfold w_X6_rewind at z9; first | (revert z9; decide) | omega)))) j)⟩
    · refine zj_aload_n (zdk ttX10_text 85 rfl rfl) rfl (by decide) ?_
      refine zj_getr (r := 1) (zdk ttX10_text 86 rfl rfl) zf_RX10_10 rfl (k_L0 s129) (rf_L0_0 s129) ?_
      refine zj_getr (r := 21) (zdk ttX10_text 87 rfl rfl) zf_RX10_184 rfl (k_9_0 s129 zWd_1) (rf_9_0_4 s129 zWd_1) ?_
      refine zj_aload_n (zdk ttX10_text 88 rfl rfl) rfl (by decide) ?_
      refine zj_getr (r := 69) (zdk ttX10_text 89 rfl rfl) zf_RX10_19 rfl (k_L0 s129) (rf_L0_2 s129) ?_
      refine zj_getr (r := 89) (zdk ttX10_text 90 rfl rfl) zf_RX10_184 rfl (k_9_0 s129 zWd_69) (rf_9_0_4 s129 zWd_69) ?_
      refine zj_callV (av := [.inr 89]) (st := []) (zdk ttX10_text 91 rfl rfl) mb_X2_copyFrom mv_RX10_192 (ci := 2) rfl rfl (k_2_0 s129 zKi_21) rfl rfl (Nat.le_of_ble_eq_true rfl) (s_X2_copyFrom l h127 21 89 s129 zKi_21 zKi_89) (rm_ok (by decide) (by decide)) (zq_v fun h141 q139 => ?_)
      obtain ⟨s143, f144⟩ := q139
      refine zj_aload_n (zdk ttX10_text 92 rfl rfl) rfl (by decide) ?_
      refine zj_getr (r := 1) (zdk ttX10_text 93 rfl rfl) zf_RX10_10 rfl (k_L0 s143) (rf_L0_0 s143) ?_
      refine zj_getr (r := 21) (zdk ttX10_text 94 rfl rfl) zf_RX10_184 rfl (k_9_0 s143 zWd_1) (rf_9_0_4 s143 zWd_1) ?_
      have b145 : -2147483648 ≤ (h141.2 21 1) ∧ (h141.2 21 1) ≤ 2147483647 := fb_2_0_1 s143 zKi_21
      refine zj_geti (v := (h141.2 21 1)) (zdk ttX10_text 95 rfl rfl) zf_RX10_197 rfl (k_2_0 s143 zKi_21) rfl ?_
      refine zj_istore_n (L' := [some (.inr 0), some (.inl p1), some (.inl (h.2 2 3)), some (.inl (h141.2 21 1))]) (zdk ttX10_text 96 rfl rfl) (by decide) rfl ?_
      refine zj_goto (t := 254) (zdk ttX10_text 97 rfl rfl) (by decide) ?_
      refine zj_aload_n (zdk ttX10_text 98 rfl rfl) rfl (by decide) ?_
      refine zj_getr (r := 103) (zdk ttX10_text 99 rfl rfl) zf_RX10_25 rfl (k_L0 s143) (rf_L0_3 s143) ?_
      refine zj_iconst (zdk ttX10_text 100 rfl rfl) ?_
      refine zj_puti (zdk ttX10_text 101 rfl rfl) zf_RX10_137 rfl (k_L103 s143) (Or.inl zw_RX10_137) (k2 := 3) rfl (fun h146 e147 => ?_)
      refine zj_iload_n (zdk ttX10_text 102 rfl rfl) rfl ?_
      have s148 : okC h146 := fw_L103_3 s143 e147 (by omega)
      have f152 : zfC w_X10_text h h4 := zfC_t (zfC_r _ _) f7 (fun a9 b9 z9 => by
        exact (Or.inr (Or.inr (Or.inr (Or.inr (Or.inr (Or.inr (Or.inr (Or.inr (Or.inr (Or.inr (Or.inr (Or.inr (Or.inr (Or.inr (Or.inr (Or.inr (Or.inr (Or.inl (by omega))))))))))))))))))))
      have f151 : zfC w_X10_text h h127 := zfC_t f152 f130 (fun a9 b9 z9 => by
        rcases z9 with z9 | z9 | z9 | z9
        · exact (Or.inr (Or.inr (Or.inr (Or.inr (Or.inr (Or.inr (Or.inr (Or.inr (Or.inr (Or.inr (Or.inr (Or.inr (Or.inr (Or.inr (Or.inr (Or.inr (Or.inr (Or.inl (by omega)))))))))))))))))))
        · exact (Or.inr (Or.inr (Or.inr (Or.inr (Or.inr (Or.inr (Or.inr (Or.inr (Or.inr (Or.inr (Or.inr (Or.inr (Or.inr (Or.inr (Or.inr (Or.inr (Or.inr (Or.inr z9))))))))))))))))))
        · exact (Or.inr (Or.inr (Or.inr (Or.inr (Or.inr (Or.inr (Or.inr (Or.inr (Or.inr (Or.inr (Or.inr (Or.inr (Or.inr (Or.inr (Or.inr (Or.inl z9))))))))))))))))
        · exact (Or.inr (Or.inr (Or.inr (Or.inr (Or.inr (Or.inr (Or.inr (Or.inr (Or.inr (Or.inr (Or.inr (Or.inr (Or.inr (Or.inr (Or.inr (Or.inr (Or.inl z9))))))))))))))))))
      have f150 : zfC w_X10_text h h141 := zfC_t f151 f144 (fun a9 b9 z9 => by
        rcases z9 with z9 | z9
        · exact (Or.inr (Or.inr (Or.inr (Or.inr (Or.inr (Or.inr (Or.inr (Or.inl z9))))))))
        · exact (Or.inr (Or.inr (Or.inr (Or.inr (Or.inr (Or.inr (Or.inr (Or.inr (Or.inl z9))))))))))
      have f149 : zfC w_X10_text h h146 := zfC_w f150 e147 (Or.inr (Or.inr (Or.inr (Or.inr (Or.inr (Or.inr (Or.inr (Or.inr (Or.inr (Or.inr (Or.inr (Or.inr (Or.inr (Or.inr (Or.inr (Or.inr (Or.inr (Or.inl (by omega)))))))))))))))))))
      have b153 : h146.2 103 3 = 0 := (zwr_v e147)
      exact zj_iret rfl (zdk ttX10_text 103 rfl rfl) (Nat.le_refl _) (Nat.le_refl _) ⟨(h141.2 21 1), rfl, by omega, s148, f149, by omega, (fun j => zJP_g s0 ((((zwr_r e147 (by decide)).trans (zfC_a f144 (fun z9 => by unfold w_X2_copyFrom at z9; first | (revert z9; decide) | omega))).trans (zfC_a f130 (fun z9 => by unfold w_X7_readKin at z9; first | (revert z9; decide) | omega))).trans (zfC_a f7 (fun z9 => by unfold w_X6_rewind at z9; first | (revert z9; decide) | omega))) ((((zwr_r e147 (by decide)).trans (zfC_a f144 (fun z9 => by unfold w_X2_copyFrom at z9; first | (revert z9; decide) | omega))).trans (zfC_a f130 (fun z9 => by unfold w_X7_readKin at z9; first | (revert z9; decide) | omega))).trans (zfC_a f7 (fun z9 => by unfold w_X6_rewind at z9; first | (revert z9; decide) | omega))) (fun a b z1 z2 => ((((zwr_r e147 (by first | decide | exact (absurd ·.1 (by decide)) | exact (absurd ·.2 (by decide)) | omega)).trans (zfC_a f144 (fun z9 => by unfold w_X2_copyFrom at z9; first | (revert z9; decide) | omega))).trans (zfC_a f130 (fun z9 => by unfold w_X7_readKin at z9; first | (revert z9; decide) | omega))).trans (zfC_a f7 (fun z9 => by unfold w_X6_rewind at z9; first | (revert z9; decide) | omega)))) j)⟩
  refine zj_table (t := 254) (zdk ttX10_text 11 rfl rfl) (by omega) (by decide) k9 (fun z1 z2 => ?_)
  have z3 : p1 = 0 ∨ p1 = 1 ∨ p1 = 2 ∨ p1 = 3 := by omega
  rcases z3 with z3 | z3 | z3 | z3
  · exact ⟨31, 52, by rw [z3] <;> rfl, by decide, k16 z3⟩
  · exact ⟨79, 100, by rw [z3] <;> rfl, by decide, k46 z3⟩
  · exact ⟨131, 152, by rw [z3] <;> rfl, by decide, k85 z3⟩
  · exact ⟨184, 205, by rw [z3] <;> rfl, by decide, k124 z3⟩
