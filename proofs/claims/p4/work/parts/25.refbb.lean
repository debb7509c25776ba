abbrev tX11_does : List (Nat × Instr × Nat) := [(0, .aload_n 0, 1), (1, .getfield 65, 3), (4, .iload_n 1, 1), (5, .iconst 1, 1), (6, .iadd, 1), (7, .iaload, 1), (8, .istore_n 2, 1), (9, .aload_n 0, 1), (10, .getfield 65, 3), (13, .iload_n 1, 1), (14, .iconst 2, 1), (15, .iadd, 1), (16, .iaload, 1), (17, .istore_n 3, 1), (18, .iload_n 2, 1), (19, .ifCond .eq 8, 3), (22, .iload_n 2, 1), (23, .iconst 1, 1), (24, .if_icmp .ne 21, 3), (27, .aload_n 0, 1), (28, .getfield 7, 3), (31, .bipush 27, 2), (33, .iload_n 3, 1), (34, .iadd, 1), (35, .iload_n 2, 1), (36, .ifCond .ne 7, 3), (39, .iconst 1, 1), (40, .goto 4, 3), (43, .iconst 0, 1), (44, .iastore, 1), (45, .iload_n 2, 1), (46, .iconst 2, 1), (47, .if_icmp .eq 8, 3), (50, .iload_n 2, 1), (51, .iconst 3, 1), (52, .if_icmp .ne 20, 3), (55, .aload_n 0, 1), (56, .getfield 7, 3), (59, .bipush 7, 2), (61, .iload_n 2, 1), (62, .iconst 3, 1), (63, .if_icmp .ne 7, 3), (66, .iconst 1, 1), (67, .goto 4, 3), (70, .iconst 0, 1), (71, .iastore, 1), (72, .iload_n 2, 1), (73, .iconst 4, 1), (74, .if_icmp .ne 29, 3), (77, .aload_n 0, 1), (78, .getfield 7, 3), (81, .bipush 8, 2), (83, .aload_n 0, 1), (84, .getfield 7, 3), (87, .bipush 8, 2), (89, .iaload, 1), (90, .iload_n 3, 1), (91, .aload_n 0, 1), (92, .getfield 7, 3), (95, .iconst 3, 1), (96, .iaload, 1), (97, .bipush 60, 2), (99, .idiv, 1), (100, .imul, 1), (101, .iadd, 1), (102, .iastore, 1), (103, .iload_n 2, 1), (104, .iconst 5, 1), (105, .if_icmp .ne 8, 3), (108, .aload_n 0, 1), (109, .iload_n 3, 1), (110, .invokevirtual 356, 3), (113, .return_, 1)]
theorem ttX11_does : zdt cX11_does tX11_does = true := by decide +kernel
abbrev q_X11_does (h : zM) (p1 : Int) : Option zV → zM → Prop := zqv fun h' => okM h' ∧ zfr [] [1] h h'
set_option maxRecDepth 100000 in
set_option maxHeartbeats 4000000 in
theorem s_X11_does (l : Launch) (h : zM) (p1 : Int) (s0 : okM h) (b_p1 : 0 ≤ p1 ∧ p1 ≤ 45) (u_0 : p1 % 3 = 0) : zT shM l yX11_does cX11_does 4 none (rmL 2) 0 0 [.inr 0, .inl p1] h (q_X11_does h p1) := by
  refine zT_of (by decide +kernel) (L0 := [some (.inr 0), some (.inl p1), none, none]) rfl (Nat.le_of_ble_eq_true rfl) ?_
  have d0 : wfD1 (h.2 18 (p1 + 1)) (h.2 18 (p1 + 2)) := by
    have q := s0.2.2.2.1.2.1 (p1 / 3) (by omega) (by omega)
    rw [show 3 * (p1 / 3) = p1 by omega] at q; exact q
  unfold wfD1 at d0
  refine zj_aload_n (zdk ttX11_does 0 rfl rfl) rfl (by decide) ?_
  refine zj_getr (r := 18) (zdk ttX11_does 1 rfl rfl) zf_RX11_65 rfl (k_M s0) (rfM_36 s0) ?_
  refine zj_iload_n (zdk ttX11_does 2 rfl rfl) rfl ?_
  refine zj_iconst (zdk ttX11_does 3 rfl rfl) ?_
  refine zj_iadd (zdk ttX11_does 4 rfl rfl) ?_
  have b1 : -2147483648 ≤ (h.2 18 (p1 + 1)) ∧ (h.2 18 (p1 + 1)) ≤ 2147483647 := abM_18 s0 (p1 + 1)
  refine zj_iald (v := (h.2 18 (p1 + 1))) (zdk ttX11_does 5 rfl rfl) (kaM_18 s0) (by decide) (by omega) rfl ?_
  refine zj_istore_n (L' := [some (.inr 0), some (.inl p1), some (.inl (h.2 18 (p1 + 1))), none]) (zdk ttX11_does 6 rfl rfl) (by decide) rfl ?_
  refine zj_aload_n (zdk ttX11_does 7 rfl rfl) rfl (by decide) ?_
  refine zj_getr (r := 18) (zdk ttX11_does 8 rfl rfl) zf_RX11_65 rfl (k_M s0) (rfM_36 s0) ?_
  refine zj_iload_n (zdk ttX11_does 9 rfl rfl) rfl ?_
  refine zj_iconst (zdk ttX11_does 10 rfl rfl) ?_
  refine zj_iadd (zdk ttX11_does 11 rfl rfl) ?_
  have b2 : -2147483648 ≤ (h.2 18 (p1 + 2)) ∧ (h.2 18 (p1 + 2)) ≤ 2147483647 := abM_18 s0 (p1 + 2)
  refine zj_iald (v := (h.2 18 (p1 + 2))) (zdk ttX11_does 12 rfl rfl) (kaM_18 s0) (by decide) (by omega) rfl ?_
  refine zj_istore_n (L' := [some (.inr 0), some (.inl p1), some (.inl (h.2 18 (p1 + 1))), some (.inl (h.2 18 (p1 + 2)))]) (zdk ttX11_does 13 rfl rfl) (by decide) rfl ?_
  refine zj_iload_n (zdk ttX11_does 14 rfl rfl) rfl ?_
  refine zj_if_eq (t := 27) (zdk ttX11_does 15 rfl rfl) (by decide) (by omega) (fun c3 => ?_) (fun c3 => ?_)
  · refine zj_aload_n (zdk ttX11_does 19 rfl rfl) rfl (by decide) ?_
    refine zj_getr (r := 1) (zdk ttX11_does 20 rfl rfl) zf_RX11_7 rfl (k_M s0) (rfM_1 s0) ?_
    have b4 : 0 ≤ (h.2 18 (p1 + 2)) ∧ (h.2 18 (p1 + 2)) ≤ 17 := by omega
    refine zj_bipush (zdk ttX11_does 21 rfl rfl) (by decide) ?_
    refine zj_iload_n (zdk ttX11_does 22 rfl rfl) rfl ?_
    refine zj_iadd (zdk ttX11_does 23 rfl rfl) ?_
    refine zj_iload_n (zdk ttX11_does 24 rfl rfl) rfl ?_
    refine zj_if_ne (t := 43) (zdk ttX11_does 25 rfl rfl) (by decide) (by omega) (fun c5 => ?_) (fun c5 => ?_)
    · exact absurd c5 (by omega)
    · refine zj_iconst (zdk ttX11_does 26 rfl rfl) ?_
      refine zj_goto (t := 44) (zdk ttX11_does 27 rfl rfl) (by decide) ?_
      refine zj_iast (zdk ttX11_does 29 rfl rfl) (kaM_1 s0) (by decide) (by omega) (fun h6 e7 => ?_)
      refine zj_iload_n (zdk ttX11_does 30 rfl rfl) rfl ?_
      refine zj_iconst (zdk ttX11_does 31 rfl rfl) ?_
      refine zj_icmp_eq (t := 55) (zdk ttX11_does 32 rfl rfl) (by decide) (by omega) (by decide) (fun c8 => ?_) (fun c8 => ?_)
      · exact absurd c8 (by omega)
      · refine zj_iload_n (zdk ttX11_does 33 rfl rfl) rfl ?_
        refine zj_iconst (zdk ttX11_does 34 rfl rfl) ?_
        refine zj_icmp_ne (t := 72) (zdk ttX11_does 35 rfl rfl) (by decide) (by omega) (by decide) (fun c9 => ?_) (fun c9 => ?_)
        · refine zj_iload_n (zdk ttX11_does 46 rfl rfl) rfl ?_
          refine zj_iconst (zdk ttX11_does 47 rfl rfl) ?_
          refine zj_icmp_ne (t := 103) (zdk ttX11_does 48 rfl rfl) (by decide) (by omega) (by decide) (fun c10 => ?_) (fun c10 => ?_)
          · refine zj_iload_n (zdk ttX11_does 66 rfl rfl) rfl ?_
            refine zj_iconst (zdk ttX11_does 67 rfl rfl) ?_
            refine zj_icmp_ne (t := 113) (zdk ttX11_does 68 rfl rfl) (by decide) (by omega) (by decide) (fun c11 => ?_) (fun c11 => ?_)
            · have s12 : okM h6 := okM_wr s0 e7 (by decide) (by omega) (by omega)
              have f13 : zfr [] [1] h h6 := zfr_wa (zfr_r _ _ _) e7 rfl
              exact zj_vret rfl (zdk ttX11_does 72 rfl rfl) (Nat.le_refl _) (Nat.le_refl _) ⟨rfl, s12, f13⟩
            · exact absurd c11 (by omega)
          · exact absurd c10 (by omega)
        · exact absurd c9 (by omega)
  · refine zj_iload_n (zdk ttX11_does 16 rfl rfl) rfl ?_
    refine zj_iconst (zdk ttX11_does 17 rfl rfl) ?_
    refine zj_icmp_ne (t := 45) (zdk ttX11_does 18 rfl rfl) (by decide) (by omega) (by decide) (fun c14 => ?_) (fun c14 => ?_)
    · refine zj_iload_n (zdk ttX11_does 30 rfl rfl) rfl ?_
      refine zj_iconst (zdk ttX11_does 31 rfl rfl) ?_
      refine zj_icmp_eq (t := 55) (zdk ttX11_does 32 rfl rfl) (by decide) (by omega) (by decide) (fun c15 => ?_) (fun c15 => ?_)
      · refine zj_aload_n (zdk ttX11_does 36 rfl rfl) rfl (by decide) ?_
        refine zj_getr (r := 1) (zdk ttX11_does 37 rfl rfl) zf_RX11_7 rfl (k_M s0) (rfM_1 s0) ?_
        refine zj_bipush (zdk ttX11_does 38 rfl rfl) (by decide) ?_
        refine zj_iload_n (zdk ttX11_does 39 rfl rfl) rfl ?_
        refine zj_iconst (zdk ttX11_does 40 rfl rfl) ?_
        refine zj_icmp_ne (t := 70) (zdk ttX11_does 41 rfl rfl) (by decide) (by omega) (by decide) (fun c16 => ?_) (fun c16 => ?_)
        · refine zj_iconst (zdk ttX11_does 44 rfl rfl) ?_
          refine zj_iast (zdk ttX11_does 45 rfl rfl) (kaM_1 s0) (by decide) (by omega) (fun h17 e18 => ?_)
          refine zj_iload_n (zdk ttX11_does 46 rfl rfl) rfl ?_
          refine zj_iconst (zdk ttX11_does 47 rfl rfl) ?_
          refine zj_icmp_ne (t := 103) (zdk ttX11_does 48 rfl rfl) (by decide) (by omega) (by decide) (fun c19 => ?_) (fun c19 => ?_)
          · refine zj_iload_n (zdk ttX11_does 66 rfl rfl) rfl ?_
            refine zj_iconst (zdk ttX11_does 67 rfl rfl) ?_
            refine zj_icmp_ne (t := 113) (zdk ttX11_does 68 rfl rfl) (by decide) (by omega) (by decide) (fun c20 => ?_) (fun c20 => ?_)
            · have s21 : okM h17 := okM_wr s0 e18 (by decide) (by omega) (by omega)
              have f22 : zfr [] [1] h h17 := zfr_wa (zfr_r _ _ _) e18 rfl
              exact zj_vret rfl (zdk ttX11_does 72 rfl rfl) (Nat.le_refl _) (Nat.le_refl _) ⟨rfl, s21, f22⟩
            · exact absurd c20 (by omega)
          · exact absurd c19 (by omega)
        · exact absurd c16 (by omega)
      · refine zj_iload_n (zdk ttX11_does 33 rfl rfl) rfl ?_
        refine zj_iconst (zdk ttX11_does 34 rfl rfl) ?_
        refine zj_icmp_ne (t := 72) (zdk ttX11_does 35 rfl rfl) (by decide) (by omega) (by decide) (fun c23 => ?_) (fun c23 => ?_)
        · refine zj_iload_n (zdk ttX11_does 46 rfl rfl) rfl ?_
          refine zj_iconst (zdk ttX11_does 47 rfl rfl) ?_
          refine zj_icmp_ne (t := 103) (zdk ttX11_does 48 rfl rfl) (by decide) (by omega) (by decide) (fun c24 => ?_) (fun c24 => ?_)
          · refine zj_iload_n (zdk ttX11_does 66 rfl rfl) rfl ?_
            refine zj_iconst (zdk ttX11_does 67 rfl rfl) ?_
            refine zj_icmp_ne (t := 113) (zdk ttX11_does 68 rfl rfl) (by decide) (by omega) (by decide) (fun c25 => ?_) (fun c25 => ?_)
            · exact zj_vret rfl (zdk ttX11_does 72 rfl rfl) (Nat.le_refl _) (Nat.le_refl _) ⟨rfl, s0, (zfr_r _ _ _)⟩
            · refine zj_aload_n (zdk ttX11_does 69 rfl rfl) rfl (by decide) ?_
              refine zj_iload_n (zdk ttX11_does 70 rfl rfl) rfl ?_
              refine zj_callV (av := [.inl (h.2 18 (p1 + 2))]) (st := []) (zdk ttX11_does 71 rfl rfl) mb_X11_isPushed mv_RX11_356 (ci := 11) rfl rfl (k_M s0) rfl rfl (Nat.le_of_ble_eq_true rfl) (s_X11_isPushed l h (h.2 18 (p1 + 2)) s0 (by omega)) (rm_ok (by decide) (by decide)) (zq_v fun h28 q26 => ?_)
              obtain ⟨s30, f31⟩ := q26
              have f32 : zfr [] [1] h h28 := zfr_t (zfr_r _ _ _) f31 rfl rfl
              exact zj_vret rfl (zdk ttX11_does 72 rfl rfl) (Nat.le_refl _) (Nat.le_refl _) ⟨rfl, s30, f32⟩
          · refine zj_aload_n (zdk ttX11_does 49 rfl rfl) rfl (by decide) ?_
            refine zj_getr (r := 1) (zdk ttX11_does 50 rfl rfl) zf_RX11_7 rfl (k_M s0) (rfM_1 s0) ?_
            refine zj_bipush (zdk ttX11_does 51 rfl rfl) (by decide) ?_
            refine zj_aload_n (zdk ttX11_does 52 rfl rfl) rfl (by decide) ?_
            refine zj_getr (r := 1) (zdk ttX11_does 53 rfl rfl) zf_RX11_7 rfl (k_M s0) (rfM_1 s0) ?_
            refine zj_bipush (zdk ttX11_does 54 rfl rfl) (by decide) ?_
            have b34 : -2147483648 ≤ (h.2 1 8) ∧ (h.2 1 8) ≤ 2147483647 := (rM_b s0 1 8 (by omega)).1
            refine zj_iald (v := (h.2 1 8)) (zdk ttX11_does 55 rfl rfl) (kaM_1 s0) (by decide) (by omega) rfl ?_
            refine zj_iload_n (zdk ttX11_does 56 rfl rfl) rfl ?_
            refine zj_aload_n (zdk ttX11_does 57 rfl rfl) rfl (by decide) ?_
            refine zj_getr (r := 1) (zdk ttX11_does 58 rfl rfl) zf_RX11_7 rfl (k_M s0) (rfM_1 s0) ?_
            refine zj_iconst (zdk ttX11_does 59 rfl rfl) ?_
            have b36 : -2147483648 ≤ (h.2 1 3) ∧ (h.2 1 3) ≤ 2147483647 := (rM_b s0 1 3 (by omega)).1
            refine zj_iald (v := (h.2 1 3)) (zdk ttX11_does 60 rfl rfl) (kaM_1 s0) (by decide) (by omega) rfl ?_
            refine zj_bipush (zdk ttX11_does 61 rfl rfl) (by decide) ?_
            refine zj_idiv (zdk ttX11_does 62 rfl rfl) (by omega) (by decide) (by omega) ?_
            have b37 := ztd_c (h.2 1 3) 60 (by decide)
            refine zj_imul (zdk ttX11_does 63 rfl rfl) ?_
            refine zj_wrap ?_
            have b38 := zwp_in ((h.2 18 (p1 + 2)) * ((h.2 1 3).tdiv 60))
            refine zj_iadd (zdk ttX11_does 64 rfl rfl) ?_
            refine zj_wrap ?_
            have b39 := zwp_in ((h.2 1 8) + (zwp ((h.2 18 (p1 + 2)) * ((h.2 1 3).tdiv 60))))
            refine zj_iast (zdk ttX11_does 65 rfl rfl) (kaM_1 s0) (by decide) (by omega) (fun h40 e41 => ?_)
            refine zj_iload_n (zdk ttX11_does 66 rfl rfl) rfl ?_
            refine zj_iconst (zdk ttX11_does 67 rfl rfl) ?_
            refine zj_icmp_ne (t := 113) (zdk ttX11_does 68 rfl rfl) (by decide) (by omega) (by decide) (fun c42 => ?_) (fun c42 => ?_)
            · have s43 : okM h40 := okM_wr s0 e41 (by decide) (by omega) (by omega)
              have f44 : zfr [] [1] h h40 := zfr_wa (zfr_r _ _ _) e41 rfl
              exact zj_vret rfl (zdk ttX11_does 72 rfl rfl) (Nat.le_refl _) (Nat.le_refl _) ⟨rfl, s43, f44⟩
            · exact absurd c42 (by omega)
        · refine zj_aload_n (zdk ttX11_does 36 rfl rfl) rfl (by decide) ?_
          refine zj_getr (r := 1) (zdk ttX11_does 37 rfl rfl) zf_RX11_7 rfl (k_M s0) (rfM_1 s0) ?_
          refine zj_bipush (zdk ttX11_does 38 rfl rfl) (by decide) ?_
          refine zj_iload_n (zdk ttX11_does 39 rfl rfl) rfl ?_
          refine zj_iconst (zdk ttX11_does 40 rfl rfl) ?_
          refine zj_icmp_ne (t := 70) (zdk ttX11_does 41 rfl rfl) (by decide) (by omega) (by decide) (fun c45 => ?_) (fun c45 => ?_)
          · exact absurd c45 (by omega)
          · refine zj_iconst (zdk ttX11_does 42 rfl rfl) ?_
            refine zj_goto (t := 71) (zdk ttX11_does 43 rfl rfl) (by decide) ?_
            refine zj_iast (zdk ttX11_does 45 rfl rfl) (kaM_1 s0) (by decide) (by omega) (fun h46 e47 => ?_)
            refine zj_iload_n (zdk ttX11_does 46 rfl rfl) rfl ?_
            refine zj_iconst (zdk ttX11_does 47 rfl rfl) ?_
            refine zj_icmp_ne (t := 103) (zdk ttX11_does 48 rfl rfl) (by decide) (by omega) (by decide) (fun c48 => ?_) (fun c48 => ?_)
            · refine zj_iload_n (zdk ttX11_does 66 rfl rfl) rfl ?_
              refine zj_iconst (zdk ttX11_does 67 rfl rfl) ?_
              refine zj_icmp_ne (t := 113) (zdk ttX11_does 68 rfl rfl) (by decide) (by omega) (by decide) (fun c49 => ?_) (fun c49 => ?_)
              · have s50 : okM h46 := okM_wr s0 e47 (by decide) (by omega) (by omega)
                have f51 : zfr [] [1] h h46 := zfr_wa (zfr_r _ _ _) e47 rfl
                exact zj_vret rfl (zdk ttX11_does 72 rfl rfl) (Nat.le_refl _) (Nat.le_refl _) ⟨rfl, s50, f51⟩
              · exact absurd c49 (by omega)
            · exact absurd c48 (by omega)
    · refine zj_aload_n (zdk ttX11_does 19 rfl rfl) rfl (by decide) ?_
      refine zj_getr (r := 1) (zdk ttX11_does 20 rfl rfl) zf_RX11_7 rfl (k_M s0) (rfM_1 s0) ?_
      have b52 : 0 ≤ (h.2 18 (p1 + 2)) ∧ (h.2 18 (p1 + 2)) ≤ 17 := by omega
      refine zj_bipush (zdk ttX11_does 21 rfl rfl) (by decide) ?_
      refine zj_iload_n (zdk ttX11_does 22 rfl rfl) rfl ?_
      refine zj_iadd (zdk ttX11_does 23 rfl rfl) ?_
      refine zj_iload_n (zdk ttX11_does 24 rfl rfl) rfl ?_
      refine zj_if_ne (t := 43) (zdk ttX11_does 25 rfl rfl) (by decide) (by omega) (fun c53 => ?_) (fun c53 => ?_)
      · refine zj_iconst (zdk ttX11_does 28 rfl rfl) ?_
        refine zj_iast (zdk ttX11_does 29 rfl rfl) (kaM_1 s0) (by decide) (by omega) (fun h54 e55 => ?_)
        refine zj_iload_n (zdk ttX11_does 30 rfl rfl) rfl ?_
        refine zj_iconst (zdk ttX11_does 31 rfl rfl) ?_
        refine zj_icmp_eq (t := 55) (zdk ttX11_does 32 rfl rfl) (by decide) (by omega) (by decide) (fun c56 => ?_) (fun c56 => ?_)
        · exact absurd c56 (by omega)
        · refine zj_iload_n (zdk ttX11_does 33 rfl rfl) rfl ?_
          refine zj_iconst (zdk ttX11_does 34 rfl rfl) ?_
          refine zj_icmp_ne (t := 72) (zdk ttX11_does 35 rfl rfl) (by decide) (by omega) (by decide) (fun c57 => ?_) (fun c57 => ?_)
          · refine zj_iload_n (zdk ttX11_does 46 rfl rfl) rfl ?_
            refine zj_iconst (zdk ttX11_does 47 rfl rfl) ?_
            refine zj_icmp_ne (t := 103) (zdk ttX11_does 48 rfl rfl) (by decide) (by omega) (by decide) (fun c58 => ?_) (fun c58 => ?_)
            · refine zj_iload_n (zdk ttX11_does 66 rfl rfl) rfl ?_
              refine zj_iconst (zdk ttX11_does 67 rfl rfl) ?_
              refine zj_icmp_ne (t := 113) (zdk ttX11_does 68 rfl rfl) (by decide) (by omega) (by decide) (fun c59 => ?_) (fun c59 => ?_)
              · have s60 : okM h54 := okM_wr s0 e55 (by decide) (by omega) (by omega)
                have f61 : zfr [] [1] h h54 := zfr_wa (zfr_r _ _ _) e55 rfl
                exact zj_vret rfl (zdk ttX11_does 72 rfl rfl) (Nat.le_refl _) (Nat.le_refl _) ⟨rfl, s60, f61⟩
              · exact absurd c59 (by omega)
            · exact absurd c58 (by omega)
          · exact absurd c57 (by omega)
      · exact absurd c53 (by omega)

abbrev tX11_goesOut : List (Nat × Instr × Nat) := [(0, .iload_n 1, 1), (1, .istore_n 2, 1), (2, .iconst 0, 1), (3, .istore_n 3, 1), (4, .iload_n 3, 1), (5, .aload_n 0, 1), (6, .getfield 132, 3), (9, .if_icmp .ge 117, 3), (12, .iload_n 2, 1), (13, .ifCond .le 113, 3), (16, .aload_n 0, 1), (17, .iload_n 3, 1), (18, .invokevirtual 135, 3), (21, .ifCond .eq 99, 3), (24, .aload_n 0, 1), (25, .getfield 7, 3), (28, .bipush 27, 2), (30, .iload_n 3, 1), (31, .iadd, 1), (32, .iaload, 1), (33, .iconst 1, 1), (34, .if_icmp .eq 86, 3), (37, .aload_n 0, 1), (38, .aload_n 0, 1), (39, .iload_n 3, 1), (40, .invokevirtual 359, 3), (43, .invokevirtual 362, 3), (46, .ifCond .ne 6, 3), (49, .goto 71, 3), (52, .aload_n 0, 1), (53, .iload_n 3, 1), (54, .invokevirtual 347, 3), (57, .iload_n 2, 1), (58, .iconst 1, 1), (59, .isub, 1), (60, .istore_n 2, 1), (61, .iconst 0, 1), (62, .istore 4, 2), (64, .iload 4, 2), (66, .aload_n 0, 1), (67, .getfield 132, 3), (70, .if_icmp .ge 50, 3), (73, .iload_n 2, 1), (74, .ifCond .le 46, 3), (77, .aload_n 0, 1), (78, .aload_n 0, 1), (79, .getfield 68, 3), (82, .iload_n 3, 1), (83, .iaload, 1), (84, .iload 4, 2), (86, .invokevirtual 309, 3), (89, .ifCond .eq 25, 3), (92, .aload_n 0, 1), (93, .iload 4, 2), (95, .invokevirtual 135, 3), (98, .ifCond .ne 6, 3), (101, .goto 13, 3), (104, .aload_n 0, 1), (105, .iload 4, 2), (107, .invokevirtual 347, 3), (110, .iload_n 2, 1), (111, .iconst 1, 1), (112, .isub, 1), (113, .istore_n 2, 1), (114, .iinc 4 1, 3), (117, .goto (-53), 3), (120, .iinc 3 1, 3), (123, .goto (-119), 3), (126, .return_, 1)]
theorem ttX11_goesOut : zdt cX11_goesOut tX11_goesOut = true := by decide +kernel
abbrev q_X11_goesOut (h : zM) (p1 : Int) : Option zV → zM → Prop := zqv fun h' => okM h' ∧ zfr [] [1, 6, 20, 21] h h'
set_option maxRecDepth 100000 in
set_option maxHeartbeats 4000000 in
theorem s_X11_goesOut (l : Launch) (h : zM) (p1 : Int) (s0 : okM h) (b_p1 : (-2147483648) ≤ p1 ∧ p1 ≤ 2147483647) : zT shM l yX11_goesOut cX11_goesOut 5 none (rmL 7) 0 0 [.inr 0, .inl p1] h (q_X11_goesOut h p1) := by
  refine zT_of (by decide +kernel) (L0 := [some (.inr 0), some (.inl p1), none, none, none]) rfl (Nat.le_of_ble_eq_true rfl) ?_
  refine zj_iload_n (zdk ttX11_goesOut 0 rfl rfl) rfl ?_
  refine zj_istore_n (L' := [some (.inr 0), some (.inl p1), some (.inl p1), none, none]) (zdk ttX11_goesOut 1 rfl rfl) (by decide) rfl ?_
  refine zj_iconst (zdk ttX11_goesOut 2 rfl rfl) ?_
  refine zj_istore_n (L' := [some (.inr 0), some (.inl p1), some (.inl p1), some (.inl 0), none]) (zdk ttX11_goesOut 3 rfl rfl) (by decide) rfl ?_
  have lp856 : ∀ (n4 : Nat) (x1 x2 : Int) (h3 : zM), (-2147483648 ≤ x1 ∧ x1 ≤ 2147483647) → (0 ≤ x2 ∧ x2 ≤ 18) → okM h3 → zfr [] [1, 6, 20, 21] h h3 → (19 - x2).toNat < n4 → zJ shM l yX11_goesOut cX11_goesOut 5 none (rmL 7) 0 0 (q_X11_goesOut h p1) 0 0 4 [some (.inr 0), some (.inl p1), some (.inl x1), some (.inl x2), none] [] h3 := by
    intro n4
    induction n4 with
    | zero => intro x1 x2 h3 b857 b858 s4 f5 m859; exact absurd m859 (Nat.not_lt_zero _)
    | succ n4 ih860 =>
      intro x1 x2 h3 b857 b858 s4 f5 m859
      refine zj_iload_n (zdk ttX11_goesOut 4 rfl rfl) rfl ?_
      refine zj_aload_n (zdk ttX11_goesOut 5 rfl rfl) rfl (by decide) ?_
      have b861 : 0 ≤ (h.2 0 6) ∧ (h.2 0 6) ≤ 18 := fM_6 s0
      refine zj_geti (v := (h.2 0 6)) (zdk ttX11_goesOut 6 rfl rfl) zf_RX11_132 rfl (k_M s4) (zfr_f f5 rfl rfl) ?_
      refine zj_icmp_ge (t := 126) (zdk ttX11_goesOut 7 rfl rfl) (by decide) (by omega) (by omega) (fun c862 => ?_) (fun c862 => ?_)
      · exact zj_vret rfl (zdk ttX11_goesOut 68 rfl rfl) (Nat.le_refl _) (Nat.le_refl _) ⟨rfl, s4, f5⟩
      · refine zj_iload_n (zdk ttX11_goesOut 8 rfl rfl) rfl ?_
        refine zj_if_le (t := 126) (zdk ttX11_goesOut 9 rfl rfl) (by decide) (by omega) (fun c863 => ?_) (fun c863 => ?_)
        · exact zj_vret rfl (zdk ttX11_goesOut 68 rfl rfl) (Nat.le_refl _) (Nat.le_refl _) ⟨rfl, s4, f5⟩
        · refine zj_aload_n (zdk ttX11_goesOut 10 rfl rfl) rfl (by decide) ?_
          refine zj_iload_n (zdk ttX11_goesOut 11 rfl rfl) rfl ?_
          refine zj_callV (av := [.inl x2]) (st := []) (zdk ttX11_goesOut 12 rfl rfl) mb_X11_isHere mv_RX11_135 (ci := 11) rfl rfl (k_M s4) rfl rfl (Nat.le_of_ble_eq_true rfl) (s_X11_isHere l h3 x2 s4 (by omega)) (rm_ok (by decide) (by decide)) (zq_i fun v865 h866 q864 => ?_)
          obtain ⟨rfl, ⟨rfl, b867⟩ | ⟨rfl, b867⟩⟩ := q864
          · refine zj_if_eq (t := 120) (zdk ttX11_goesOut 13 rfl rfl) (by decide) (by decide) (fun c868 => ?_) (fun c868 => ?_)
            · refine zj_iinc (L' := [some (.inr 0), some (.inl p1), some (.inl x1), some (.inl (x2 + 1)), none]) (zdk ttX11_goesOut 66 rfl rfl) rfl (by decide) rfl ?_
              refine zj_goto (t := 4) (zdk ttX11_goesOut 67 rfl rfl) (by decide) ?_
              exact ih860  x1 (x2 + 1) h3 (by omega) (by omega) s4 f5 (by omega)
            · exact absurd c868 (by omega)
          · refine zj_if_eq (t := 120) (zdk ttX11_goesOut 13 rfl rfl) (by decide) (by decide) (fun c869 => ?_) (fun c869 => ?_)
            · exact absurd c869 (by omega)
            · refine zj_aload_n (zdk ttX11_goesOut 14 rfl rfl) rfl (by decide) ?_
              refine zj_getr (r := 1) (zdk ttX11_goesOut 15 rfl rfl) zf_RX11_7 rfl (k_M s4) (rfM_1 s4) ?_
              refine zj_bipush (zdk ttX11_goesOut 16 rfl rfl) (by decide) ?_
              refine zj_iload_n (zdk ttX11_goesOut 17 rfl rfl) rfl ?_
              refine zj_iadd (zdk ttX11_goesOut 18 rfl rfl) ?_
              have b870 := (rM_b s4 1 (27 + x2) (by omega)).2
              have b871 : -2147483648 ≤ (h3.2 1 (27 + x2)) ∧ (h3.2 1 (27 + x2)) ≤ 2147483647 := (rM_b s4 1 (27 + x2) (by omega)).1
              refine zj_iald (v := (h3.2 1 (27 + x2))) (zdk ttX11_goesOut 19 rfl rfl) (kaM_1 s4) (by decide) (by omega) rfl ?_
              refine zj_iconst (zdk ttX11_goesOut 20 rfl rfl) ?_
              refine zj_icmp_eq (t := 120) (zdk ttX11_goesOut 21 rfl rfl) (by decide) (by omega) (by decide) (fun c872 => ?_) (fun c872 => ?_)
              · refine zj_iinc (L' := [some (.inr 0), some (.inl p1), some (.inl x1), some (.inl (x2 + 1)), none]) (zdk ttX11_goesOut 66 rfl rfl) rfl (by decide) rfl ?_
                refine zj_goto (t := 4) (zdk ttX11_goesOut 67 rfl rfl) (by decide) ?_
                exact ih860  x1 (x2 + 1) h3 (by omega) (by omega) s4 f5 (by omega)
              · refine zj_aload_n (zdk ttX11_goesOut 22 rfl rfl) rfl (by decide) ?_
                refine zj_aload_n (zdk ttX11_goesOut 23 rfl rfl) rfl (by decide) ?_
                refine zj_iload_n (zdk ttX11_goesOut 24 rfl rfl) rfl ?_
                refine zj_callV (av := [.inl x2]) (st := [.inr 0]) (zdk ttX11_goesOut 25 rfl rfl) mb_X11_leavesOf mv_RX11_359 (ci := 11) rfl rfl (k_M s4) rfl rfl (Nat.le_of_ble_eq_true rfl) (s_X11_leavesOf l h3 x2 s4 (by omega)) (rm_ok (by decide) (by decide)) (zq_i fun v874 h875 q873 => ?_)
                obtain ⟨b876, s877, f878⟩ := q873
                refine zj_callV (av := [.inl v874]) (st := []) (zdk ttX11_goesOut 26 rfl rfl) mb_X11_happens mv_RX11_362 (ci := 11) rfl rfl (k_M s877) rfl rfl (Nat.le_of_ble_eq_true rfl) (s_X11_happens l h875 v874 s877 (by omega)) (rm_ok (by decide) (by decide)) (zq_i fun v880 h881 q879 => ?_)
                obtain ⟨b882, s883, f884⟩ := q879
                refine zj_if_ne (t := 52) (zdk ttX11_goesOut 27 rfl rfl) (by decide) (by omega) (fun c885 => ?_) (fun c885 => ?_)
                · refine zj_aload_n (zdk ttX11_goesOut 29 rfl rfl) rfl (by decide) ?_
                  refine zj_iload_n (zdk ttX11_goesOut 30 rfl rfl) rfl ?_
                  refine zj_callV (av := [.inl x2]) (st := []) (zdk ttX11_goesOut 31 rfl rfl) mb_X11_goesAboard mv_RX11_347 (ci := 11) rfl rfl (k_M s883) rfl rfl (Nat.le_of_ble_eq_true rfl) (s_X11_goesAboard l h881 x2 s883 (by omega)) (rm_ok (by decide) (by decide)) (zq_v fun h888 q886 => ?_)
                  obtain ⟨s890, f891⟩ := q886
                  refine zj_iload_n (zdk ttX11_goesOut 32 rfl rfl) rfl ?_
                  refine zj_iconst (zdk ttX11_goesOut 33 rfl rfl) ?_
                  refine zj_isub (zdk ttX11_goesOut 34 rfl rfl) ?_
                  refine zj_istore_n (L' := [some (.inr 0), some (.inl p1), some (.inl (x1 - 1)), some (.inl x2), none]) (zdk ttX11_goesOut 35 rfl rfl) (by decide) rfl ?_
                  refine zj_iconst (zdk ttX11_goesOut 36 rfl rfl) ?_
                  refine zj_istore (L' := [some (.inr 0), some (.inl p1), some (.inl (x1 - 1)), some (.inl x2), some (.inl 0)]) (zdk ttX11_goesOut 37 rfl rfl) (by decide) rfl ?_
                  have lp1002 : ∀ (n64 : Nat) (x892 x893 : Int) (h894 : zM), (0 ≤ x892 ∧ x892 ≤ 2147483646) → (0 ≤ x893 ∧ x893 ≤ 18) → okM h894 → zfr [] [1, 6, 20, 21] h h894 → (19 - x893).toNat < n64 → zJ shM l yX11_goesOut cX11_goesOut 5 none (rmL 7) 0 0 (q_X11_goesOut h p1) 0 0 64 [some (.inr 0), some (.inl p1), some (.inl x892), some (.inl x2), some (.inl x893)] [] h894 := by
                    intro n64
                    induction n64 with
                    | zero => intro x892 x893 h894 b1003 b1004 s895 f896 m1005; exact absurd m1005 (Nat.not_lt_zero _)
                    | succ n64 ih1006 =>
                      intro x892 x893 h894 b1003 b1004 s895 f896 m1005
                      refine zj_iload (zdk ttX11_goesOut 38 rfl rfl) rfl ?_
                      refine zj_aload_n (zdk ttX11_goesOut 39 rfl rfl) rfl (by decide) ?_
                      refine zj_geti (v := (h.2 0 6)) (zdk ttX11_goesOut 40 rfl rfl) zf_RX11_132 rfl (k_M s895) (zfr_f f896 rfl rfl) ?_
                      refine zj_icmp_ge (t := 120) (zdk ttX11_goesOut 41 rfl rfl) (by decide) (by omega) (by omega) (fun c1007 => ?_) (fun c1007 => ?_)
                      · refine zj_iinc (L' := [some (.inr 0), some (.inl p1), some (.inl x892), some (.inl (x2 + 1)), some (.inl x893)]) (zdk ttX11_goesOut 66 rfl rfl) rfl (by decide) rfl ?_
                        refine zj_goto (t := 4) (zdk ttX11_goesOut 67 rfl rfl) (by decide) ?_
                        refine zj_kill (k := 4) (L' := [some (.inr 0), some (.inl p1), some (.inl x892), some (.inl (x2 + 1)), none]) rfl ?_
                        exact ih860  x892 (x2 + 1) h894 (by omega) (by omega) s895 f896 (by omega)
                      · refine zj_iload_n (zdk ttX11_goesOut 42 rfl rfl) rfl ?_
                        refine zj_if_le (t := 120) (zdk ttX11_goesOut 43 rfl rfl) (by decide) (by omega) (fun c1008 => ?_) (fun c1008 => ?_)
                        · refine zj_iinc (L' := [some (.inr 0), some (.inl p1), some (.inl x892), some (.inl (x2 + 1)), some (.inl x893)]) (zdk ttX11_goesOut 66 rfl rfl) rfl (by decide) rfl ?_
                          refine zj_goto (t := 4) (zdk ttX11_goesOut 67 rfl rfl) (by decide) ?_
                          refine zj_kill (k := 4) (L' := [some (.inr 0), some (.inl p1), some (.inl x892), some (.inl (x2 + 1)), none]) rfl ?_
                          exact ih860  x892 (x2 + 1) h894 (by omega) (by omega) s895 f896 (by omega)
                        · refine zj_aload_n (zdk ttX11_goesOut 44 rfl rfl) rfl (by decide) ?_
                          refine zj_aload_n (zdk ttX11_goesOut 45 rfl rfl) rfl (by decide) ?_
                          refine zj_getr (r := 19) (zdk ttX11_goesOut 46 rfl rfl) zf_RX11_68 rfl (k_M s895) (rfM_38 s895) ?_
                          refine zj_iload_n (zdk ttX11_goesOut 47 rfl rfl) rfl ?_
                          have b1009 : -2147483648 ≤ (h.2 19 x2) ∧ (h.2 19 x2) ≤ 2147483647 := abM_19 s0 x2
                          refine zj_iald (v := (h.2 19 x2)) (zdk ttX11_goesOut 48 rfl rfl) (kaM_19 s895) (by decide) (by omega) (zfr_a f896 rfl (by decide)) ?_
                          refine zj_iload (zdk ttX11_goesOut 49 rfl rfl) rfl ?_
                          refine zj_callV (av := [.inl (h.2 19 x2), .inl x893]) (st := []) (zdk ttX11_goesOut 50 rfl rfl) mb_X11_has mv_RX11_309 (ci := 11) rfl rfl (k_M s895) rfl rfl (Nat.le_of_ble_eq_true rfl) (s_X11_has l h894 (h.2 19 x2) x893 s895 (by omega) (by omega)) (rm_ok (by decide) (by decide)) (zq_i fun v1011 h1012 q1010 => ?_)
                          obtain ⟨rfl, ⟨rfl, b1013⟩ | ⟨rfl, b1013⟩⟩ := q1010
                          · refine zj_if_eq (t := 114) (zdk ttX11_goesOut 51 rfl rfl) (by decide) (by decide) (fun c1014 => ?_) (fun c1014 => ?_)
                            · refine zj_iinc (L' := [some (.inr 0), some (.inl p1), some (.inl x892), some (.inl x2), some (.inl (x893 + 1))]) (zdk ttX11_goesOut 64 rfl rfl) rfl (by decide) rfl ?_
                              refine zj_goto (t := 64) (zdk ttX11_goesOut 65 rfl rfl) (by decide) ?_
                              exact ih1006  x892 (x893 + 1) h894 (by omega) (by omega) s895 f896 (by omega)
                            · exact absurd c1014 (by omega)
                          · refine zj_if_eq (t := 114) (zdk ttX11_goesOut 51 rfl rfl) (by decide) (by decide) (fun c1015 => ?_) (fun c1015 => ?_)
                            · exact absurd c1015 (by omega)
                            · refine zj_aload_n (zdk ttX11_goesOut 52 rfl rfl) rfl (by decide) ?_
                              refine zj_iload (zdk ttX11_goesOut 53 rfl rfl) rfl ?_
                              refine zj_callV (av := [.inl x893]) (st := []) (zdk ttX11_goesOut 54 rfl rfl) mb_X11_isHere mv_RX11_135 (ci := 11) rfl rfl (k_M s895) rfl rfl (Nat.le_of_ble_eq_true rfl) (s_X11_isHere l h894 x893 s895 (by omega)) (rm_ok (by decide) (by decide)) (zq_i fun v1017 h1018 q1016 => ?_)
                              obtain ⟨rfl, ⟨rfl, b1019⟩ | ⟨rfl, b1019⟩⟩ := q1016
                              · refine zj_if_ne (t := 104) (zdk ttX11_goesOut 55 rfl rfl) (by decide) (by decide) (fun c1020 => ?_) (fun c1020 => ?_)
                                · exact absurd c1020 (by omega)
                                · refine zj_goto (t := 114) (zdk ttX11_goesOut 56 rfl rfl) (by decide) ?_
                                  refine zj_iinc (L' := [some (.inr 0), some (.inl p1), some (.inl x892), some (.inl x2), some (.inl (x893 + 1))]) (zdk ttX11_goesOut 64 rfl rfl) rfl (by decide) rfl ?_
                                  refine zj_goto (t := 64) (zdk ttX11_goesOut 65 rfl rfl) (by decide) ?_
                                  exact ih1006  x892 (x893 + 1) h894 (by omega) (by omega) s895 f896 (by omega)
                              · refine zj_if_ne (t := 104) (zdk ttX11_goesOut 55 rfl rfl) (by decide) (by decide) (fun c1021 => ?_) (fun c1021 => ?_)
                                · refine zj_aload_n (zdk ttX11_goesOut 57 rfl rfl) rfl (by decide) ?_
                                  refine zj_iload (zdk ttX11_goesOut 58 rfl rfl) rfl ?_
                                  refine zj_callV (av := [.inl x893]) (st := []) (zdk ttX11_goesOut 59 rfl rfl) mb_X11_goesAboard mv_RX11_347 (ci := 11) rfl rfl (k_M s895) rfl rfl (Nat.le_of_ble_eq_true rfl) (s_X11_goesAboard l h894 x893 s895 (by omega)) (rm_ok (by decide) (by decide)) (zq_v fun h1024 q1022 => ?_)
                                  obtain ⟨s1026, f1027⟩ := q1022
                                  refine zj_iload_n (zdk ttX11_goesOut 60 rfl rfl) rfl ?_
                                  refine zj_iconst (zdk ttX11_goesOut 61 rfl rfl) ?_
                                  refine zj_isub (zdk ttX11_goesOut 62 rfl rfl) ?_
                                  refine zj_istore_n (L' := [some (.inr 0), some (.inl p1), some (.inl (x892 - 1)), some (.inl x2), some (.inl x893)]) (zdk ttX11_goesOut 63 rfl rfl) (by decide) rfl ?_
                                  refine zj_iinc (L' := [some (.inr 0), some (.inl p1), some (.inl (x892 - 1)), some (.inl x2), some (.inl (x893 + 1))]) (zdk ttX11_goesOut 64 rfl rfl) rfl (by decide) rfl ?_
                                  refine zj_goto (t := 64) (zdk ttX11_goesOut 65 rfl rfl) (by decide) ?_
                                  have f1028 : zfr [] [1, 6, 20, 21] h h1024 := zfr_t f896 f1027 rfl rfl
                                  exact ih1006  (x892 - 1) (x893 + 1) h1024 (by omega) (by omega) s1026 f1028 (by omega)
                                · exact absurd c1021 (by omega)
                  have f1031 : zfr [] [1, 6, 20, 21] h h875 := zfr_t f5 f878 rfl rfl
                  have f1030 : zfr [] [1, 6, 20, 21] h h881 := zfr_t f1031 f884 rfl rfl
                  have f1029 : zfr [] [1, 6, 20, 21] h h888 := zfr_t f1030 f891 rfl rfl
                  exact lp1002 _ (x1 - 1) 0 h888 (by omega) (by omega) s890 f1029 (Nat.lt_succ_self _)
                · refine zj_goto (t := 120) (zdk ttX11_goesOut 28 rfl rfl) (by decide) ?_
                  refine zj_iinc (L' := [some (.inr 0), some (.inl p1), some (.inl x1), some (.inl (x2 + 1)), none]) (zdk ttX11_goesOut 66 rfl rfl) rfl (by decide) rfl ?_
                  refine zj_goto (t := 4) (zdk ttX11_goesOut 67 rfl rfl) (by decide) ?_
                  have f1033 : zfr [] [1, 6, 20, 21] h h875 := zfr_t f5 f878 rfl rfl
                  have f1032 : zfr [] [1, 6, 20, 21] h h881 := zfr_t f1033 f884 rfl rfl
                  exact ih860  x1 (x2 + 1) h881 (by omega) (by omega) s883 f1032 (by omega)
  exact lp856 _ p1 0 h (by omega) (by omega) s0 (zfr_r _ _ _) (Nat.lt_succ_self _)

abbrev tX11_bringsBack : List (Nat × Instr × Nat) := [(0, .iload_n 1, 1), (1, .istore_n 2, 1), (2, .iconst 0, 1), (3, .istore_n 3, 1), (4, .iload_n 3, 1), (5, .aload_n 0, 1), (6, .getfield 132, 3), (9, .if_icmp .ge 45, 3), (12, .iload_n 2, 1), (13, .ifCond .le 41, 3), (16, .aload_n 0, 1), (17, .iload_n 3, 1), (18, .invokevirtual 135, 3), (21, .ifCond .ne 27, 3), (24, .aload_n 0, 1), (25, .aload_n 0, 1), (26, .iload_n 3, 1), (27, .invokevirtual 365, 3), (30, .invokevirtual 362, 3), (33, .ifCond .ne 6, 3), (36, .goto 12, 3), (39, .aload_n 0, 1), (40, .iload_n 3, 1), (41, .invokevirtual 350, 3), (44, .iload_n 2, 1), (45, .iconst 1, 1), (46, .isub, 1), (47, .istore_n 2, 1), (48, .iinc 3 1, 3), (51, .goto (-47), 3), (54, .return_, 1)]
theorem ttX11_bringsBack : zdt cX11_bringsBack tX11_bringsBack = true := by decide +kernel
abbrev q_X11_bringsBack (h : zM) (p1 : Int) : Option zV → zM → Prop := zqv fun h' => okM h' ∧ zfr [] [1, 6, 20, 21] h h'
set_option maxRecDepth 100000 in
set_option maxHeartbeats 4000000 in
theorem s_X11_bringsBack (l : Launch) (h : zM) (p1 : Int) (s0 : okM h) (b_p1 : (-2147483648) ≤ p1 ∧ p1 ≤ 2147483647) : zT shM l yX11_bringsBack cX11_bringsBack 4 none (rmL 7) 0 0 [.inr 0, .inl p1] h (q_X11_bringsBack h p1) := by
  refine zT_of (by decide +kernel) (L0 := [some (.inr 0), some (.inl p1), none, none]) rfl (Nat.le_of_ble_eq_true rfl) ?_
  refine zj_iload_n (zdk ttX11_bringsBack 0 rfl rfl) rfl ?_
  refine zj_istore_n (L' := [some (.inr 0), some (.inl p1), some (.inl p1), none]) (zdk ttX11_bringsBack 1 rfl rfl) (by decide) rfl ?_
  refine zj_iconst (zdk ttX11_bringsBack 2 rfl rfl) ?_
  refine zj_istore_n (L' := [some (.inr 0), some (.inl p1), some (.inl p1), some (.inl 0)]) (zdk ttX11_bringsBack 3 rfl rfl) (by decide) rfl ?_
  have lp146 : ∀ (n4 : Nat) (x1 x2 : Int) (h3 : zM), (-2147483648 ≤ x1 ∧ x1 ≤ 2147483647) → (0 ≤ x2 ∧ x2 ≤ 18) → okM h3 → zfr [] [1, 6, 20, 21] h h3 → (19 - x2).toNat < n4 → zJ shM l yX11_bringsBack cX11_bringsBack 4 none (rmL 7) 0 0 (q_X11_bringsBack h p1) 0 0 4 [some (.inr 0), some (.inl p1), some (.inl x1), some (.inl x2)] [] h3 := by
    intro n4
    induction n4 with
    | zero => intro x1 x2 h3 b147 b148 s4 f5 m149; exact absurd m149 (Nat.not_lt_zero _)
    | succ n4 ih150 =>
      intro x1 x2 h3 b147 b148 s4 f5 m149
      refine zj_iload_n (zdk ttX11_bringsBack 4 rfl rfl) rfl ?_
      refine zj_aload_n (zdk ttX11_bringsBack 5 rfl rfl) rfl (by decide) ?_
      have b151 : 0 ≤ (h.2 0 6) ∧ (h.2 0 6) ≤ 18 := fM_6 s0
      refine zj_geti (v := (h.2 0 6)) (zdk ttX11_bringsBack 6 rfl rfl) zf_RX11_132 rfl (k_M s4) (zfr_f f5 rfl rfl) ?_
      refine zj_icmp_ge (t := 54) (zdk ttX11_bringsBack 7 rfl rfl) (by decide) (by omega) (by omega) (fun c152 => ?_) (fun c152 => ?_)
      · exact zj_vret rfl (zdk ttX11_bringsBack 30 rfl rfl) (Nat.le_refl _) (Nat.le_refl _) ⟨rfl, s4, f5⟩
      · refine zj_iload_n (zdk ttX11_bringsBack 8 rfl rfl) rfl ?_
        refine zj_if_le (t := 54) (zdk ttX11_bringsBack 9 rfl rfl) (by decide) (by omega) (fun c153 => ?_) (fun c153 => ?_)
        · exact zj_vret rfl (zdk ttX11_bringsBack 30 rfl rfl) (Nat.le_refl _) (Nat.le_refl _) ⟨rfl, s4, f5⟩
        · refine zj_aload_n (zdk ttX11_bringsBack 10 rfl rfl) rfl (by decide) ?_
          refine zj_iload_n (zdk ttX11_bringsBack 11 rfl rfl) rfl ?_
          refine zj_callV (av := [.inl x2]) (st := []) (zdk ttX11_bringsBack 12 rfl rfl) mb_X11_isHere mv_RX11_135 (ci := 11) rfl rfl (k_M s4) rfl rfl (Nat.le_of_ble_eq_true rfl) (s_X11_isHere l h3 x2 s4 (by omega)) (rm_ok (by decide) (by decide)) (zq_i fun v155 h156 q154 => ?_)
          obtain ⟨rfl, ⟨rfl, b157⟩ | ⟨rfl, b157⟩⟩ := q154
          · refine zj_if_ne (t := 48) (zdk ttX11_bringsBack 13 rfl rfl) (by decide) (by decide) (fun c158 => ?_) (fun c158 => ?_)
            · exact absurd c158 (by omega)
            · refine zj_aload_n (zdk ttX11_bringsBack 14 rfl rfl) rfl (by decide) ?_
              refine zj_aload_n (zdk ttX11_bringsBack 15 rfl rfl) rfl (by decide) ?_
              refine zj_iload_n (zdk ttX11_bringsBack 16 rfl rfl) rfl ?_
              refine zj_callV (av := [.inl x2]) (st := [.inr 0]) (zdk ttX11_bringsBack 17 rfl rfl) mb_X11_returnsOf mv_RX11_365 (ci := 11) rfl rfl (k_M s4) rfl rfl (Nat.le_of_ble_eq_true rfl) (s_X11_returnsOf l h3 x2 s4 (by omega)) (rm_ok (by decide) (by decide)) (zq_i fun v160 h161 q159 => ?_)
              obtain ⟨b162, s163, f164⟩ := q159
              refine zj_callV (av := [.inl v160]) (st := []) (zdk ttX11_bringsBack 18 rfl rfl) mb_X11_happens mv_RX11_362 (ci := 11) rfl rfl (k_M s163) rfl rfl (Nat.le_of_ble_eq_true rfl) (s_X11_happens l h161 v160 s163 (by omega)) (rm_ok (by decide) (by decide)) (zq_i fun v166 h167 q165 => ?_)
              obtain ⟨b168, s169, f170⟩ := q165
              refine zj_if_ne (t := 39) (zdk ttX11_bringsBack 19 rfl rfl) (by decide) (by omega) (fun c171 => ?_) (fun c171 => ?_)
              · refine zj_aload_n (zdk ttX11_bringsBack 21 rfl rfl) rfl (by decide) ?_
                refine zj_iload_n (zdk ttX11_bringsBack 22 rfl rfl) rfl ?_
                refine zj_callV (av := [.inl x2]) (st := []) (zdk ttX11_bringsBack 23 rfl rfl) mb_X11_comesBack mv_RX11_350 (ci := 11) rfl rfl (k_M s169) rfl rfl (Nat.le_of_ble_eq_true rfl) (s_X11_comesBack l h167 x2 s169 (by omega)) (rm_ok (by decide) (by decide)) (zq_v fun h174 q172 => ?_)
                obtain ⟨s176, f177⟩ := q172
                refine zj_iload_n (zdk ttX11_bringsBack 24 rfl rfl) rfl ?_
                refine zj_iconst (zdk ttX11_bringsBack 25 rfl rfl) ?_
                refine zj_isub (zdk ttX11_bringsBack 26 rfl rfl) ?_
                refine zj_istore_n (L' := [some (.inr 0), some (.inl p1), some (.inl (x1 - 1)), some (.inl x2)]) (zdk ttX11_bringsBack 27 rfl rfl) (by decide) rfl ?_
                refine zj_iinc (L' := [some (.inr 0), some (.inl p1), some (.inl (x1 - 1)), some (.inl (x2 + 1))]) (zdk ttX11_bringsBack 28 rfl rfl) rfl (by decide) rfl ?_
                refine zj_goto (t := 4) (zdk ttX11_bringsBack 29 rfl rfl) (by decide) ?_
                have f180 : zfr [] [1, 6, 20, 21] h h161 := zfr_t f5 f164 rfl rfl
                have f179 : zfr [] [1, 6, 20, 21] h h167 := zfr_t f180 f170 rfl rfl
                have f178 : zfr [] [1, 6, 20, 21] h h174 := zfr_t f179 f177 rfl rfl
                exact ih150  (x1 - 1) (x2 + 1) h174 (by omega) (by omega) s176 f178 (by omega)
              · refine zj_goto (t := 48) (zdk ttX11_bringsBack 20 rfl rfl) (by decide) ?_
                refine zj_iinc (L' := [some (.inr 0), some (.inl p1), some (.inl x1), some (.inl (x2 + 1))]) (zdk ttX11_bringsBack 28 rfl rfl) rfl (by decide) rfl ?_
                refine zj_goto (t := 4) (zdk ttX11_bringsBack 29 rfl rfl) (by decide) ?_
                have f182 : zfr [] [1, 6, 20, 21] h h161 := zfr_t f5 f164 rfl rfl
                have f181 : zfr [] [1, 6, 20, 21] h h167 := zfr_t f182 f170 rfl rfl
                exact ih150  x1 (x2 + 1) h167 (by omega) (by omega) s169 f181 (by omega)
          · refine zj_if_ne (t := 48) (zdk ttX11_bringsBack 13 rfl rfl) (by decide) (by decide) (fun c183 => ?_) (fun c183 => ?_)
            · refine zj_iinc (L' := [some (.inr 0), some (.inl p1), some (.inl x1), some (.inl (x2 + 1))]) (zdk ttX11_bringsBack 28 rfl rfl) rfl (by decide) rfl ?_
              refine zj_goto (t := 4) (zdk ttX11_bringsBack 29 rfl rfl) (by decide) ?_
              exact ih150  x1 (x2 + 1) h3 (by omega) (by omega) s4 f5 (by omega)
            · exact absurd c183 (by omega)
  exact lp146 _ p1 0 h (by omega) (by omega) s0 (zfr_r _ _ _) (Nat.lt_succ_self _)

abbrev tX11_goesBy : List (Nat × Instr × Nat) := [(0, .iconst 0, 1), (1, .istore_n 1, 1), (2, .iload_n 1, 1), (3, .iconst 3, 1), (4, .aload_n 0, 1), (5, .getfield 288, 3), (8, .imul, 1), (9, .if_icmp .ge 30, 3), (12, .aload_n 0, 1), (13, .getfield 65, 3), (16, .iload_n 1, 1), (17, .iaload, 1), (18, .aload_n 0, 1), (19, .getfield 7, 3), (22, .iconst 0, 1), (23, .iaload, 1), (24, .if_icmp .ne 8, 3), (27, .aload_n 0, 1), (28, .iload_n 1, 1), (29, .invokevirtual 377, 3), (32, .iload_n 1, 1), (33, .iconst 3, 1), (34, .iadd, 1), (35, .istore_n 1, 1), (36, .goto (-34), 3), (39, .iconst 0, 1), (40, .istore_n 1, 1), (41, .iload_n 1, 1), (42, .iconst 3, 1), (43, .aload_n 0, 1), (44, .getfield 285, 3), (47, .imul, 1), (48, .if_icmp .ge 67, 3), (51, .aload_n 0, 1), (52, .getfield 62, 3), (55, .iload_n 1, 1), (56, .iaload, 1), (57, .aload_n 0, 1), (58, .getfield 7, 3), (61, .iconst 0, 1), (62, .iaload, 1), (63, .if_icmp .eq 6, 3), (66, .goto 42, 3), (69, .aload_n 0, 1), (70, .getfield 62, 3), (73, .iload_n 1, 1), (74, .iconst 2, 1), (75, .iadd, 1), (76, .iaload, 1), (77, .iconst 1, 1), (78, .if_icmp .ne 18, 3), (81, .aload_n 0, 1), (82, .aload_n 0, 1), (83, .getfield 62, 3), (86, .iload_n 1, 1), (87, .iconst 1, 1), (88, .iadd, 1), (89, .iaload, 1), (90, .invokevirtual 380, 3), (93, .goto 15, 3), (96, .aload_n 0, 1), (97, .aload_n 0, 1), (98, .getfield 62, 3), (101, .iload_n 1, 1), (102, .iconst 1, 1), (103, .iadd, 1), (104, .iaload, 1), (105, .invokevirtual 383, 3), (108, .iload_n 1, 1), (109, .iconst 3, 1), (110, .iadd, 1), (111, .istore_n 1, 1), (112, .goto (-71), 3), (115, .aload_n 0, 1), (116, .invokevirtual 386, 3), (119, .istore_n 1, 1), (120, .aload_n 0, 1), (121, .getfield 7, 3), (124, .iconst 0, 1), (125, .aload_n 0, 1), (126, .getfield 7, 3), (129, .iconst 0, 1), (130, .iaload, 1), (131, .iconst 1, 1), (132, .iadd, 1), (133, .iastore, 1), (134, .iload_n 1, 1), (135, .ireturn, 1)]
theorem ttX11_goesBy : zdt cX11_goesBy tX11_goesBy = true := by decide +kernel
abbrev q_X11_goesBy (h : zM) : Option zV → zM → Prop := zqi fun v h' => ((-2147483648) ≤ v ∧ v ≤ 2147483647) ∧ okM h' ∧ zfr [] [1, 6, 20, 21] h h'
set_option maxRecDepth 100000 in
set_option maxHeartbeats 4000000 in
theorem s_X11_goesBy (l : Launch) (h : zM) (s0 : okM h) : zT shM l yX11_goesBy cX11_goesBy 2 (some .int) (rmL 8) 0 0 [.inr 0] h (q_X11_goesBy h) := by
  refine zT_of (by decide +kernel) (L0 := [some (.inr 0), none]) rfl (Nat.le_of_ble_eq_true rfl) ?_
  refine zj_iconst (zdk ttX11_goesBy 0 rfl rfl) ?_
  refine zj_istore_n (L' := [some (.inr 0), some (.inl 0)]) (zdk ttX11_goesBy 1 rfl rfl) (by decide) rfl ?_
  have lp65 : ∀ (n2 : Nat) (x1 : Int) (h2 : zM), (0 ≤ x1 ∧ x1 ≤ 50) → okM h2 → zfr [] [1, 6, 20, 21] h h2 → (x1 % 3 = 0) → (51 - x1).toNat < n2 → zJ shM l yX11_goesBy cX11_goesBy 2 (some .int) (rmL 8) 0 0 (q_X11_goesBy h) 0 0 2 [some (.inr 0), some (.inl x1)] [] h2 := by
    intro n2
    induction n2 with
    | zero => intro x1 h2 b66 s3 f4 u67 m68; exact absurd m68 (Nat.not_lt_zero _)
    | succ n2 ih69 =>
      intro x1 h2 b66 s3 f4 u67 m68
      refine zj_iload_n (zdk ttX11_goesBy 2 rfl rfl) rfl ?_
      refine zj_iconst (zdk ttX11_goesBy 3 rfl rfl) ?_
      refine zj_aload_n (zdk ttX11_goesBy 4 rfl rfl) rfl (by decide) ?_
      have b70 : 0 ≤ (h.2 0 35) ∧ (h.2 0 35) ≤ 16 := fM_35 s0
      refine zj_geti (v := (h.2 0 35)) (zdk ttX11_goesBy 5 rfl rfl) zf_RX11_288 rfl (k_M s3) (zfr_f f4 rfl rfl) ?_
      refine zj_imul (zdk ttX11_goesBy 6 rfl rfl) ?_
      refine zj_icmp_ge (t := 39) (zdk ttX11_goesBy 7 rfl rfl) (by decide) (by omega) (by omega) (fun c71 => ?_) (fun c71 => ?_)
      · refine zj_iconst (zdk ttX11_goesBy 25 rfl rfl) ?_
        refine zj_istore_n (L' := [some (.inr 0), some (.inl 0)]) (zdk ttX11_goesBy 26 rfl rfl) (by decide) rfl ?_
        have lp196 : ∀ (n41 : Nat) (x82 : Int) (h83 : zM), (0 ≤ x82 ∧ x82 ≤ 50) → okM h83 → zfr [] [1, 6, 20, 21] h h83 → (51 - x82).toNat < n41 → zJ shM l yX11_goesBy cX11_goesBy 2 (some .int) (rmL 8) 0 0 (q_X11_goesBy h) 0 0 41 [some (.inr 0), some (.inl x82)] [] h83 := by
          intro n41
          induction n41 with
          | zero => intro x82 h83 b197 s84 f85 m198; exact absurd m198 (Nat.not_lt_zero _)
          | succ n41 ih199 =>
            intro x82 h83 b197 s84 f85 m198
            refine zj_iload_n (zdk ttX11_goesBy 27 rfl rfl) rfl ?_
            refine zj_iconst (zdk ttX11_goesBy 28 rfl rfl) ?_
            refine zj_aload_n (zdk ttX11_goesBy 29 rfl rfl) rfl (by decide) ?_
            have b200 : 0 ≤ (h.2 0 33) ∧ (h.2 0 33) ≤ 16 := fM_33 s0
            refine zj_geti (v := (h.2 0 33)) (zdk ttX11_goesBy 30 rfl rfl) zf_RX11_285 rfl (k_M s84) (zfr_f f85 rfl rfl) ?_
            refine zj_imul (zdk ttX11_goesBy 31 rfl rfl) ?_
            refine zj_icmp_ge (t := 115) (zdk ttX11_goesBy 32 rfl rfl) (by decide) (by omega) (by omega) (fun c201 => ?_) (fun c201 => ?_)
            · refine zj_aload_n (zdk ttX11_goesBy 73 rfl rfl) rfl (by decide) ?_
              refine zj_callV (av := []) (st := []) (zdk ttX11_goesBy 74 rfl rfl) mb_X11_clockRuns mv_RX11_386 (ci := 11) rfl rfl (k_M s84) rfl rfl (Nat.le_of_ble_eq_true rfl) (s_X11_clockRuns l h83 s84) (rm_ok (by decide) (by decide)) (zq_i fun v223 h224 q222 => ?_)
              obtain ⟨b225, s226, f227⟩ := q222
              refine zj_istore_n (L' := [some (.inr 0), some (.inl v223)]) (zdk ttX11_goesBy 75 rfl rfl) (by decide) rfl ?_
              refine zj_aload_n (zdk ttX11_goesBy 76 rfl rfl) rfl (by decide) ?_
              refine zj_getr (r := 1) (zdk ttX11_goesBy 77 rfl rfl) zf_RX11_7 rfl (k_M s226) (rfM_1 s226) ?_
              refine zj_iconst (zdk ttX11_goesBy 78 rfl rfl) ?_
              refine zj_aload_n (zdk ttX11_goesBy 79 rfl rfl) rfl (by decide) ?_
              refine zj_getr (r := 1) (zdk ttX11_goesBy 80 rfl rfl) zf_RX11_7 rfl (k_M s226) (rfM_1 s226) ?_
              refine zj_iconst (zdk ttX11_goesBy 81 rfl rfl) ?_
              have b229 : -2147483648 ≤ (h224.2 1 0) ∧ (h224.2 1 0) ≤ 2147483647 := (rM_b s226 1 0 (by omega)).1
              refine zj_iald (v := (h224.2 1 0)) (zdk ttX11_goesBy 82 rfl rfl) (kaM_1 s226) (by decide) (by omega) rfl ?_
              refine zj_iconst (zdk ttX11_goesBy 83 rfl rfl) ?_
              refine zj_iadd (zdk ttX11_goesBy 84 rfl rfl) ?_
              refine zj_wrap ?_
              have b230 := zwp_in ((h224.2 1 0) + 1)
              refine zj_iast (zdk ttX11_goesBy 85 rfl rfl) (kaM_1 s226) (by decide) (by omega) (fun h231 e232 => ?_)
              refine zj_iload_n (zdk ttX11_goesBy 86 rfl rfl) rfl ?_
              have s233 : okM h231 := okM_wr s226 e232 (by decide) (by omega) (by omega)
              have f235 : zfr [] [1, 6, 20, 21] h h224 := zfr_t f85 f227 rfl rfl
              have f234 : zfr [] [1, 6, 20, 21] h h231 := zfr_wa f235 e232 rfl
              exact zj_iret rfl (zdk ttX11_goesBy 87 rfl rfl) (Nat.le_refl _) (Nat.le_refl _) ⟨v223, rfl, by omega, s233, f234⟩
            · refine zj_aload_n (zdk ttX11_goesBy 33 rfl rfl) rfl (by decide) ?_
              refine zj_getr (r := 17) (zdk ttX11_goesBy 34 rfl rfl) zf_RX11_62 rfl (k_M s84) (rfM_34 s84) ?_
              refine zj_iload_n (zdk ttX11_goesBy 35 rfl rfl) rfl ?_
              have b236 : -2147483648 ≤ (h.2 17 x82) ∧ (h.2 17 x82) ≤ 2147483647 := abM_17 s0 x82
              refine zj_iald (v := (h.2 17 x82)) (zdk ttX11_goesBy 36 rfl rfl) (kaM_17 s84) (by decide) (by omega) (zfr_a f85 rfl (by decide)) ?_
              refine zj_aload_n (zdk ttX11_goesBy 37 rfl rfl) rfl (by decide) ?_
              refine zj_getr (r := 1) (zdk ttX11_goesBy 38 rfl rfl) zf_RX11_7 rfl (k_M s84) (rfM_1 s84) ?_
              refine zj_iconst (zdk ttX11_goesBy 39 rfl rfl) ?_
              have b238 : -2147483648 ≤ (h83.2 1 0) ∧ (h83.2 1 0) ≤ 2147483647 := (rM_b s84 1 0 (by omega)).1
              refine zj_iald (v := (h83.2 1 0)) (zdk ttX11_goesBy 40 rfl rfl) (kaM_1 s84) (by decide) (by omega) rfl ?_
              refine zj_icmp_eq (t := 69) (zdk ttX11_goesBy 41 rfl rfl) (by decide) (by omega) (by omega) (fun c239 => ?_) (fun c239 => ?_)
              · refine zj_aload_n (zdk ttX11_goesBy 43 rfl rfl) rfl (by decide) ?_
                refine zj_getr (r := 17) (zdk ttX11_goesBy 44 rfl rfl) zf_RX11_62 rfl (k_M s84) (rfM_34 s84) ?_
                refine zj_iload_n (zdk ttX11_goesBy 45 rfl rfl) rfl ?_
                refine zj_iconst (zdk ttX11_goesBy 46 rfl rfl) ?_
                refine zj_iadd (zdk ttX11_goesBy 47 rfl rfl) ?_
                have b240 : -2147483648 ≤ (h.2 17 (x82 + 2)) ∧ (h.2 17 (x82 + 2)) ≤ 2147483647 := abM_17 s0 (x82 + 2)
                refine zj_iald (v := (h.2 17 (x82 + 2))) (zdk ttX11_goesBy 48 rfl rfl) (kaM_17 s84) (by decide) (by omega) (zfr_a f85 rfl (by decide)) ?_
                refine zj_iconst (zdk ttX11_goesBy 49 rfl rfl) ?_
                refine zj_icmp_ne (t := 96) (zdk ttX11_goesBy 50 rfl rfl) (by decide) (by omega) (by decide) (fun c241 => ?_) (fun c241 => ?_)
                · refine zj_aload_n (zdk ttX11_goesBy 60 rfl rfl) rfl (by decide) ?_
                  refine zj_aload_n (zdk ttX11_goesBy 61 rfl rfl) rfl (by decide) ?_
                  refine zj_getr (r := 17) (zdk ttX11_goesBy 62 rfl rfl) zf_RX11_62 rfl (k_M s84) (rfM_34 s84) ?_
                  refine zj_iload_n (zdk ttX11_goesBy 63 rfl rfl) rfl ?_
                  refine zj_iconst (zdk ttX11_goesBy 64 rfl rfl) ?_
                  refine zj_iadd (zdk ttX11_goesBy 65 rfl rfl) ?_
                  have b242 : -2147483648 ≤ (h.2 17 (x82 + 1)) ∧ (h.2 17 (x82 + 1)) ≤ 2147483647 := abM_17 s0 (x82 + 1)
                  refine zj_iald (v := (h.2 17 (x82 + 1))) (zdk ttX11_goesBy 66 rfl rfl) (kaM_17 s84) (by decide) (by omega) (zfr_a f85 rfl (by decide)) ?_
                  refine zj_callV (av := [.inl (h.2 17 (x82 + 1))]) (st := []) (zdk ttX11_goesBy 67 rfl rfl) mb_X11_bringsBack mv_RX11_383 (ci := 11) rfl rfl (k_M s84) rfl rfl (Nat.le_of_ble_eq_true rfl) (s_X11_bringsBack l h83 (h.2 17 (x82 + 1)) s84 (by omega)) (rm_ok (by decide) (by decide)) (zq_v fun h245 q243 => ?_)
                  obtain ⟨s247, f248⟩ := q243
                  refine zj_iload_n (zdk ttX11_goesBy 68 rfl rfl) rfl ?_
                  refine zj_iconst (zdk ttX11_goesBy 69 rfl rfl) ?_
                  refine zj_iadd (zdk ttX11_goesBy 70 rfl rfl) ?_
                  refine zj_istore_n (L' := [some (.inr 0), some (.inl (x82 + 3))]) (zdk ttX11_goesBy 71 rfl rfl) (by decide) rfl ?_
                  refine zj_goto (t := 41) (zdk ttX11_goesBy 72 rfl rfl) (by decide) ?_
                  have f249 : zfr [] [1, 6, 20, 21] h h245 := zfr_t f85 f248 rfl rfl
                  exact ih199  (x82 + 3) h245 (by omega) s247 f249 (by omega)
                · refine zj_aload_n (zdk ttX11_goesBy 51 rfl rfl) rfl (by decide) ?_
                  refine zj_aload_n (zdk ttX11_goesBy 52 rfl rfl) rfl (by decide) ?_
                  refine zj_getr (r := 17) (zdk ttX11_goesBy 53 rfl rfl) zf_RX11_62 rfl (k_M s84) (rfM_34 s84) ?_
                  refine zj_iload_n (zdk ttX11_goesBy 54 rfl rfl) rfl ?_
                  refine zj_iconst (zdk ttX11_goesBy 55 rfl rfl) ?_
                  refine zj_iadd (zdk ttX11_goesBy 56 rfl rfl) ?_
                  have b250 : -2147483648 ≤ (h.2 17 (x82 + 1)) ∧ (h.2 17 (x82 + 1)) ≤ 2147483647 := abM_17 s0 (x82 + 1)
                  refine zj_iald (v := (h.2 17 (x82 + 1))) (zdk ttX11_goesBy 57 rfl rfl) (kaM_17 s84) (by decide) (by omega) (zfr_a f85 rfl (by decide)) ?_
                  refine zj_callV (av := [.inl (h.2 17 (x82 + 1))]) (st := []) (zdk ttX11_goesBy 58 rfl rfl) mb_X11_goesOut mv_RX11_380 (ci := 11) rfl rfl (k_M s84) rfl rfl (Nat.le_of_ble_eq_true rfl) (s_X11_goesOut l h83 (h.2 17 (x82 + 1)) s84 (by omega)) (rm_ok (by decide) (by decide)) (zq_v fun h253 q251 => ?_)
                  obtain ⟨s255, f256⟩ := q251
                  refine zj_goto (t := 108) (zdk ttX11_goesBy 59 rfl rfl) (by decide) ?_
                  refine zj_iload_n (zdk ttX11_goesBy 68 rfl rfl) rfl ?_
                  refine zj_iconst (zdk ttX11_goesBy 69 rfl rfl) ?_
                  refine zj_iadd (zdk ttX11_goesBy 70 rfl rfl) ?_
                  refine zj_istore_n (L' := [some (.inr 0), some (.inl (x82 + 3))]) (zdk ttX11_goesBy 71 rfl rfl) (by decide) rfl ?_
                  refine zj_goto (t := 41) (zdk ttX11_goesBy 72 rfl rfl) (by decide) ?_
                  have f257 : zfr [] [1, 6, 20, 21] h h253 := zfr_t f85 f256 rfl rfl
                  exact ih199  (x82 + 3) h253 (by omega) s255 f257 (by omega)
              · refine zj_goto (t := 108) (zdk ttX11_goesBy 42 rfl rfl) (by decide) ?_
                refine zj_iload_n (zdk ttX11_goesBy 68 rfl rfl) rfl ?_
                refine zj_iconst (zdk ttX11_goesBy 69 rfl rfl) ?_
                refine zj_iadd (zdk ttX11_goesBy 70 rfl rfl) ?_
                refine zj_istore_n (L' := [some (.inr 0), some (.inl (x82 + 3))]) (zdk ttX11_goesBy 71 rfl rfl) (by decide) rfl ?_
                refine zj_goto (t := 41) (zdk ttX11_goesBy 72 rfl rfl) (by decide) ?_
                exact ih199  (x82 + 3) h83 (by omega) s84 f85 (by omega)
        exact lp196 _ 0 h2 (by omega) s3 f4 (Nat.lt_succ_self _)
      · refine zj_aload_n (zdk ttX11_goesBy 8 rfl rfl) rfl (by decide) ?_
        refine zj_getr (r := 18) (zdk ttX11_goesBy 9 rfl rfl) zf_RX11_65 rfl (k_M s3) (rfM_36 s3) ?_
        refine zj_iload_n (zdk ttX11_goesBy 10 rfl rfl) rfl ?_
        have b258 : -2147483648 ≤ (h.2 18 x1) ∧ (h.2 18 x1) ≤ 2147483647 := abM_18 s0 x1
        refine zj_iald (v := (h.2 18 x1)) (zdk ttX11_goesBy 11 rfl rfl) (kaM_18 s3) (by decide) (by omega) (zfr_a f4 rfl (by decide)) ?_
        refine zj_aload_n (zdk ttX11_goesBy 12 rfl rfl) rfl (by decide) ?_
        refine zj_getr (r := 1) (zdk ttX11_goesBy 13 rfl rfl) zf_RX11_7 rfl (k_M s3) (rfM_1 s3) ?_
        refine zj_iconst (zdk ttX11_goesBy 14 rfl rfl) ?_
        have b260 : -2147483648 ≤ (h2.2 1 0) ∧ (h2.2 1 0) ≤ 2147483647 := (rM_b s3 1 0 (by omega)).1
        refine zj_iald (v := (h2.2 1 0)) (zdk ttX11_goesBy 15 rfl rfl) (kaM_1 s3) (by decide) (by omega) rfl ?_
        refine zj_icmp_ne (t := 32) (zdk ttX11_goesBy 16 rfl rfl) (by decide) (by omega) (by omega) (fun c261 => ?_) (fun c261 => ?_)
        · refine zj_iload_n (zdk ttX11_goesBy 20 rfl rfl) rfl ?_
          refine zj_iconst (zdk ttX11_goesBy 21 rfl rfl) ?_
          refine zj_iadd (zdk ttX11_goesBy 22 rfl rfl) ?_
          refine zj_istore_n (L' := [some (.inr 0), some (.inl (x1 + 3))]) (zdk ttX11_goesBy 23 rfl rfl) (by decide) rfl ?_
          refine zj_goto (t := 2) (zdk ttX11_goesBy 24 rfl rfl) (by decide) ?_
          exact ih69  (x1 + 3) h2 (by omega) s3 f4 (by omega) (by omega)
        · refine zj_aload_n (zdk ttX11_goesBy 17 rfl rfl) rfl (by decide) ?_
          refine zj_iload_n (zdk ttX11_goesBy 18 rfl rfl) rfl ?_
          refine zj_callV (av := [.inl x1]) (st := []) (zdk ttX11_goesBy 19 rfl rfl) mb_X11_does mv_RX11_377 (ci := 11) rfl rfl (k_M s3) rfl rfl (Nat.le_of_ble_eq_true rfl) (s_X11_does l h2 x1 s3 (by omega) (by omega)) (rm_ok (by decide) (by decide)) (zq_v fun h264 q262 => ?_)
          obtain ⟨s266, f267⟩ := q262
          refine zj_iload_n (zdk ttX11_goesBy 20 rfl rfl) rfl ?_
          refine zj_iconst (zdk ttX11_goesBy 21 rfl rfl) ?_
          refine zj_iadd (zdk ttX11_goesBy 22 rfl rfl) ?_
          refine zj_istore_n (L' := [some (.inr 0), some (.inl (x1 + 3))]) (zdk ttX11_goesBy 23 rfl rfl) (by decide) rfl ?_
          refine zj_goto (t := 2) (zdk ttX11_goesBy 24 rfl rfl) (by decide) ?_
          have f268 : zfr [] [1, 6, 20, 21] h h264 := zfr_t f4 f267 rfl rfl
          exact ih69  (x1 + 3) h264 (by omega) s266 f268 (by omega) (by omega)
  exact lp65 _ 0 h (by omega) s0 (zfr_r _ _ _) (by omega) (Nat.lt_succ_self _)

abbrev tX11_days : List (Nat × Instr × Nat) := [(0, .aload_n 0, 1), (1, .iconst 0, 1), (2, .putfield 120, 3), (5, .aload_n 0, 1), (6, .iload_n 1, 1), (7, .iconst 1, 1), (8, .bipush 60, 2), (10, .invokevirtual 139, 3), (13, .ifCond .eq 17, 3), (16, .aload_n 0, 1), (17, .getfield 7, 3), (20, .iconst 0, 1), (21, .iaload, 1), (22, .iload_n 1, 1), (23, .iadd, 1), (24, .sipush 9999, 3), (27, .if_icmp .le 5, 3), (30, .iconst (-1), 1), (31, .ireturn, 1), (32, .iconst 0, 1), (33, .istore_n 2, 1), (34, .iconst 0, 1), (35, .istore_n 3, 1), (36, .iload_n 3, 1), (37, .iload_n 1, 1), (38, .if_icmp .ge 20, 3), (41, .aload_n 0, 1), (42, .invokevirtual 344, 3), (45, .iload_n 2, 1), (46, .aload_n 0, 1), (47, .invokevirtual 389, 3), (50, .iadd, 1), (51, .istore_n 2, 1), (52, .iinc 3 1, 3), (55, .goto (-19), 3), (58, .iload_n 2, 1), (59, .ireturn, 1)]
theorem ttX11_days : zdt cX11_days tX11_days = true := by decide +kernel
abbrev q_X11_days (h : zM) (p1 : Int) : Option zV → zM → Prop := zqi fun v h' => ((-2147483648) ≤ v ∧ v ≤ 2147483647) ∧ okM h' ∧ zfr [0, 3] [1, 2, 6, 20, 21] h h'
set_option maxRecDepth 100000 in
set_option maxHeartbeats 4000000 in
theorem s_X11_days (l : Launch) (h : zM) (p1 : Int) (s0 : okM h) (b_p1 : (-2147483648) ≤ p1 ∧ p1 ≤ 2147483647) : zT shM l yX11_days cX11_days 4 (some .int) (rmL 9) 0 0 [.inr 0, .inl p1] h (q_X11_days h p1) := by
  refine zT_of (by decide +kernel) (L0 := [some (.inr 0), some (.inl p1), none, none]) rfl (Nat.le_of_ble_eq_true rfl) ?_
  refine zj_aload_n (zdk ttX11_days 0 rfl rfl) rfl (by decide) ?_
  refine zj_iconst (zdk ttX11_days 1 rfl rfl) ?_
  refine zj_puti (zdk ttX11_days 2 rfl rfl) zf_RX11_120 rfl (k_M s0) (Or.inl zw_RX11_120) (k2 := 0) rfl (fun h1 e2 => ?_)
  refine zj_aload_n (zdk ttX11_days 3 rfl rfl) rfl (by decide) ?_
  refine zj_iload_n (zdk ttX11_days 4 rfl rfl) rfl ?_
  refine zj_iconst (zdk ttX11_days 5 rfl rfl) ?_
  refine zj_bipush (zdk ttX11_days 6 rfl rfl) (by decide) ?_
  have s3 : okM h1 := fwM_0 s0 e2 (by omega)
  refine zj_callV (av := [.inl p1, .inl 1, .inl 60]) (st := []) (zdk ttX11_days 7 rfl rfl) mb_X11_isIn mv_RX11_139 (ci := 11) rfl rfl (k_M s3) rfl rfl (Nat.le_of_ble_eq_true rfl) (s_X11_isIn l h1 p1 1 60 s3 (by omega) (by omega) (by omega)) (rm_ok (by decide) (by decide)) (zq_i fun v5 h6 q4 => ?_)
  obtain ⟨rfl, ⟨rfl, b7⟩ | ⟨rfl, b7⟩⟩ := q4
  · refine zj_if_eq (t := 30) (zdk ttX11_days 8 rfl rfl) (by decide) (by decide) (fun c8 => ?_) (fun c8 => ?_)
    · refine zj_iconst (zdk ttX11_days 17 rfl rfl) ?_
      have f9 : zfr [0, 3] [1, 2, 6, 20, 21] h h1 := zfr_wf (zfr_r _ _ _) e2 rfl
      exact zj_iret rfl (zdk ttX11_days 18 rfl rfl) (Nat.le_refl _) (Nat.le_refl _) ⟨(-1), rfl, by omega, s3, f9⟩
    · exact absurd c8 (by omega)
  · refine zj_if_eq (t := 30) (zdk ttX11_days 8 rfl rfl) (by decide) (by decide) (fun c10 => ?_) (fun c10 => ?_)
    · exact absurd c10 (by omega)
    · refine zj_aload_n (zdk ttX11_days 9 rfl rfl) rfl (by decide) ?_
      refine zj_getr (r := 1) (zdk ttX11_days 10 rfl rfl) zf_RX11_7 rfl (k_M s3) (rfM_1 s3) ?_
      refine zj_iconst (zdk ttX11_days 11 rfl rfl) ?_
      have b12 : -2147483648 ≤ (h.2 1 0) ∧ (h.2 1 0) ≤ 2147483647 := (rM_b s0 1 0 (by omega)).1
      refine zj_iald (v := (h.2 1 0)) (zdk ttX11_days 12 rfl rfl) (kaM_1 s3) (by decide) (by omega) (zwr_r e2 (by first | decide | exact (absurd ·.1 (by decide)) | exact (absurd ·.2 (by decide)) | omega)) ?_
      refine zj_iload_n (zdk ttX11_days 13 rfl rfl) rfl ?_
      refine zj_iadd (zdk ttX11_days 14 rfl rfl) ?_
      refine zj_wrap ?_
      have b13 := zwp_in ((h.2 1 0) + p1)
      refine zj_sipush (zdk ttX11_days 15 rfl rfl) (by decide) ?_
      refine zj_icmp_le (t := 32) (zdk ttX11_days 16 rfl rfl) (by decide) (by omega) (by decide) (fun c14 => ?_) (fun c14 => ?_)
      · refine zj_iconst (zdk ttX11_days 19 rfl rfl) ?_
        refine zj_istore_n (L' := [some (.inr 0), some (.inl p1), some (.inl 0), none]) (zdk ttX11_days 20 rfl rfl) (by decide) rfl ?_
        refine zj_iconst (zdk ttX11_days 21 rfl rfl) ?_
        refine zj_istore_n (L' := [some (.inr 0), some (.inl p1), some (.inl 0), some (.inl 0)]) (zdk ttX11_days 22 rfl rfl) (by decide) rfl ?_
        have lp89 : ∀ (n36 : Nat) (x15 x16 : Int) (h17 : zM), (-2147483648 ≤ x15 ∧ x15 ≤ 2147483647) → (0 ≤ x16 ∧ x16 ≤ 60) → okM h17 → zfr [0, 3] [1, 2, 6, 20, 21] h h17 → (61 - x16).toNat < n36 → zJ shM l yX11_days cX11_days 4 (some .int) (rmL 9) 0 0 (q_X11_days h p1) 0 0 36 [some (.inr 0), some (.inl p1), some (.inl x15), some (.inl x16)] [] h17 := by
          intro n36
          induction n36 with
          | zero => intro x15 x16 h17 b90 b91 s18 f19 m92; exact absurd m92 (Nat.not_lt_zero _)
          | succ n36 ih93 =>
            intro x15 x16 h17 b90 b91 s18 f19 m92
            refine zj_iload_n (zdk ttX11_days 23 rfl rfl) rfl ?_
            refine zj_iload_n (zdk ttX11_days 24 rfl rfl) rfl ?_
            refine zj_icmp_ge (t := 58) (zdk ttX11_days 25 rfl rfl) (by decide) (by omega) (by omega) (fun c94 => ?_) (fun c94 => ?_)
            · refine zj_iload_n (zdk ttX11_days 35 rfl rfl) rfl ?_
              exact zj_iret rfl (zdk ttX11_days 36 rfl rfl) (Nat.le_refl _) (Nat.le_refl _) ⟨x15, rfl, by omega, s18, f19⟩
            · refine zj_aload_n (zdk ttX11_days 26 rfl rfl) rfl (by decide) ?_
              refine zj_callV (av := []) (st := []) (zdk ttX11_days 27 rfl rfl) mb_X11_keepsAhead mv_RX11_344 (ci := 11) rfl rfl (k_M s18) rfl rfl (Nat.le_of_ble_eq_true rfl) (s_X11_keepsAhead l h17 s18) (rm_ok (by decide) (by decide)) (zq_v fun h97 q95 => ?_)
              obtain ⟨s99, f100⟩ := q95
              refine zj_iload_n (zdk ttX11_days 28 rfl rfl) rfl ?_
              refine zj_aload_n (zdk ttX11_days 29 rfl rfl) rfl (by decide) ?_
              refine zj_callV (av := []) (st := [.inl x15]) (zdk ttX11_days 30 rfl rfl) mb_X11_goesBy mv_RX11_389 (ci := 11) rfl rfl (k_M s99) rfl rfl (Nat.le_of_ble_eq_true rfl) (s_X11_goesBy l h97 s99) (rm_ok (by decide) (by decide)) (zq_i fun v102 h103 q101 => ?_)
              obtain ⟨b104, s105, f106⟩ := q101
              refine zj_iadd (zdk ttX11_days 31 rfl rfl) ?_
              refine zj_wrap ?_
              have b107 := zwp_in (x15 + v102)
              refine zj_istore_n (L' := [some (.inr 0), some (.inl p1), some (.inl (zwp (x15 + v102))), some (.inl x16)]) (zdk ttX11_days 32 rfl rfl) (by decide) rfl ?_
              refine zj_iinc (L' := [some (.inr 0), some (.inl p1), some (.inl (zwp (x15 + v102))), some (.inl (x16 + 1))]) (zdk ttX11_days 33 rfl rfl) rfl (by decide) rfl ?_
              refine zj_goto (t := 36) (zdk ttX11_days 34 rfl rfl) (by decide) ?_
              have f109 : zfr [0, 3] [1, 2, 6, 20, 21] h h97 := zfr_t f19 f100 rfl rfl
              have f108 : zfr [0, 3] [1, 2, 6, 20, 21] h h103 := zfr_t f109 f106 rfl rfl
              exact ih93  (zwp (x15 + v102)) (x16 + 1) h103 (by omega) (by omega) s105 f108 (by omega)
        have f110 : zfr [0, 3] [1, 2, 6, 20, 21] h h1 := zfr_wf (zfr_r _ _ _) e2 rfl
        exact lp89 _ 0 0 h1 (by omega) (by omega) s3 f110 (Nat.lt_succ_self _)
      · refine zj_iconst (zdk ttX11_days 17 rfl rfl) ?_
        have f111 : zfr [0, 3] [1, 2, 6, 20, 21] h h1 := zfr_wf (zfr_r _ _ _) e2 rfl
        exact zj_iret rfl (zdk ttX11_days 18 rfl rfl) (Nat.le_refl _) (Nat.le_refl _) ⟨(-1), rfl, by omega, s3, f111⟩

abbrev tX11_of : List (Nat × Instr × Nat) := [(0, .aload_n 0, 1), (1, .iconst 0, 1), (2, .putfield 120, 3), (5, .aload_n 0, 1), (6, .iload_n 1, 1), (7, .invokevirtual 143, 3), (10, .ifCond .ne 5, 3), (13, .iconst (-1), 1), (14, .ireturn, 1), (15, .iload_n 2, 1), (16, .ifCond .ne 10, 3), (19, .aload_n 0, 1), (20, .getfield 19, 3), (23, .iload_n 1, 1), (24, .iaload, 1), (25, .ireturn, 1), (26, .iload_n 2, 1), (27, .iconst 1, 1), (28, .if_icmp .ne 10, 3), (31, .aload_n 0, 1), (32, .getfield 22, 3), (35, .iload_n 1, 1), (36, .iaload, 1), (37, .ireturn, 1), (38, .iload_n 2, 1), (39, .iconst 2, 1), (40, .if_icmp .ne 17, 3), (43, .aload_n 0, 1), (44, .iload_n 1, 1), (45, .invokevirtual 135, 3), (48, .ifCond .eq 7, 3), (51, .iconst 1, 1), (52, .goto 4, 3), (55, .iconst 0, 1), (56, .ireturn, 1), (57, .iload_n 2, 1), (58, .iconst 3, 1), (59, .if_icmp .ne 13, 3), (62, .aload_n 0, 1), (63, .getfield 7, 3), (66, .bipush 27, 2), (68, .iload_n 1, 1), (69, .iadd, 1), (70, .iaload, 1), (71, .ireturn, 1), (72, .iload_n 2, 1), (73, .iconst 4, 1), (74, .if_icmp .ne 13, 3), (77, .aload_n 0, 1), (78, .getfield 7, 3), (81, .bipush 45, 2), (83, .iload_n 1, 1), (84, .iadd, 1), (85, .iaload, 1), (86, .ireturn, 1), (87, .iload_n 2, 1), (88, .iconst 5, 1), (89, .if_icmp .ne 9, 3), (92, .aload_n 0, 1), (93, .iload_n 1, 1), (94, .invokevirtual 359, 3), (97, .ireturn, 1), (98, .iload_n 2, 1), (99, .bipush 6, 2), (101, .if_icmp .ne 11, 3), (104, .aload_n 0, 1), (105, .iload_n 1, 1), (106, .invokevirtual 334, 3), (109, .goto 33, 3), (112, .iload_n 2, 1), (113, .bipush 7, 2), (115, .if_icmp .ne 11, 3), (118, .aload_n 0, 1), (119, .iload_n 1, 1), (120, .invokevirtual 365, 3), (123, .goto 19, 3), (126, .iload_n 2, 1), (127, .bipush 8, 2), (129, .if_icmp .ne 12, 3), (132, .aload_n 0, 1), (133, .getfield 68, 3), (136, .iload_n 1, 1), (137, .iaload, 1), (138, .goto 4, 3), (141, .iconst (-1), 1), (142, .ireturn, 1)]
theorem ttX11_of : zdt cX11_of tX11_of = true := by decide +kernel
abbrev q_X11_of (h : zM) (p1 : Int) (p2 : Int) : Option zV → zM → Prop := zqi fun v h' => ((-2147483648) ≤ v ∧ v ≤ 2147483647) ∧ okM h' ∧ zfr [0] [20, 21] h h'
set_option maxRecDepth 100000 in
set_option maxHeartbeats 4000000 in
theorem s_X11_of (l : Launch) (h : zM) (p1 : Int) (p2 : Int) (s0 : okM h) (b_p1 : (-2147483648) ≤ p1 ∧ p1 ≤ 2147483647) (b_p2 : (-2147483648) ≤ p2 ∧ p2 ≤ 2147483647) : zT shM l yX11_of cX11_of 3 (some .int) (rmL 6) 0 0 [.inr 0, .inl p1, .inl p2] h (q_X11_of h p1 p2) := by
  refine zT_of (by decide +kernel) (L0 := [some (.inr 0), some (.inl p1), some (.inl p2)]) rfl (Nat.le_of_ble_eq_true rfl) ?_
  refine zj_aload_n (zdk ttX11_of 0 rfl rfl) rfl (by decide) ?_
  refine zj_iconst (zdk ttX11_of 1 rfl rfl) ?_
  refine zj_puti (zdk ttX11_of 2 rfl rfl) zf_RX11_120 rfl (k_M s0) (Or.inl zw_RX11_120) (k2 := 0) rfl (fun h1 e2 => ?_)
  refine zj_aload_n (zdk ttX11_of 3 rfl rfl) rfl (by decide) ?_
  refine zj_iload_n (zdk ttX11_of 4 rfl rfl) rfl ?_
  have s3 : okM h1 := fwM_0 s0 e2 (by omega)
  refine zj_callV (av := [.inl p1]) (st := []) (zdk ttX11_of 5 rfl rfl) mb_X11_isIslander mv_RX11_143 (ci := 11) rfl rfl (k_M s3) rfl rfl (Nat.le_of_ble_eq_true rfl) (s_X11_isIslander l h1 p1 s3 (by omega)) (rm_ok (by decide) (by decide)) (zq_i fun v5 h6 q4 => ?_)
  obtain ⟨rfl, b8, ⟨rfl, b7⟩ | ⟨rfl, b7⟩⟩ := q4
  · refine zj_if_ne (t := 15) (zdk ttX11_of 6 rfl rfl) (by decide) (by decide) (fun c9 => ?_) (fun c9 => ?_)
    · exact absurd c9 (by omega)
    · refine zj_iconst (zdk ttX11_of 7 rfl rfl) ?_
      have f10 : zfr [0] [20, 21] h h1 := zfr_wf (zfr_r _ _ _) e2 rfl
      exact zj_iret rfl (zdk ttX11_of 8 rfl rfl) (Nat.le_refl _) (Nat.le_refl _) ⟨(-1), rfl, by omega, s3, f10⟩
  · refine zj_if_ne (t := 15) (zdk ttX11_of 6 rfl rfl) (by decide) (by decide) (fun c11 => ?_) (fun c11 => ?_)
    · refine zj_iload_n (zdk ttX11_of 9 rfl rfl) rfl ?_
      refine zj_if_ne (t := 26) (zdk ttX11_of 10 rfl rfl) (by decide) (by omega) (fun c12 => ?_) (fun c12 => ?_)
      · refine zj_iload_n (zdk ttX11_of 16 rfl rfl) rfl ?_
        refine zj_iconst (zdk ttX11_of 17 rfl rfl) ?_
        refine zj_icmp_ne (t := 38) (zdk ttX11_of 18 rfl rfl) (by decide) (by omega) (by decide) (fun c13 => ?_) (fun c13 => ?_)
        · refine zj_iload_n (zdk ttX11_of 24 rfl rfl) rfl ?_
          refine zj_iconst (zdk ttX11_of 25 rfl rfl) ?_
          refine zj_icmp_ne (t := 57) (zdk ttX11_of 26 rfl rfl) (by decide) (by omega) (by decide) (fun c14 => ?_) (fun c14 => ?_)
          · refine zj_iload_n (zdk ttX11_of 35 rfl rfl) rfl ?_
            refine zj_iconst (zdk ttX11_of 36 rfl rfl) ?_
            refine zj_icmp_ne (t := 72) (zdk ttX11_of 37 rfl rfl) (by decide) (by omega) (by decide) (fun c15 => ?_) (fun c15 => ?_)
            · refine zj_iload_n (zdk ttX11_of 45 rfl rfl) rfl ?_
              refine zj_iconst (zdk ttX11_of 46 rfl rfl) ?_
              refine zj_icmp_ne (t := 87) (zdk ttX11_of 47 rfl rfl) (by decide) (by omega) (by decide) (fun c16 => ?_) (fun c16 => ?_)
              · refine zj_iload_n (zdk ttX11_of 55 rfl rfl) rfl ?_
                refine zj_iconst (zdk ttX11_of 56 rfl rfl) ?_
                refine zj_icmp_ne (t := 98) (zdk ttX11_of 57 rfl rfl) (by decide) (by omega) (by decide) (fun c17 => ?_) (fun c17 => ?_)
                · refine zj_iload_n (zdk ttX11_of 62 rfl rfl) rfl ?_
                  refine zj_bipush (zdk ttX11_of 63 rfl rfl) (by decide) ?_
                  refine zj_icmp_ne (t := 112) (zdk ttX11_of 64 rfl rfl) (by decide) (by omega) (by decide) (fun c18 => ?_) (fun c18 => ?_)
                  · refine zj_iload_n (zdk ttX11_of 69 rfl rfl) rfl ?_
                    refine zj_bipush (zdk ttX11_of 70 rfl rfl) (by decide) ?_
                    refine zj_icmp_ne (t := 126) (zdk ttX11_of 71 rfl rfl) (by decide) (by omega) (by decide) (fun c19 => ?_) (fun c19 => ?_)
                    · refine zj_iload_n (zdk ttX11_of 76 rfl rfl) rfl ?_
                      refine zj_bipush (zdk ttX11_of 77 rfl rfl) (by decide) ?_
                      refine zj_icmp_ne (t := 141) (zdk ttX11_of 78 rfl rfl) (by decide) (by omega) (by decide) (fun c20 => ?_) (fun c20 => ?_)
                      · refine zj_iconst (zdk ttX11_of 84 rfl rfl) ?_
                        have f21 : zfr [0] [20, 21] h h1 := zfr_wf (zfr_r _ _ _) e2 rfl
                        exact zj_iret rfl (zdk ttX11_of 85 rfl rfl) (Nat.le_refl _) (Nat.le_refl _) ⟨(-1), rfl, by omega, s3, f21⟩
                      · refine zj_aload_n (zdk ttX11_of 79 rfl rfl) rfl (by decide) ?_
                        refine zj_getr (r := 19) (zdk ttX11_of 80 rfl rfl) zf_RX11_68 rfl (k_M s3) (rfM_38 s3) ?_
                        refine zj_iload_n (zdk ttX11_of 81 rfl rfl) rfl ?_
                        have b22 : -2147483648 ≤ (h.2 19 p1) ∧ (h.2 19 p1) ≤ 2147483647 := abM_19 s0 p1
                        refine zj_iald (v := (h.2 19 p1)) (zdk ttX11_of 82 rfl rfl) (kaM_19 s3) (by decide) (by omega) (zwr_r e2 (by first | decide | exact (absurd ·.1 (by decide)) | exact (absurd ·.2 (by decide)) | omega)) ?_
                        refine zj_goto (t := 142) (zdk ttX11_of 83 rfl rfl) (by decide) ?_
                        have f23 : zfr [0] [20, 21] h h1 := zfr_wf (zfr_r _ _ _) e2 rfl
                        exact zj_iret rfl (zdk ttX11_of 85 rfl rfl) (Nat.le_refl _) (Nat.le_refl _) ⟨(h.2 19 p1), rfl, by omega, s3, f23⟩
                    · refine zj_aload_n (zdk ttX11_of 72 rfl rfl) rfl (by decide) ?_
                      refine zj_iload_n (zdk ttX11_of 73 rfl rfl) rfl ?_
                      refine zj_callV (av := [.inl p1]) (st := []) (zdk ttX11_of 74 rfl rfl) mb_X11_returnsOf mv_RX11_365 (ci := 11) rfl rfl (k_M s3) rfl rfl (Nat.le_of_ble_eq_true rfl) (s_X11_returnsOf l h1 p1 s3 (by omega)) (rm_ok (by decide) (by decide)) (zq_i fun v25 h26 q24 => ?_)
                      obtain ⟨b27, s28, f29⟩ := q24
                      refine zj_goto (t := 142) (zdk ttX11_of 75 rfl rfl) (by decide) ?_
                      have f31 : zfr [0] [20, 21] h h1 := zfr_wf (zfr_r _ _ _) e2 rfl
                      have f30 : zfr [0] [20, 21] h h26 := zfr_t f31 f29 rfl rfl
                      exact zj_iret rfl (zdk ttX11_of 85 rfl rfl) (Nat.le_refl _) (Nat.le_refl _) ⟨v25, rfl, by omega, s28, f30⟩
                  · refine zj_aload_n (zdk ttX11_of 65 rfl rfl) rfl (by decide) ?_
                    refine zj_iload_n (zdk ttX11_of 66 rfl rfl) rfl ?_
                    refine zj_callV (av := [.inl p1]) (st := []) (zdk ttX11_of 67 rfl rfl) mb_X11_windsOf mv_RX11_334 (ci := 11) rfl rfl (k_M s3) rfl rfl (Nat.le_of_ble_eq_true rfl) (s_X11_windsOf l h1 p1 s3 (by omega)) (rm_ok (by decide) (by decide)) (zq_i fun v33 h34 q32 => ?_)
                    obtain ⟨b35, s36, f37⟩ := q32
                    refine zj_goto (t := 142) (zdk ttX11_of 68 rfl rfl) (by decide) ?_
                    have f39 : zfr [0] [20, 21] h h1 := zfr_wf (zfr_r _ _ _) e2 rfl
                    have f38 : zfr [0] [20, 21] h h34 := zfr_t f39 f37 rfl rfl
                    exact zj_iret rfl (zdk ttX11_of 85 rfl rfl) (Nat.le_refl _) (Nat.le_refl _) ⟨v33, rfl, by omega, s36, f38⟩
                · refine zj_aload_n (zdk ttX11_of 58 rfl rfl) rfl (by decide) ?_
                  refine zj_iload_n (zdk ttX11_of 59 rfl rfl) rfl ?_
                  refine zj_callV (av := [.inl p1]) (st := []) (zdk ttX11_of 60 rfl rfl) mb_X11_leavesOf mv_RX11_359 (ci := 11) rfl rfl (k_M s3) rfl rfl (Nat.le_of_ble_eq_true rfl) (s_X11_leavesOf l h1 p1 s3 (by omega)) (rm_ok (by decide) (by decide)) (zq_i fun v41 h42 q40 => ?_)
                  obtain ⟨b43, s44, f45⟩ := q40
                  have f47 : zfr [0] [20, 21] h h1 := zfr_wf (zfr_r _ _ _) e2 rfl
                  have f46 : zfr [0] [20, 21] h h42 := zfr_t f47 f45 rfl rfl
                  exact zj_iret rfl (zdk ttX11_of 61 rfl rfl) (Nat.le_refl _) (Nat.le_refl _) ⟨v41, rfl, by omega, s44, f46⟩
              · refine zj_aload_n (zdk ttX11_of 48 rfl rfl) rfl (by decide) ?_
                refine zj_getr (r := 1) (zdk ttX11_of 49 rfl rfl) zf_RX11_7 rfl (k_M s3) (rfM_1 s3) ?_
                refine zj_bipush (zdk ttX11_of 50 rfl rfl) (by decide) ?_
                refine zj_iload_n (zdk ttX11_of 51 rfl rfl) rfl ?_
                refine zj_iadd (zdk ttX11_of 52 rfl rfl) ?_
                have b48 := (rM_b s0 1 (45 + p1) (by omega)).2
                have b49 : -2147483648 ≤ (h.2 1 (45 + p1)) ∧ (h.2 1 (45 + p1)) ≤ 2147483647 := (rM_b s0 1 (45 + p1) (by omega)).1
                refine zj_iald (v := (h.2 1 (45 + p1))) (zdk ttX11_of 53 rfl rfl) (kaM_1 s3) (by decide) (by omega) (zwr_r e2 (by first | decide | exact (absurd ·.1 (by decide)) | exact (absurd ·.2 (by decide)) | omega)) ?_
                have f50 : zfr [0] [20, 21] h h1 := zfr_wf (zfr_r _ _ _) e2 rfl
                exact zj_iret rfl (zdk ttX11_of 54 rfl rfl) (Nat.le_refl _) (Nat.le_refl _) ⟨(h.2 1 (45 + p1)), rfl, by omega, s3, f50⟩
            · refine zj_aload_n (zdk ttX11_of 38 rfl rfl) rfl (by decide) ?_
              refine zj_getr (r := 1) (zdk ttX11_of 39 rfl rfl) zf_RX11_7 rfl (k_M s3) (rfM_1 s3) ?_
              refine zj_bipush (zdk ttX11_of 40 rfl rfl) (by decide) ?_
              refine zj_iload_n (zdk ttX11_of 41 rfl rfl) rfl ?_
              refine zj_iadd (zdk ttX11_of 42 rfl rfl) ?_
              have b51 := (rM_b s0 1 (27 + p1) (by omega)).2
              have b52 : -2147483648 ≤ (h.2 1 (27 + p1)) ∧ (h.2 1 (27 + p1)) ≤ 2147483647 := (rM_b s0 1 (27 + p1) (by omega)).1
              refine zj_iald (v := (h.2 1 (27 + p1))) (zdk ttX11_of 43 rfl rfl) (kaM_1 s3) (by decide) (by omega) (zwr_r e2 (by first | decide | exact (absurd ·.1 (by decide)) | exact (absurd ·.2 (by decide)) | omega)) ?_
              have f53 : zfr [0] [20, 21] h h1 := zfr_wf (zfr_r _ _ _) e2 rfl
              exact zj_iret rfl (zdk ttX11_of 44 rfl rfl) (Nat.le_refl _) (Nat.le_refl _) ⟨(h.2 1 (27 + p1)), rfl, by omega, s3, f53⟩
          · refine zj_aload_n (zdk ttX11_of 27 rfl rfl) rfl (by decide) ?_
            refine zj_iload_n (zdk ttX11_of 28 rfl rfl) rfl ?_
            refine zj_callV (av := [.inl p1]) (st := []) (zdk ttX11_of 29 rfl rfl) mb_X11_isHere mv_RX11_135 (ci := 11) rfl rfl (k_M s3) rfl rfl (Nat.le_of_ble_eq_true rfl) (s_X11_isHere l h1 p1 s3 (by omega)) (rm_ok (by decide) (by decide)) (zq_i fun v55 h56 q54 => ?_)
            obtain ⟨rfl, ⟨rfl, b57⟩ | ⟨rfl, b57⟩⟩ := q54
            · refine zj_if_eq (t := 55) (zdk ttX11_of 30 rfl rfl) (by decide) (by decide) (fun c58 => ?_) (fun c58 => ?_)
              · refine zj_iconst (zdk ttX11_of 33 rfl rfl) ?_
                have f59 : zfr [0] [20, 21] h h1 := zfr_wf (zfr_r _ _ _) e2 rfl
                exact zj_iret rfl (zdk ttX11_of 34 rfl rfl) (Nat.le_refl _) (Nat.le_refl _) ⟨0, rfl, by omega, s3, f59⟩
              · exact absurd c58 (by omega)
            · refine zj_if_eq (t := 55) (zdk ttX11_of 30 rfl rfl) (by decide) (by decide) (fun c60 => ?_) (fun c60 => ?_)
              · exact absurd c60 (by omega)
              · refine zj_iconst (zdk ttX11_of 31 rfl rfl) ?_
                refine zj_goto (t := 56) (zdk ttX11_of 32 rfl rfl) (by decide) ?_
                have f61 : zfr [0] [20, 21] h h1 := zfr_wf (zfr_r _ _ _) e2 rfl
                exact zj_iret rfl (zdk ttX11_of 34 rfl rfl) (Nat.le_refl _) (Nat.le_refl _) ⟨1, rfl, by omega, s3, f61⟩
        · refine zj_aload_n (zdk ttX11_of 19 rfl rfl) rfl (by decide) ?_
          refine zj_getr (r := 5) (zdk ttX11_of 20 rfl rfl) zf_RX11_22 rfl (k_M s3) (rfM_8 s3) ?_
          refine zj_iload_n (zdk ttX11_of 21 rfl rfl) rfl ?_
          have b62 : -2147483648 ≤ (h.2 5 p1) ∧ (h.2 5 p1) ≤ 2147483647 := abM_5 s0 p1
          refine zj_iald (v := (h.2 5 p1)) (zdk ttX11_of 22 rfl rfl) (kaM_5 s3) (by decide) (by omega) (zwr_r e2 (by first | decide | exact (absurd ·.1 (by decide)) | exact (absurd ·.2 (by decide)) | omega)) ?_
          have f63 : zfr [0] [20, 21] h h1 := zfr_wf (zfr_r _ _ _) e2 rfl
          exact zj_iret rfl (zdk ttX11_of 23 rfl rfl) (Nat.le_refl _) (Nat.le_refl _) ⟨(h.2 5 p1), rfl, by omega, s3, f63⟩
      · refine zj_aload_n (zdk ttX11_of 11 rfl rfl) rfl (by decide) ?_
        refine zj_getr (r := 4) (zdk ttX11_of 12 rfl rfl) zf_RX11_19 rfl (k_M s3) (rfM_7 s3) ?_
        refine zj_iload_n (zdk ttX11_of 13 rfl rfl) rfl ?_
        have b64 : -2147483648 ≤ (h.2 4 p1) ∧ (h.2 4 p1) ≤ 2147483647 := abM_4 s0 p1
        refine zj_iald (v := (h.2 4 p1)) (zdk ttX11_of 14 rfl rfl) (kaM_4 s3) (by decide) (by omega) (zwr_r e2 (by first | decide | exact (absurd ·.1 (by decide)) | exact (absurd ·.2 (by decide)) | omega)) ?_
        have f65 : zfr [0] [20, 21] h h1 := zfr_wf (zfr_r _ _ _) e2 rfl
        exact zj_iret rfl (zdk ttX11_of 15 rfl rfl) (Nat.le_refl _) (Nat.le_refl _) ⟨(h.2 4 p1), rfl, by omega, s3, f65⟩
    · exact absurd c11 (by omega)
