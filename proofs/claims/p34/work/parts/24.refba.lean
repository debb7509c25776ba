def zru (h : zM) (a b k t : Int) (H : zM) : Prop := ∃ dp : Int → Int, dp k = t ∧ (∀ j, a ≤ j → j < b → 0 ≤ dp j ∧ wfC (h.2 14) (h.2 15) a j (dp j) (dp (j + 1))) ∧ (a < k → h.2 14 (k - 1) = 0 → H.2 21 (t - 1) = h.2 15 (k - 1))
theorem zru_0 {h : zM} {a b : Int} (w : wfS (h.2 14) (h.2 15) a b) (H : zM) : zru h a b a 0 H := by
  rcases w with w | ⟨w0, dp, w1, w2, w3⟩
  · exact ⟨fun _ => 0, rfl, fun j q1 q2 => absurd q1 (by omega), fun q => absurd q (by omega)⟩
  · exact ⟨dp, w1, w3, fun q => absurd q (by omega)⟩
theorem zru_s {h : zM} {a b k t : Int} {H : zM} (dp : Int → Int) (z2 : ∀ j, a ≤ j → j < b → 0 ≤ dp j ∧ wfC (h.2 14) (h.2 15) a j (dp j) (dp (j + 1))) (hd : dp (k + 1) = t) (hq : h.2 14 k = 0 → H.2 21 (t - 1) = h.2 15 k) : zru h a b (k + 1) t H :=
  ⟨dp, hd, z2, fun _ q => by rw [show k + 1 - 1 = k by omega] at q ⊢; exact hq q⟩
abbrev tX11_twoOf : List (Nat × Instr × Nat) := [(0, .iload_n 1, 1), (1, .iconst 2, 1), (2, .if_icmp .ne 7, 3), (5, .iload_n 2, 1), (6, .iload_n 3, 1), (7, .iadd, 1), (8, .ireturn, 1), (9, .iload_n 1, 1), (10, .iconst 3, 1), (11, .if_icmp .ne 7, 3), (14, .iload_n 2, 1), (15, .iload_n 3, 1), (16, .isub, 1), (17, .ireturn, 1), (18, .iload_n 1, 1), (19, .iconst 4, 1), (20, .if_icmp .ne 7, 3), (23, .iload_n 2, 1), (24, .iload_n 3, 1), (25, .imul, 1), (26, .ireturn, 1), (27, .iload_n 1, 1), (28, .iconst 5, 1), (29, .if_icmp .ne 7, 3), (32, .iload_n 2, 1), (33, .iload_n 3, 1), (34, .idiv, 1), (35, .ireturn, 1), (36, .iload_n 1, 1), (37, .bipush 6, 2), (39, .if_icmp .ne 14, 3), (42, .iload_n 2, 1), (43, .iload_n 3, 1), (44, .if_icmp .ge 7, 3), (47, .iconst 1, 1), (48, .goto 4, 3), (51, .iconst 0, 1), (52, .ireturn, 1), (53, .iload_n 1, 1), (54, .bipush 7, 2), (56, .if_icmp .ne 14, 3), (59, .iload_n 2, 1), (60, .iload_n 3, 1), (61, .if_icmp .ne 7, 3), (64, .iconst 1, 1), (65, .goto 4, 3), (68, .iconst 0, 1), (69, .ireturn, 1), (70, .iload_n 1, 1), (71, .bipush 8, 2), (73, .if_icmp .ne 14, 3), (76, .iload_n 2, 1), (77, .iload_n 3, 1), (78, .if_icmp .le 7, 3), (81, .iconst 1, 1), (82, .goto 4, 3), (85, .iconst 0, 1), (86, .ireturn, 1), (87, .iload_n 1, 1), (88, .bipush 10, 2), (90, .if_icmp .ne 9, 3), (93, .iload_n 2, 1), (94, .iload_n 3, 1), (95, .imul, 1), (96, .goto 14, 3), (99, .iload_n 2, 1), (100, .iload_n 3, 1), (101, .iadd, 1), (102, .ifCond .le 7, 3), (105, .iconst 1, 1), (106, .goto 4, 3), (109, .iconst 0, 1), (110, .ireturn, 1)]
theorem ttX11_twoOf : zdt cX11_twoOf tX11_twoOf = true := by decide +kernel
abbrev q_X11_twoOf (h : zM) (p1 : Int) (p2 : Int) (p3 : Int) : Option zV → zM → Prop := zqi fun v h' => h = h' ∧ ((-2147483648) ≤ v ∧ v ≤ 2147483647)
set_option maxRecDepth 100000 in
set_option maxHeartbeats 4000000 in
theorem s_X11_twoOf (l : Launch) (h : zM) (p1 : Int) (p2 : Int) (p3 : Int) (s0 : okM h) (b_p1 : (-2147483648) ≤ p1 ∧ p1 ≤ 2147483647) (b_p2 : (-2147483648) ≤ p2 ∧ p2 ≤ 2147483647) (b_p3 : (-2147483648) ≤ p3 ∧ p3 ≤ 2147483647) (u_0 : p1 = 5 → ¬ p3 = 0) : zT shM l yX11_twoOf cX11_twoOf 4 (some .int) (rmL 1) 0 0 [.inr 0, .inl p1, .inl p2, .inl p3] h (q_X11_twoOf h p1 p2 p3) := by
  refine zT_of (by decide +kernel) (L0 := [some (.inr 0), some (.inl p1), some (.inl p2), some (.inl p3)]) rfl (Nat.le_of_ble_eq_true rfl) ?_
  refine zj_iload_n (zdk ttX11_twoOf 0 rfl rfl) rfl ?_
  refine zj_iconst (zdk ttX11_twoOf 1 rfl rfl) ?_
  refine zj_icmp_ne (t := 9) (zdk ttX11_twoOf 2 rfl rfl) (by decide) (by omega) (by decide) (fun c1 => ?_) (fun c1 => ?_)
  · refine zj_iload_n (zdk ttX11_twoOf 7 rfl rfl) rfl ?_
    refine zj_iconst (zdk ttX11_twoOf 8 rfl rfl) ?_
    refine zj_icmp_ne (t := 18) (zdk ttX11_twoOf 9 rfl rfl) (by decide) (by omega) (by decide) (fun c2 => ?_) (fun c2 => ?_)
    · refine zj_iload_n (zdk ttX11_twoOf 14 rfl rfl) rfl ?_
      refine zj_iconst (zdk ttX11_twoOf 15 rfl rfl) ?_
      refine zj_icmp_ne (t := 27) (zdk ttX11_twoOf 16 rfl rfl) (by decide) (by omega) (by decide) (fun c3 => ?_) (fun c3 => ?_)
      · refine zj_iload_n (zdk ttX11_twoOf 21 rfl rfl) rfl ?_
        refine zj_iconst (zdk ttX11_twoOf 22 rfl rfl) ?_
        refine zj_icmp_ne (t := 36) (zdk ttX11_twoOf 23 rfl rfl) (by decide) (by omega) (by decide) (fun c4 => ?_) (fun c4 => ?_)
        · refine zj_iload_n (zdk ttX11_twoOf 28 rfl rfl) rfl ?_
          refine zj_bipush (zdk ttX11_twoOf 29 rfl rfl) (by decide) ?_
          refine zj_icmp_ne (t := 53) (zdk ttX11_twoOf 30 rfl rfl) (by decide) (by omega) (by decide) (fun c5 => ?_) (fun c5 => ?_)
          · refine zj_iload_n (zdk ttX11_twoOf 38 rfl rfl) rfl ?_
            refine zj_bipush (zdk ttX11_twoOf 39 rfl rfl) (by decide) ?_
            refine zj_icmp_ne (t := 70) (zdk ttX11_twoOf 40 rfl rfl) (by decide) (by omega) (by decide) (fun c6 => ?_) (fun c6 => ?_)
            · refine zj_iload_n (zdk ttX11_twoOf 48 rfl rfl) rfl ?_
              refine zj_bipush (zdk ttX11_twoOf 49 rfl rfl) (by decide) ?_
              refine zj_icmp_ne (t := 87) (zdk ttX11_twoOf 50 rfl rfl) (by decide) (by omega) (by decide) (fun c7 => ?_) (fun c7 => ?_)
              · refine zj_iload_n (zdk ttX11_twoOf 58 rfl rfl) rfl ?_
                refine zj_bipush (zdk ttX11_twoOf 59 rfl rfl) (by decide) ?_
                refine zj_icmp_ne (t := 99) (zdk ttX11_twoOf 60 rfl rfl) (by decide) (by omega) (by decide) (fun c8 => ?_) (fun c8 => ?_)
                · refine zj_iload_n (zdk ttX11_twoOf 65 rfl rfl) rfl ?_
                  refine zj_iload_n (zdk ttX11_twoOf 66 rfl rfl) rfl ?_
                  refine zj_iadd (zdk ttX11_twoOf 67 rfl rfl) ?_
                  refine zj_wrap ?_
                  have b9 := zwp_in (p2 + p3)
                  refine zj_if_le (t := 109) (zdk ttX11_twoOf 68 rfl rfl) (by decide) (by omega) (fun c10 => ?_) (fun c10 => ?_)
                  · refine zj_iconst (zdk ttX11_twoOf 71 rfl rfl) ?_
                    exact zj_iret rfl (zdk ttX11_twoOf 72 rfl rfl) (Nat.le_refl _) (Nat.le_refl _) ⟨0, rfl, rfl, by omega⟩
                  · refine zj_iconst (zdk ttX11_twoOf 69 rfl rfl) ?_
                    refine zj_goto (t := 110) (zdk ttX11_twoOf 70 rfl rfl) (by decide) ?_
                    exact zj_iret rfl (zdk ttX11_twoOf 72 rfl rfl) (Nat.le_refl _) (Nat.le_refl _) ⟨1, rfl, rfl, by omega⟩
                · refine zj_iload_n (zdk ttX11_twoOf 61 rfl rfl) rfl ?_
                  refine zj_iload_n (zdk ttX11_twoOf 62 rfl rfl) rfl ?_
                  refine zj_imul (zdk ttX11_twoOf 63 rfl rfl) ?_
                  refine zj_wrap ?_
                  have b11 := zwp_in (p2 * p3)
                  refine zj_goto (t := 110) (zdk ttX11_twoOf 64 rfl rfl) (by decide) ?_
                  exact zj_iret rfl (zdk ttX11_twoOf 72 rfl rfl) (Nat.le_refl _) (Nat.le_refl _) ⟨(zwp (p2 * p3)), rfl, rfl, by omega⟩
              · refine zj_iload_n (zdk ttX11_twoOf 51 rfl rfl) rfl ?_
                refine zj_iload_n (zdk ttX11_twoOf 52 rfl rfl) rfl ?_
                refine zj_icmp_le (t := 85) (zdk ttX11_twoOf 53 rfl rfl) (by decide) (by omega) (by omega) (fun c12 => ?_) (fun c12 => ?_)
                · refine zj_iconst (zdk ttX11_twoOf 56 rfl rfl) ?_
                  exact zj_iret rfl (zdk ttX11_twoOf 57 rfl rfl) (Nat.le_refl _) (Nat.le_refl _) ⟨0, rfl, rfl, by omega⟩
                · refine zj_iconst (zdk ttX11_twoOf 54 rfl rfl) ?_
                  refine zj_goto (t := 86) (zdk ttX11_twoOf 55 rfl rfl) (by decide) ?_
                  exact zj_iret rfl (zdk ttX11_twoOf 57 rfl rfl) (Nat.le_refl _) (Nat.le_refl _) ⟨1, rfl, rfl, by omega⟩
            · refine zj_iload_n (zdk ttX11_twoOf 41 rfl rfl) rfl ?_
              refine zj_iload_n (zdk ttX11_twoOf 42 rfl rfl) rfl ?_
              refine zj_icmp_ne (t := 68) (zdk ttX11_twoOf 43 rfl rfl) (by decide) (by omega) (by omega) (fun c13 => ?_) (fun c13 => ?_)
              · refine zj_iconst (zdk ttX11_twoOf 46 rfl rfl) ?_
                exact zj_iret rfl (zdk ttX11_twoOf 47 rfl rfl) (Nat.le_refl _) (Nat.le_refl _) ⟨0, rfl, rfl, by omega⟩
              · refine zj_iconst (zdk ttX11_twoOf 44 rfl rfl) ?_
                refine zj_goto (t := 69) (zdk ttX11_twoOf 45 rfl rfl) (by decide) ?_
                exact zj_iret rfl (zdk ttX11_twoOf 47 rfl rfl) (Nat.le_refl _) (Nat.le_refl _) ⟨1, rfl, rfl, by omega⟩
          · refine zj_iload_n (zdk ttX11_twoOf 31 rfl rfl) rfl ?_
            refine zj_iload_n (zdk ttX11_twoOf 32 rfl rfl) rfl ?_
            refine zj_icmp_ge (t := 51) (zdk ttX11_twoOf 33 rfl rfl) (by decide) (by omega) (by omega) (fun c14 => ?_) (fun c14 => ?_)
            · refine zj_iconst (zdk ttX11_twoOf 36 rfl rfl) ?_
              exact zj_iret rfl (zdk ttX11_twoOf 37 rfl rfl) (Nat.le_refl _) (Nat.le_refl _) ⟨0, rfl, rfl, by omega⟩
            · refine zj_iconst (zdk ttX11_twoOf 34 rfl rfl) ?_
              refine zj_goto (t := 52) (zdk ttX11_twoOf 35 rfl rfl) (by decide) ?_
              exact zj_iret rfl (zdk ttX11_twoOf 37 rfl rfl) (Nat.le_refl _) (Nat.le_refl _) ⟨1, rfl, rfl, by omega⟩
        · refine zj_iload_n (zdk ttX11_twoOf 24 rfl rfl) rfl ?_
          refine zj_iload_n (zdk ttX11_twoOf 25 rfl rfl) rfl ?_
          refine zj_idiv (zdk ttX11_twoOf 26 rfl rfl) (by omega) (by omega) (by omega) ?_
          have b15 := ztd_b p2 p3
          refine zj_wrap ?_
          have b16 := zwp_in (p2.tdiv p3)
          exact zj_iret rfl (zdk ttX11_twoOf 27 rfl rfl) (Nat.le_refl _) (Nat.le_refl _) ⟨(zwp (p2.tdiv p3)), rfl, rfl, by omega⟩
      · refine zj_iload_n (zdk ttX11_twoOf 17 rfl rfl) rfl ?_
        refine zj_iload_n (zdk ttX11_twoOf 18 rfl rfl) rfl ?_
        refine zj_imul (zdk ttX11_twoOf 19 rfl rfl) ?_
        refine zj_wrap ?_
        have b17 := zwp_in (p2 * p3)
        exact zj_iret rfl (zdk ttX11_twoOf 20 rfl rfl) (Nat.le_refl _) (Nat.le_refl _) ⟨(zwp (p2 * p3)), rfl, rfl, by omega⟩
    · refine zj_iload_n (zdk ttX11_twoOf 10 rfl rfl) rfl ?_
      refine zj_iload_n (zdk ttX11_twoOf 11 rfl rfl) rfl ?_
      refine zj_isub (zdk ttX11_twoOf 12 rfl rfl) ?_
      refine zj_wrap ?_
      have b18 := zwp_in (p2 - p3)
      exact zj_iret rfl (zdk ttX11_twoOf 13 rfl rfl) (Nat.le_refl _) (Nat.le_refl _) ⟨(zwp (p2 - p3)), rfl, rfl, by omega⟩
  · refine zj_iload_n (zdk ttX11_twoOf 3 rfl rfl) rfl ?_
    refine zj_iload_n (zdk ttX11_twoOf 4 rfl rfl) rfl ?_
    refine zj_iadd (zdk ttX11_twoOf 5 rfl rfl) ?_
    refine zj_wrap ?_
    have b19 := zwp_in (p2 + p3)
    exact zj_iret rfl (zdk ttX11_twoOf 6 rfl rfl) (Nat.le_refl _) (Nat.le_refl _) ⟨(zwp (p2 + p3)), rfl, rfl, by omega⟩

abbrev tX11_runs : List (Nat × Instr × Nat) := [(0, .iconst 0, 1), (1, .istore 4, 2), (3, .sipush 400, 3), (6, .iload_n 1, 1), (7, .imul, 1), (8, .iload_n 2, 1), (9, .iadd, 1), (10, .istore 5, 2), (12, .iload 5, 2), (14, .sipush 400, 3), (17, .iload_n 1, 1), (18, .imul, 1), (19, .iload_n 3, 1), (20, .iadd, 1), (21, .if_icmp .ge 155, 3), (24, .aload_n 0, 1), (25, .getfield 49, 3), (28, .iload 5, 2), (30, .iaload, 1), (31, .ifCond .eq 14, 3), (34, .aload_n 0, 1), (35, .getfield 49, 3), (38, .iload 5, 2), (40, .iaload, 1), (41, .iconst 1, 1), (42, .if_icmp .ne 51, 3), (45, .aload_n 0, 1), (46, .getfield 74, 3), (49, .iload 4, 2), (51, .aload_n 0, 1), (52, .getfield 49, 3), (55, .iload 5, 2), (57, .iaload, 1), (58, .ifCond .ne 13, 3), (61, .aload_n 0, 1), (62, .getfield 52, 3), (65, .iload 5, 2), (67, .iaload, 1), (68, .goto 15, 3), (71, .aload_n 0, 1), (72, .getfield 71, 3), (75, .aload_n 0, 1), (76, .getfield 52, 3), (79, .iload 5, 2), (81, .iaload, 1), (82, .iaload, 1), (83, .iastore, 1), (84, .iload 4, 2), (86, .iconst 1, 1), (87, .iadd, 1), (88, .istore 4, 2), (90, .goto 80, 3), (93, .aload_n 0, 1), (94, .getfield 49, 3), (97, .iload 5, 2), (99, .iaload, 1), (100, .bipush 9, 2), (102, .if_icmp .ne 26, 3), (105, .aload_n 0, 1), (106, .getfield 74, 3), (109, .iload 4, 2), (111, .iconst 1, 1), (112, .isub, 1), (113, .iconst 1, 1), (114, .aload_n 0, 1), (115, .getfield 74, 3), (118, .iload 4, 2), (120, .iconst 1, 1), (121, .isub, 1), (122, .iaload, 1), (123, .isub, 1), (124, .iastore, 1), (125, .goto 45, 3), (128, .iload 4, 2), (130, .iconst 1, 1), (131, .isub, 1), (132, .istore 4, 2), (134, .aload_n 0, 1), (135, .getfield 74, 3), (138, .iload 4, 2), (140, .iconst 1, 1), (141, .isub, 1), (142, .aload_n 0, 1), (143, .aload_n 0, 1), (144, .getfield 49, 3), (147, .iload 5, 2), (149, .iaload, 1), (150, .aload_n 0, 1), (151, .getfield 74, 3), (154, .iload 4, 2), (156, .iconst 1, 1), (157, .isub, 1), (158, .iaload, 1), (159, .aload_n 0, 1), (160, .getfield 74, 3), (163, .iload 4, 2), (165, .iaload, 1), (166, .invokevirtual 303, 3), (169, .iastore, 1), (170, .iinc 5 1, 3), (173, .goto (-161), 3), (176, .aload_n 0, 1), (177, .getfield 74, 3), (180, .iconst 0, 1), (181, .iaload, 1), (182, .ireturn, 1)]
theorem ttX11_runs : zdt cX11_runs tX11_runs = true := by decide +kernel
abbrev q_X11_runs (h : zM) (p1 : Int) (p2 : Int) (p3 : Int) : Option zV → zM → Prop := zqi fun v h' => ((-2147483648) ≤ v ∧ v ≤ 2147483647) ∧ okM h' ∧ zfr [] [21] h h'
set_option maxRecDepth 100000 in
set_option maxHeartbeats 4000000 in
theorem s_X11_runs (l : Launch) (h : zM) (p1 : Int) (p2 : Int) (p3 : Int) (s0 : okM h) (b_p1 : 0 ≤ p1 ∧ p1 ≤ 0) (b_p2 : 0 ≤ p2 ∧ p2 ≤ 400) (b_p3 : 0 ≤ p3 ∧ p3 ≤ 400) (u_0 : wfS (h.2 14) (h.2 15) p2 p3) : zT shM l yX11_runs cX11_runs 6 (some .int) (rmL 2) 0 0 [.inr 0, .inl p1, .inl p2, .inl p3] h (q_X11_runs h p1 p2 p3) := by
  refine zT_of (by decide +kernel) (L0 := [some (.inr 0), some (.inl p1), some (.inl p2), some (.inl p3), none, none]) rfl (Nat.le_of_ble_eq_true rfl) ?_
  refine zj_iconst (zdk ttX11_runs 0 rfl rfl) ?_
  refine zj_istore (L' := [some (.inr 0), some (.inl p1), some (.inl p2), some (.inl p3), some (.inl 0), none]) (zdk ttX11_runs 1 rfl rfl) (by decide) rfl ?_
  refine zj_sipush (zdk ttX11_runs 2 rfl rfl) (by decide) ?_
  refine zj_iload_n (zdk ttX11_runs 3 rfl rfl) rfl ?_
  refine zj_imul (zdk ttX11_runs 4 rfl rfl) ?_
  refine zj_iload_n (zdk ttX11_runs 5 rfl rfl) rfl ?_
  refine zj_iadd (zdk ttX11_runs 6 rfl rfl) ?_
  refine zj_istore (L' := [some (.inr 0), some (.inl p1), some (.inl p2), some (.inl p3), some (.inl 0), some (.inl ((400 * p1) + p2))]) (zdk ttX11_runs 7 rfl rfl) (by decide) rfl ?_
  have lp33 : ∀ (n12 : Nat) (x1 x2 : Int) (h3 : zM), (0 ≤ x1 ∧ x1 ≤ 400) → (0 ≤ x2 ∧ x2 ≤ 400) → okM h3 → zfr [] [21] h h3 → (zru h p2 p3 x2 x1 h3) → (p2 ≤ x2 ∧ x1 ≤ x2 - p2) → (401 - x2).toNat < n12 → zJ shM l yX11_runs cX11_runs 6 (some .int) (rmL 2) 0 0 (q_X11_runs h p1 p2 p3) 0 0 12 [some (.inr 0), some (.inl p1), some (.inl p2), some (.inl p3), some (.inl x1), some (.inl x2)] [] h3 := by
    intro n12
    induction n12 with
    | zero => intro x1 x2 h3 b34 b35 s4 f5 u36 u37 m38; exact absurd m38 (Nat.not_lt_zero _)
    | succ n12 ih39 =>
      intro x1 x2 h3 b34 b35 s4 f5 u36 u37 m38
      refine zj_iload (zdk ttX11_runs 8 rfl rfl) rfl ?_
      refine zj_sipush (zdk ttX11_runs 9 rfl rfl) (by decide) ?_
      refine zj_iload_n (zdk ttX11_runs 10 rfl rfl) rfl ?_
      refine zj_imul (zdk ttX11_runs 11 rfl rfl) ?_
      refine zj_iload_n (zdk ttX11_runs 12 rfl rfl) rfl ?_
      refine zj_iadd (zdk ttX11_runs 13 rfl rfl) ?_
      refine zj_icmp_ge (t := 176) (zdk ttX11_runs 14 rfl rfl) (by decide) (by omega) (by omega) (fun c40 => ?_) (fun c40 => ?_)
      · refine zj_aload_n (zdk ttX11_runs 101 rfl rfl) rfl (by decide) ?_
        refine zj_getr (r := 21) (zdk ttX11_runs 102 rfl rfl) zf_RX11_74 rfl (k_M s4) (rfM_40 s4) ?_
        refine zj_iconst (zdk ttX11_runs 103 rfl rfl) ?_
        have b41 : -2147483648 ≤ (h3.2 21 0) ∧ (h3.2 21 0) ≤ 2147483647 := abM_21 s4 0
        refine zj_iald (v := (h3.2 21 0)) (zdk ttX11_runs 104 rfl rfl) (kaM_21 s4) (by decide) (by omega) rfl ?_
        exact zj_iret rfl (zdk ttX11_runs 105 rfl rfl) (Nat.le_refl _) (Nat.le_refl _) ⟨(h3.2 21 0), rfl, by omega, s4, f5⟩
      · obtain ⟨dp, z1, z2, z3⟩ := u36
        have z4 := z2 x2 (by omega) (by omega)
        unfold wfC at z4
        refine zj_aload_n (zdk ttX11_runs 15 rfl rfl) rfl (by decide) ?_
        refine zj_getr (r := 14) (zdk ttX11_runs 16 rfl rfl) zf_RX11_49 rfl (k_M s4) (rfM_22 s4) ?_
        refine zj_iload (zdk ttX11_runs 17 rfl rfl) rfl ?_
        have b43 : -2147483648 ≤ (h.2 14 x2) ∧ (h.2 14 x2) ≤ 2147483647 := abM_14 s0 x2
        refine zj_iald (v := (h.2 14 x2)) (zdk ttX11_runs 18 rfl rfl) (kaM_14 s4) (by decide) (by omega) (zfr_a f5 rfl (by decide)) ?_
        refine zj_if_eq (t := 45) (zdk ttX11_runs 19 rfl rfl) (by decide) (by omega) (fun c44 => ?_) (fun c44 => ?_)
        · refine zj_aload_n (zdk ttX11_runs 26 rfl rfl) rfl (by decide) ?_
          refine zj_getr (r := 21) (zdk ttX11_runs 27 rfl rfl) zf_RX11_74 rfl (k_M s4) (rfM_40 s4) ?_
          refine zj_iload (zdk ttX11_runs 28 rfl rfl) rfl ?_
          refine zj_aload_n (zdk ttX11_runs 29 rfl rfl) rfl (by decide) ?_
          refine zj_getr (r := 14) (zdk ttX11_runs 30 rfl rfl) zf_RX11_49 rfl (k_M s4) (rfM_22 s4) ?_
          refine zj_iload (zdk ttX11_runs 31 rfl rfl) rfl ?_
          refine zj_iald (v := (h.2 14 x2)) (zdk ttX11_runs 32 rfl rfl) (kaM_14 s4) (by decide) (by omega) (zfr_a f5 rfl (by decide)) ?_
          refine zj_if_ne (t := 71) (zdk ttX11_runs 33 rfl rfl) (by decide) (by omega) (fun c45 => ?_) (fun c45 => ?_)
          · exact absurd c45 (by omega)
          · refine zj_aload_n (zdk ttX11_runs 34 rfl rfl) rfl (by decide) ?_
            refine zj_getr (r := 15) (zdk ttX11_runs 35 rfl rfl) zf_RX11_52 rfl (k_M s4) (rfM_23 s4) ?_
            refine zj_iload (zdk ttX11_runs 36 rfl rfl) rfl ?_
            have b46 : -2147483648 ≤ (h.2 15 x2) ∧ (h.2 15 x2) ≤ 2147483647 := abM_15 s0 x2
            refine zj_iald (v := (h.2 15 x2)) (zdk ttX11_runs 37 rfl rfl) (kaM_15 s4) (by decide) (by omega) (zfr_a f5 rfl (by decide)) ?_
            refine zj_goto (t := 83) (zdk ttX11_runs 38 rfl rfl) (by decide) ?_
            refine zj_iast (zdk ttX11_runs 46 rfl rfl) (kaM_21 s4) (by decide) (by omega) (fun h47 e48 => ?_)
            refine zj_iload (zdk ttX11_runs 47 rfl rfl) rfl ?_
            refine zj_iconst (zdk ttX11_runs 48 rfl rfl) ?_
            refine zj_iadd (zdk ttX11_runs 49 rfl rfl) ?_
            refine zj_istore (L' := [some (.inr 0), some (.inl p1), some (.inl p2), some (.inl p3), some (.inl (x1 + 1)), some (.inl x2)]) (zdk ttX11_runs 50 rfl rfl) (by decide) rfl ?_
            refine zj_goto (t := 170) (zdk ttX11_runs 51 rfl rfl) (by decide) ?_
            refine zj_iinc (L' := [some (.inr 0), some (.inl p1), some (.inl p2), some (.inl p3), some (.inl (x1 + 1)), some (.inl (x2 + 1))]) (zdk ttX11_runs 99 rfl rfl) rfl (by decide) rfl ?_
            refine zj_goto (t := 12) (zdk ttX11_runs 100 rfl rfl) (by decide) ?_
            have s49 : okM h47 := awM_21 s4 e48 (by omega) (by unfold nsp; omega)
            have f50 : zfr [] [21] h h47 := zfr_wa f5 e48 rfl
            have b51 : h47.2 21 x1 = (h.2 15 x2) := zwr_v e48
            exact ih39  (x1 + 1) (x2 + 1) h47 (by omega) (by omega) s49 f50 (zru_s dp z2 (by omega) (fun q => by first | omega | (rw [show (x1 + 1) - 1 = x1 by omega]; omega))) (by omega) (by omega)
        · refine zj_aload_n (zdk ttX11_runs 20 rfl rfl) rfl (by decide) ?_
          refine zj_getr (r := 14) (zdk ttX11_runs 21 rfl rfl) zf_RX11_49 rfl (k_M s4) (rfM_22 s4) ?_
          refine zj_iload (zdk ttX11_runs 22 rfl rfl) rfl ?_
          refine zj_iald (v := (h.2 14 x2)) (zdk ttX11_runs 23 rfl rfl) (kaM_14 s4) (by decide) (by omega) (zfr_a f5 rfl (by decide)) ?_
          refine zj_iconst (zdk ttX11_runs 24 rfl rfl) ?_
          refine zj_icmp_ne (t := 93) (zdk ttX11_runs 25 rfl rfl) (by decide) (by omega) (by decide) (fun c52 => ?_) (fun c52 => ?_)
          · refine zj_aload_n (zdk ttX11_runs 52 rfl rfl) rfl (by decide) ?_
            refine zj_getr (r := 14) (zdk ttX11_runs 53 rfl rfl) zf_RX11_49 rfl (k_M s4) (rfM_22 s4) ?_
            refine zj_iload (zdk ttX11_runs 54 rfl rfl) rfl ?_
            refine zj_iald (v := (h.2 14 x2)) (zdk ttX11_runs 55 rfl rfl) (kaM_14 s4) (by decide) (by omega) (zfr_a f5 rfl (by decide)) ?_
            refine zj_bipush (zdk ttX11_runs 56 rfl rfl) (by decide) ?_
            refine zj_icmp_ne (t := 128) (zdk ttX11_runs 57 rfl rfl) (by decide) (by omega) (by decide) (fun c53 => ?_) (fun c53 => ?_)
            · refine zj_iload (zdk ttX11_runs 73 rfl rfl) rfl ?_
              refine zj_iconst (zdk ttX11_runs 74 rfl rfl) ?_
              refine zj_isub (zdk ttX11_runs 75 rfl rfl) ?_
              refine zj_istore (L' := [some (.inr 0), some (.inl p1), some (.inl p2), some (.inl p3), some (.inl (x1 - 1)), some (.inl x2)]) (zdk ttX11_runs 76 rfl rfl) (by decide) rfl ?_
              refine zj_aload_n (zdk ttX11_runs 77 rfl rfl) rfl (by decide) ?_
              refine zj_getr (r := 21) (zdk ttX11_runs 78 rfl rfl) zf_RX11_74 rfl (k_M s4) (rfM_40 s4) ?_
              refine zj_iload (zdk ttX11_runs 79 rfl rfl) rfl ?_
              refine zj_iconst (zdk ttX11_runs 80 rfl rfl) ?_
              refine zj_isub (zdk ttX11_runs 81 rfl rfl) ?_
              refine zj_aload_n (zdk ttX11_runs 82 rfl rfl) rfl (by decide) ?_
              refine zj_aload_n (zdk ttX11_runs 83 rfl rfl) rfl (by decide) ?_
              refine zj_getr (r := 14) (zdk ttX11_runs 84 rfl rfl) zf_RX11_49 rfl (k_M s4) (rfM_22 s4) ?_
              refine zj_iload (zdk ttX11_runs 85 rfl rfl) rfl ?_
              refine zj_iald (v := (h.2 14 x2)) (zdk ttX11_runs 86 rfl rfl) (kaM_14 s4) (by decide) (by omega) (zfr_a f5 rfl (by decide)) ?_
              refine zj_aload_n (zdk ttX11_runs 87 rfl rfl) rfl (by decide) ?_
              refine zj_getr (r := 21) (zdk ttX11_runs 88 rfl rfl) zf_RX11_74 rfl (k_M s4) (rfM_40 s4) ?_
              refine zj_iload (zdk ttX11_runs 89 rfl rfl) rfl ?_
              refine zj_iconst (zdk ttX11_runs 90 rfl rfl) ?_
              refine zj_isub (zdk ttX11_runs 91 rfl rfl) ?_
              have b54 : -2147483648 ≤ (h3.2 21 ((x1 - 1) - 1)) ∧ (h3.2 21 ((x1 - 1) - 1)) ≤ 2147483647 := abM_21 s4 ((x1 - 1) - 1)
              refine zj_iald (v := (h3.2 21 ((x1 - 1) - 1))) (zdk ttX11_runs 92 rfl rfl) (kaM_21 s4) (by decide) (by omega) rfl ?_
              refine zj_aload_n (zdk ttX11_runs 93 rfl rfl) rfl (by decide) ?_
              refine zj_getr (r := 21) (zdk ttX11_runs 94 rfl rfl) zf_RX11_74 rfl (k_M s4) (rfM_40 s4) ?_
              refine zj_iload (zdk ttX11_runs 95 rfl rfl) rfl ?_
              have b55 : -2147483648 ≤ (h3.2 21 (x1 - 1)) ∧ (h3.2 21 (x1 - 1)) ≤ 2147483647 := abM_21 s4 (x1 - 1)
              refine zj_iald (v := (h3.2 21 (x1 - 1))) (zdk ttX11_runs 96 rfl rfl) (kaM_21 s4) (by decide) (by omega) rfl ?_
              refine zj_callV (av := [.inl (h.2 14 x2), .inl (h3.2 21 ((x1 - 1) - 1)), .inl (h3.2 21 (x1 - 1))]) (st := [.inl ((x1 - 1) - 1), .inr 21]) (zdk ttX11_runs 97 rfl rfl) mb_X11_twoOf mv_RX11_303 (ci := 11) rfl rfl (k_M s4) rfl rfl (Nat.le_of_ble_eq_true rfl) (s_X11_twoOf l h3 (h.2 14 x2) (h3.2 21 ((x1 - 1) - 1)) (h3.2 21 (x1 - 1)) s4 (by omega) (by omega) (by omega) (by omega)) (rm_ok (by decide) (by decide)) (zq_i fun v57 h58 q56 => ?_)
              obtain ⟨rfl, b59⟩ := q56
              refine zj_iast (zdk ttX11_runs 98 rfl rfl) (kaM_21 s4) (by decide) (by omega) (fun h60 e61 => ?_)
              refine zj_iinc (L' := [some (.inr 0), some (.inl p1), some (.inl p2), some (.inl p3), some (.inl (x1 - 1)), some (.inl (x2 + 1))]) (zdk ttX11_runs 99 rfl rfl) rfl (by decide) rfl ?_
              refine zj_goto (t := 12) (zdk ttX11_runs 100 rfl rfl) (by decide) ?_
              have s62 : okM h60 := awM_21 s4 e61 (by omega) (by unfold nsp; omega)
              have f63 : zfr [] [21] h h60 := zfr_wa f5 e61 rfl
              have b64 : h60.2 21 ((x1 - 1) - 1) = v57 := zwr_v e61
              exact ih39  (x1 - 1) (x2 + 1) h60 (by omega) (by omega) s62 f63 (zru_s dp z2 (by omega) (fun q => by first | omega | (rw [show (x1 - 1) - 1 = ((x1 - 1) - 1) by omega]; omega))) (by omega) (by omega)
            · refine zj_aload_n (zdk ttX11_runs 58 rfl rfl) rfl (by decide) ?_
              refine zj_getr (r := 21) (zdk ttX11_runs 59 rfl rfl) zf_RX11_74 rfl (k_M s4) (rfM_40 s4) ?_
              refine zj_iload (zdk ttX11_runs 60 rfl rfl) rfl ?_
              refine zj_iconst (zdk ttX11_runs 61 rfl rfl) ?_
              refine zj_isub (zdk ttX11_runs 62 rfl rfl) ?_
              refine zj_iconst (zdk ttX11_runs 63 rfl rfl) ?_
              refine zj_aload_n (zdk ttX11_runs 64 rfl rfl) rfl (by decide) ?_
              refine zj_getr (r := 21) (zdk ttX11_runs 65 rfl rfl) zf_RX11_74 rfl (k_M s4) (rfM_40 s4) ?_
              refine zj_iload (zdk ttX11_runs 66 rfl rfl) rfl ?_
              refine zj_iconst (zdk ttX11_runs 67 rfl rfl) ?_
              refine zj_isub (zdk ttX11_runs 68 rfl rfl) ?_
              have b65 : -2147483648 ≤ (h3.2 21 (x1 - 1)) ∧ (h3.2 21 (x1 - 1)) ≤ 2147483647 := abM_21 s4 (x1 - 1)
              refine zj_iald (v := (h3.2 21 (x1 - 1))) (zdk ttX11_runs 69 rfl rfl) (kaM_21 s4) (by decide) (by omega) rfl ?_
              refine zj_isub (zdk ttX11_runs 70 rfl rfl) ?_
              refine zj_wrap ?_
              have b66 := zwp_in (1 - (h3.2 21 (x1 - 1)))
              refine zj_iast (zdk ttX11_runs 71 rfl rfl) (kaM_21 s4) (by decide) (by omega) (fun h67 e68 => ?_)
              refine zj_goto (t := 170) (zdk ttX11_runs 72 rfl rfl) (by decide) ?_
              refine zj_iinc (L' := [some (.inr 0), some (.inl p1), some (.inl p2), some (.inl p3), some (.inl x1), some (.inl (x2 + 1))]) (zdk ttX11_runs 99 rfl rfl) rfl (by decide) rfl ?_
              refine zj_goto (t := 12) (zdk ttX11_runs 100 rfl rfl) (by decide) ?_
              have s69 : okM h67 := awM_21 s4 e68 (by omega) (by unfold nsp; omega)
              have f70 : zfr [] [21] h h67 := zfr_wa f5 e68 rfl
              have b71 : h67.2 21 (x1 - 1) = (zwp (1 - (h3.2 21 (x1 - 1)))) := zwr_v e68
              exact ih39  x1 (x2 + 1) h67 (by omega) (by omega) s69 f70 (zru_s dp z2 (by omega) (fun q => by first | omega | (rw [show x1 - 1 = (x1 - 1) by omega]; omega))) (by omega) (by omega)
          · refine zj_aload_n (zdk ttX11_runs 26 rfl rfl) rfl (by decide) ?_
            refine zj_getr (r := 21) (zdk ttX11_runs 27 rfl rfl) zf_RX11_74 rfl (k_M s4) (rfM_40 s4) ?_
            refine zj_iload (zdk ttX11_runs 28 rfl rfl) rfl ?_
            refine zj_aload_n (zdk ttX11_runs 29 rfl rfl) rfl (by decide) ?_
            refine zj_getr (r := 14) (zdk ttX11_runs 30 rfl rfl) zf_RX11_49 rfl (k_M s4) (rfM_22 s4) ?_
            refine zj_iload (zdk ttX11_runs 31 rfl rfl) rfl ?_
            refine zj_iald (v := (h.2 14 x2)) (zdk ttX11_runs 32 rfl rfl) (kaM_14 s4) (by decide) (by omega) (zfr_a f5 rfl (by decide)) ?_
            refine zj_if_ne (t := 71) (zdk ttX11_runs 33 rfl rfl) (by decide) (by omega) (fun c72 => ?_) (fun c72 => ?_)
            · refine zj_aload_n (zdk ttX11_runs 39 rfl rfl) rfl (by decide) ?_
              refine zj_getr (r := 20) (zdk ttX11_runs 40 rfl rfl) zf_RX11_71 rfl (k_M s4) (rfM_39 s4) ?_
              refine zj_aload_n (zdk ttX11_runs 41 rfl rfl) rfl (by decide) ?_
              refine zj_getr (r := 15) (zdk ttX11_runs 42 rfl rfl) zf_RX11_52 rfl (k_M s4) (rfM_23 s4) ?_
              refine zj_iload (zdk ttX11_runs 43 rfl rfl) rfl ?_
              have b73 : -2147483648 ≤ (h.2 15 x2) ∧ (h.2 15 x2) ≤ 2147483647 := abM_15 s0 x2
              refine zj_iald (v := (h.2 15 x2)) (zdk ttX11_runs 44 rfl rfl) (kaM_15 s4) (by decide) (by omega) (zfr_a f5 rfl (by decide)) ?_
              have b74 : -2147483648 ≤ (h.2 20 (h.2 15 x2)) ∧ (h.2 20 (h.2 15 x2)) ≤ 2147483647 := abM_20 s0 (h.2 15 x2)
              refine zj_iald (v := (h.2 20 (h.2 15 x2))) (zdk ttX11_runs 45 rfl rfl) (kaM_20 s4) (by decide) (by omega) (zfr_a f5 rfl (by decide)) ?_
              refine zj_iast (zdk ttX11_runs 46 rfl rfl) (kaM_21 s4) (by decide) (by omega) (fun h75 e76 => ?_)
              refine zj_iload (zdk ttX11_runs 47 rfl rfl) rfl ?_
              refine zj_iconst (zdk ttX11_runs 48 rfl rfl) ?_
              refine zj_iadd (zdk ttX11_runs 49 rfl rfl) ?_
              refine zj_istore (L' := [some (.inr 0), some (.inl p1), some (.inl p2), some (.inl p3), some (.inl (x1 + 1)), some (.inl x2)]) (zdk ttX11_runs 50 rfl rfl) (by decide) rfl ?_
              refine zj_goto (t := 170) (zdk ttX11_runs 51 rfl rfl) (by decide) ?_
              refine zj_iinc (L' := [some (.inr 0), some (.inl p1), some (.inl p2), some (.inl p3), some (.inl (x1 + 1)), some (.inl (x2 + 1))]) (zdk ttX11_runs 99 rfl rfl) rfl (by decide) rfl ?_
              refine zj_goto (t := 12) (zdk ttX11_runs 100 rfl rfl) (by decide) ?_
              have s77 : okM h75 := awM_21 s4 e76 (by omega) (by unfold nsp; omega)
              have f78 : zfr [] [21] h h75 := zfr_wa f5 e76 rfl
              have b79 : h75.2 21 x1 = (h.2 20 (h.2 15 x2)) := zwr_v e76
              exact ih39  (x1 + 1) (x2 + 1) h75 (by omega) (by omega) s77 f78 (zru_s dp z2 (by omega) (fun q => by first | omega | (rw [show (x1 + 1) - 1 = x1 by omega]; omega))) (by omega) (by omega)
            · exact absurd c72 (by omega)
  exact lp33 _ 0 ((400 * p1) + p2) h (by omega) (by omega) s0 (zfr_r _ _ _) (by rw [show 400 * p1 + p2 = p2 by omega]; exact zru_0 u_0 h) (by omega) (Nat.lt_succ_self _)

abbrev tX11_lineOf : List (Nat × Instr × Nat) := [(0, .iconst 0, 1), (1, .istore_n 2, 1), (2, .iload_n 2, 1), (3, .aload_n 0, 1), (4, .getfield 34, 3), (7, .iconst 0, 1), (8, .iaload, 1), (9, .if_icmp .ge 56, 3), (12, .aload_n 0, 1), (13, .getfield 37, 3), (16, .iload_n 2, 1), (17, .iaload, 1), (18, .iload_n 1, 1), (19, .if_icmp .ne 40, 3), (22, .aload_n 0, 1), (23, .getfield 43, 3), (26, .iload_n 2, 1), (27, .iaload, 1), (28, .aload_n 0, 1), (29, .getfield 46, 3), (32, .iload_n 2, 1), (33, .iaload, 1), (34, .if_icmp .eq 23, 3), (37, .aload_n 0, 1), (38, .iconst 0, 1), (39, .aload_n 0, 1), (40, .getfield 43, 3), (43, .iload_n 2, 1), (44, .iaload, 1), (45, .aload_n 0, 1), (46, .getfield 46, 3), (49, .iload_n 2, 1), (50, .iaload, 1), (51, .invokevirtual 306, 3), (54, .ifCond .eq 5, 3), (57, .iload_n 2, 1), (58, .ireturn, 1), (59, .iinc 2 1, 3), (62, .goto (-60), 3), (65, .iconst (-1), 1), (66, .ireturn, 1)]
theorem ttX11_lineOf : zdt cX11_lineOf tX11_lineOf = true := by decide +kernel
abbrev q_X11_lineOf (h : zM) (p1 : Int) : Option zV → zM → Prop := zqi fun v h' => ((-1) ≤ v ∧ v ≤ 15) ∧ okM h' ∧ zfr [] [21] h h' ∧ (v < h'.2 9 0)
set_option maxRecDepth 100000 in
set_option maxHeartbeats 4000000 in
theorem s_X11_lineOf (l : Launch) (h : zM) (p1 : Int) (s0 : okM h) (b_p1 : (-2147483648) ≤ p1 ∧ p1 ≤ 2147483647) : zT shM l yX11_lineOf cX11_lineOf 3 (some .int) (rmL 3) 0 0 [.inr 0, .inl p1] h (q_X11_lineOf h p1) := by
  refine zT_of (by decide +kernel) (L0 := [some (.inr 0), some (.inl p1), none]) rfl (Nat.le_of_ble_eq_true rfl) ?_
  refine zj_iconst (zdk ttX11_lineOf 0 rfl rfl) ?_
  refine zj_istore_n (L' := [some (.inr 0), some (.inl p1), some (.inl 0)]) (zdk ttX11_lineOf 1 rfl rfl) (by decide) rfl ?_
  have lp75 : ∀ (n2 : Nat) (x1 : Int) (h2 : zM), (0 ≤ x1 ∧ x1 ≤ 16) → okM h2 → zfr [] [21] h h2 → (17 - x1).toNat < n2 → zJ shM l yX11_lineOf cX11_lineOf 3 (some .int) (rmL 3) 0 0 (q_X11_lineOf h p1) 0 0 2 [some (.inr 0), some (.inl p1), some (.inl x1)] [] h2 := by
    intro n2
    induction n2 with
    | zero => intro x1 h2 b76 s3 f4 m77; exact absurd m77 (Nat.not_lt_zero _)
    | succ n2 ih78 =>
      intro x1 h2 b76 s3 f4 m77
      refine zj_iload_n (zdk ttX11_lineOf 2 rfl rfl) rfl ?_
      refine zj_aload_n (zdk ttX11_lineOf 3 rfl rfl) rfl (by decide) ?_
      refine zj_getr (r := 9) (zdk ttX11_lineOf 4 rfl rfl) zf_RX11_34 rfl (k_M s3) (rfM_17 s3) ?_
      refine zj_iconst (zdk ttX11_lineOf 5 rfl rfl) ?_
      have b79 : 0 ≤ (h2.2 9 0) ∧ (h2.2 9 0) ≤ 16 := abM_9 s3 0
      refine zj_iald (v := (h2.2 9 0)) (zdk ttX11_lineOf 6 rfl rfl) (kaM_9 s3) (by decide) (by omega) rfl ?_
      refine zj_icmp_ge (t := 65) (zdk ttX11_lineOf 7 rfl rfl) (by decide) (by omega) (by omega) (fun c80 => ?_) (fun c80 => ?_)
      · refine zj_iconst (zdk ttX11_lineOf 39 rfl rfl) ?_
        exact zj_iret rfl (zdk ttX11_lineOf 40 rfl rfl) (Nat.le_refl _) (Nat.le_refl _) ⟨(-1), rfl, by omega, s3, f4, by omega⟩
      · refine zj_aload_n (zdk ttX11_lineOf 8 rfl rfl) rfl (by decide) ?_
        refine zj_getr (r := 10) (zdk ttX11_lineOf 9 rfl rfl) zf_RX11_37 rfl (k_M s3) (rfM_18 s3) ?_
        refine zj_iload_n (zdk ttX11_lineOf 10 rfl rfl) rfl ?_
        have b81 : -2147483648 ≤ (h2.2 10 x1) ∧ (h2.2 10 x1) ≤ 2147483647 := abM_10 s3 x1
        refine zj_iald (v := (h2.2 10 x1)) (zdk ttX11_lineOf 11 rfl rfl) (kaM_10 s3) (by decide) (by omega) rfl ?_
        refine zj_iload_n (zdk ttX11_lineOf 12 rfl rfl) rfl ?_
        refine zj_icmp_ne (t := 59) (zdk ttX11_lineOf 13 rfl rfl) (by decide) (by omega) (by omega) (fun c82 => ?_) (fun c82 => ?_)
        · refine zj_iinc (L' := [some (.inr 0), some (.inl p1), some (.inl (x1 + 1))]) (zdk ttX11_lineOf 37 rfl rfl) rfl (by decide) rfl ?_
          refine zj_goto (t := 2) (zdk ttX11_lineOf 38 rfl rfl) (by decide) ?_
          exact ih78  (x1 + 1) h2 (by omega) s3 f4 (by omega)
        · refine zj_aload_n (zdk ttX11_lineOf 14 rfl rfl) rfl (by decide) ?_
          refine zj_getr (r := 12) (zdk ttX11_lineOf 15 rfl rfl) zf_RX11_43 rfl (k_M s3) (rfM_20 s3) ?_
          refine zj_iload_n (zdk ttX11_lineOf 16 rfl rfl) rfl ?_
          have b83 : 0 ≤ (h2.2 12 x1) ∧ (h2.2 12 x1) ≤ 400 := abM_12 s3 x1
          refine zj_iald (v := (h2.2 12 x1)) (zdk ttX11_lineOf 17 rfl rfl) (kaM_12 s3) (by decide) (by omega) rfl ?_
          refine zj_aload_n (zdk ttX11_lineOf 18 rfl rfl) rfl (by decide) ?_
          refine zj_getr (r := 13) (zdk ttX11_lineOf 19 rfl rfl) zf_RX11_46 rfl (k_M s3) (rfM_21 s3) ?_
          refine zj_iload_n (zdk ttX11_lineOf 20 rfl rfl) rfl ?_
          have b84 : 0 ≤ (h2.2 13 x1) ∧ (h2.2 13 x1) ≤ 400 := abM_13 s3 x1
          refine zj_iald (v := (h2.2 13 x1)) (zdk ttX11_lineOf 21 rfl rfl) (kaM_13 s3) (by decide) (by omega) rfl ?_
          refine zj_icmp_eq (t := 57) (zdk ttX11_lineOf 22 rfl rfl) (by decide) (by omega) (by omega) (fun c85 => ?_) (fun c85 => ?_)
          · refine zj_iload_n (zdk ttX11_lineOf 35 rfl rfl) rfl ?_
            exact zj_iret rfl (zdk ttX11_lineOf 36 rfl rfl) (Nat.le_refl _) (Nat.le_refl _) ⟨x1, rfl, by omega, s3, f4, by omega⟩
          · refine zj_aload_n (zdk ttX11_lineOf 23 rfl rfl) rfl (by decide) ?_
            refine zj_iconst (zdk ttX11_lineOf 24 rfl rfl) ?_
            refine zj_aload_n (zdk ttX11_lineOf 25 rfl rfl) rfl (by decide) ?_
            refine zj_getr (r := 12) (zdk ttX11_lineOf 26 rfl rfl) zf_RX11_43 rfl (k_M s3) (rfM_20 s3) ?_
            refine zj_iload_n (zdk ttX11_lineOf 27 rfl rfl) rfl ?_
            refine zj_iald (v := (h2.2 12 x1)) (zdk ttX11_lineOf 28 rfl rfl) (kaM_12 s3) (by decide) (by omega) rfl ?_
            refine zj_aload_n (zdk ttX11_lineOf 29 rfl rfl) rfl (by decide) ?_
            refine zj_getr (r := 13) (zdk ttX11_lineOf 30 rfl rfl) zf_RX11_46 rfl (k_M s3) (rfM_21 s3) ?_
            refine zj_iload_n (zdk ttX11_lineOf 31 rfl rfl) rfl ?_
            refine zj_iald (v := (h2.2 13 x1)) (zdk ttX11_lineOf 32 rfl rfl) (kaM_13 s3) (by decide) (by omega) rfl ?_
            refine zj_callV (av := [.inl 0, .inl (h2.2 12 x1), .inl (h2.2 13 x1)]) (st := []) (zdk ttX11_lineOf 33 rfl rfl) mb_X11_runs mv_RX11_306 (ci := 11) rfl rfl (k_M s3) rfl rfl (Nat.le_of_ble_eq_true rfl) (s_X11_runs l h2 0 (h2.2 12 x1) (h2.2 13 x1) s3 (by omega) (by omega) (by omega) (s3.2.2.2.1.2.2 x1 (by omega) (by omega)).2.1) (rm_ok (by decide) (by decide)) (zq_i fun v87 h88 q86 => ?_)
            obtain ⟨b89, s90, f91⟩ := q86
            refine zj_if_eq (t := 59) (zdk ttX11_lineOf 34 rfl rfl) (by decide) (by omega) (fun c92 => ?_) (fun c92 => ?_)
            · refine zj_iinc (L' := [some (.inr 0), some (.inl p1), some (.inl (x1 + 1))]) (zdk ttX11_lineOf 37 rfl rfl) rfl (by decide) rfl ?_
              refine zj_goto (t := 2) (zdk ttX11_lineOf 38 rfl rfl) (by decide) ?_
              have f93 : zfr [] [21] h h88 := zfr_t f4 f91 rfl rfl
              exact ih78  (x1 + 1) h88 (by omega) s90 f93 (by omega)
            · refine zj_iload_n (zdk ttX11_lineOf 35 rfl rfl) rfl ?_
              have b94 : h88.2 9 0 = (h2.2 9 0) := (zfr_a f91 rfl (by decide))
              have f95 : zfr [] [21] h h88 := zfr_t f4 f91 rfl rfl
              exact zj_iret rfl (zdk ttX11_lineOf 36 rfl rfl) (Nat.le_refl _) (Nat.le_refl _) ⟨x1, rfl, by omega, s90, f95, by omega⟩
  exact lp75 _ 0 h (by omega) s0 (zfr_r _ _ _) (Nat.lt_succ_self _)

abbrev tX11_lawTells : List (Nat × Instr × Nat) := [(0, .aload_n 0, 1), (1, .iload_n 1, 1), (2, .invokevirtual 325, 3), (5, .istore 4, 2), (7, .aload_n 0, 1), (8, .iload 4, 2), (10, .iconst (-1), 1), (11, .if_icmp .ne 7, 3), (14, .iload_n 2, 1), (15, .goto 22, 3), (18, .aload_n 0, 1), (19, .iconst 0, 1), (20, .aload_n 0, 1), (21, .getfield 40, 3), (24, .iload 4, 2), (26, .iaload, 1), (27, .aload_n 0, 1), (28, .getfield 43, 3), (31, .iload 4, 2), (33, .iaload, 1), (34, .invokevirtual 306, 3), (37, .iconst 0, 1), (38, .iload_n 3, 1), (39, .invokevirtual 319, 3), (42, .ireturn, 1)]
theorem ttX11_lawTells : zdt cX11_lawTells tX11_lawTells = true := by decide +kernel
abbrev q_X11_lawTells (h : zM) (p1 : Int) (p2 : Int) (p3 : Int) : Option zV → zM → Prop := zqi fun v h' => ((-2147483648) ≤ v ∧ v ≤ 2147483647) ∧ okM h' ∧ zfr [] [21] h h'
set_option maxRecDepth 100000 in
set_option maxHeartbeats 4000000 in
theorem s_X11_lawTells (l : Launch) (h : zM) (p1 : Int) (p2 : Int) (p3 : Int) (s0 : okM h) (b_p1 : (-2147483648) ≤ p1 ∧ p1 ≤ 2147483647) (b_p2 : (-2147483648) ≤ p2 ∧ p2 ≤ 2147483647) (b_p3 : (-2147483648) ≤ p3 ∧ p3 ≤ 2147483647) : zT shM l yX11_lawTells cX11_lawTells 5 (some .int) (rmL 4) 0 0 [.inr 0, .inl p1, .inl p2, .inl p3] h (q_X11_lawTells h p1 p2 p3) := by
  refine zT_of (by decide +kernel) (L0 := [some (.inr 0), some (.inl p1), some (.inl p2), some (.inl p3), none]) rfl (Nat.le_of_ble_eq_true rfl) ?_
  refine zj_aload_n (zdk ttX11_lawTells 0 rfl rfl) rfl (by decide) ?_
  refine zj_iload_n (zdk ttX11_lawTells 1 rfl rfl) rfl ?_
  refine zj_callV (av := [.inl p1]) (st := []) (zdk ttX11_lawTells 2 rfl rfl) mb_X11_lineOf mv_RX11_325 (ci := 11) rfl rfl (k_M s0) rfl rfl (Nat.le_of_ble_eq_true rfl) (s_X11_lineOf l h p1 s0 (by omega)) (rm_ok (by decide) (by decide)) (zq_i fun v2 h3 q1 => ?_)
  obtain ⟨b4, s5, f7, u6⟩ := q1
  refine zj_istore (L' := [some (.inr 0), some (.inl p1), some (.inl p2), some (.inl p3), some (.inl v2)]) (zdk ttX11_lawTells 3 rfl rfl) (by decide) rfl ?_
  refine zj_aload_n (zdk ttX11_lawTells 4 rfl rfl) rfl (by decide) ?_
  refine zj_iload (zdk ttX11_lawTells 5 rfl rfl) rfl ?_
  refine zj_iconst (zdk ttX11_lawTells 6 rfl rfl) ?_
  refine zj_icmp_ne (t := 18) (zdk ttX11_lawTells 7 rfl rfl) (by decide) (by omega) (by decide) (fun c8 => ?_) (fun c8 => ?_)
  · refine zj_aload_n (zdk ttX11_lawTells 10 rfl rfl) rfl (by decide) ?_
    refine zj_iconst (zdk ttX11_lawTells 11 rfl rfl) ?_
    refine zj_aload_n (zdk ttX11_lawTells 12 rfl rfl) rfl (by decide) ?_
    refine zj_getr (r := 11) (zdk ttX11_lawTells 13 rfl rfl) zf_RX11_40 rfl (k_M s5) (rfM_19 s5) ?_
    refine zj_iload (zdk ttX11_lawTells 14 rfl rfl) rfl ?_
    have b9 : 0 ≤ (h3.2 11 v2) ∧ (h3.2 11 v2) ≤ 400 := abM_11 s5 v2
    refine zj_iald (v := (h3.2 11 v2)) (zdk ttX11_lawTells 15 rfl rfl) (kaM_11 s5) (by decide) (by omega) rfl ?_
    refine zj_aload_n (zdk ttX11_lawTells 16 rfl rfl) rfl (by decide) ?_
    refine zj_getr (r := 12) (zdk ttX11_lawTells 17 rfl rfl) zf_RX11_43 rfl (k_M s5) (rfM_20 s5) ?_
    refine zj_iload (zdk ttX11_lawTells 18 rfl rfl) rfl ?_
    have b10 : 0 ≤ (h3.2 12 v2) ∧ (h3.2 12 v2) ≤ 400 := abM_12 s5 v2
    refine zj_iald (v := (h3.2 12 v2)) (zdk ttX11_lawTells 19 rfl rfl) (kaM_12 s5) (by decide) (by omega) rfl ?_
    refine zj_callV (av := [.inl 0, .inl (h3.2 11 v2), .inl (h3.2 12 v2)]) (st := [.inr 0]) (zdk ttX11_lawTells 20 rfl rfl) mb_X11_runs mv_RX11_306 (ci := 11) rfl rfl (k_M s5) rfl rfl (Nat.le_of_ble_eq_true rfl) (s_X11_runs l h3 0 (h3.2 11 v2) (h3.2 12 v2) s5 (by omega) (by omega) (by omega) (s5.2.2.2.1.2.2 v2 (by omega) (by omega)).1) (rm_ok (by decide) (by decide)) (zq_i fun v12 h13 q11 => ?_)
    obtain ⟨b14, s15, f16⟩ := q11
    refine zj_iconst (zdk ttX11_lawTells 21 rfl rfl) ?_
    refine zj_iload_n (zdk ttX11_lawTells 22 rfl rfl) rfl ?_
    refine zj_callV (av := [.inl v12, .inl 0, .inl p3]) (st := []) (zdk ttX11_lawTells 23 rfl rfl) mb_X11_held mv_RX11_319 (ci := 11) rfl rfl (k_M s15) rfl rfl (Nat.le_of_ble_eq_true rfl) (s_X11_held l h13 v12 0 p3 s15 (by omega) (by omega) (by omega)) (rm_ok (by decide) (by decide)) (zq_i fun v18 h19 q17 => ?_)
    obtain ⟨rfl, b20⟩ := q17
    have b21 : -2147483648 ≤ v18 ∧ v18 ≤ 2147483647 := by omega
    have f23 : zfr [] [21] h h3 := zfr_t (zfr_r _ _ _) f7 rfl rfl
    have f22 : zfr [] [21] h h13 := zfr_t f23 f16 rfl rfl
    exact zj_iret rfl (zdk ttX11_lawTells 24 rfl rfl) (Nat.le_refl _) (Nat.le_refl _) ⟨v18, rfl, by omega, s15, f22⟩
  · refine zj_iload_n (zdk ttX11_lawTells 8 rfl rfl) rfl ?_
    refine zj_goto (t := 37) (zdk ttX11_lawTells 9 rfl rfl) (by decide) ?_
    refine zj_iconst (zdk ttX11_lawTells 21 rfl rfl) ?_
    refine zj_iload_n (zdk ttX11_lawTells 22 rfl rfl) rfl ?_
    refine zj_callV (av := [.inl p2, .inl 0, .inl p3]) (st := []) (zdk ttX11_lawTells 23 rfl rfl) mb_X11_held mv_RX11_319 (ci := 11) rfl rfl (k_M s5) rfl rfl (Nat.le_of_ble_eq_true rfl) (s_X11_held l h3 p2 0 p3 s5 (by omega) (by omega) (by omega)) (rm_ok (by decide) (by decide)) (zq_i fun v25 h26 q24 => ?_)
    obtain ⟨rfl, b27⟩ := q24
    have b28 : -2147483648 ≤ v25 ∧ v25 ≤ 2147483647 := by omega
    have f29 : zfr [] [21] h h3 := zfr_t (zfr_r _ _ _) f7 rfl rfl
    exact zj_iret rfl (zdk ttX11_lawTells 24 rfl rfl) (Nat.le_refl _) (Nat.le_refl _) ⟨v25, rfl, by omega, s5, f29⟩

abbrev tX11_leavesOf : List (Nat × Instr × Nat) := [(0, .aload_n 0, 1), (1, .iload_n 1, 1), (2, .invokevirtual 328, 3), (5, .aload_n 0, 1), (6, .iconst 0, 1), (7, .bipush 80, 2), (9, .aload_n 0, 1), (10, .getfield 71, 3), (13, .iconst 1, 1), (14, .iaload, 1), (15, .imul, 1), (16, .sipush 1000, 3), (19, .invokevirtual 331, 3), (22, .ireturn, 1)]
theorem ttX11_leavesOf : zdt cX11_leavesOf tX11_leavesOf = true := by decide +kernel
abbrev tX11_windsOf : List (Nat × Instr × Nat) := [(0, .aload_n 0, 1), (1, .iload_n 1, 1), (2, .invokevirtual 328, 3), (5, .aload_n 0, 1), (6, .iconst 1, 1), (7, .aload_n 0, 1), (8, .getfield 71, 3), (11, .iconst 0, 1), (12, .iaload, 1), (13, .sipush 999, 3), (16, .invokevirtual 331, 3), (19, .ireturn, 1)]
theorem ttX11_windsOf : zdt cX11_windsOf tX11_windsOf = true := by decide +kernel
abbrev q_X11_windsOf (h : zM) (p1 : Int) : Option zV → zM → Prop := zqi fun v h' => ((-2147483648) ≤ v ∧ v ≤ 2147483647) ∧ okM h' ∧ zfr [] [20, 21] h h'
set_option maxRecDepth 100000 in
set_option maxHeartbeats 4000000 in
theorem s_X11_windsOf (l : Launch) (h : zM) (p1 : Int) (s0 : okM h) (b_p1 : 0 ≤ p1 ∧ p1 ≤ 17) : zT shM l yX11_windsOf cX11_windsOf 2 (some .int) (rmL 5) 0 0 [.inr 0, .inl p1] h (q_X11_windsOf h p1) := by
  refine zT_of (by decide +kernel) (L0 := [some (.inr 0), some (.inl p1)]) rfl (Nat.le_of_ble_eq_true rfl) ?_
  refine zj_aload_n (zdk ttX11_windsOf 0 rfl rfl) rfl (by decide) ?_
  refine zj_iload_n (zdk ttX11_windsOf 1 rfl rfl) rfl ?_
  refine zj_callV (av := [.inl p1]) (st := []) (zdk ttX11_windsOf 2 rfl rfl) mb_X11_asks mv_RX11_328 (ci := 11) rfl rfl (k_M s0) rfl rfl (Nat.le_of_ble_eq_true rfl) (s_X11_asks l h p1 s0 (by omega)) (rm_ok (by decide) (by decide)) (zq_v fun h3 q1 => ?_)
  obtain ⟨s5, f6⟩ := q1
  refine zj_aload_n (zdk ttX11_windsOf 3 rfl rfl) rfl (by decide) ?_
  refine zj_iconst (zdk ttX11_windsOf 4 rfl rfl) ?_
  refine zj_aload_n (zdk ttX11_windsOf 5 rfl rfl) rfl (by decide) ?_
  refine zj_getr (r := 20) (zdk ttX11_windsOf 6 rfl rfl) zf_RX11_71 rfl (k_M s5) (rfM_39 s5) ?_
  refine zj_iconst (zdk ttX11_windsOf 7 rfl rfl) ?_
  have b7 : -2147483648 ≤ (h3.2 20 0) ∧ (h3.2 20 0) ≤ 2147483647 := abM_20 s5 0
  refine zj_iald (v := (h3.2 20 0)) (zdk ttX11_windsOf 8 rfl rfl) (kaM_20 s5) (by decide) (by omega) rfl ?_
  refine zj_sipush (zdk ttX11_windsOf 9 rfl rfl) (by decide) ?_
  refine zj_callV (av := [.inl 1, .inl (h3.2 20 0), .inl 999]) (st := []) (zdk ttX11_windsOf 10 rfl rfl) mb_X11_lawTells mv_RX11_331 (ci := 11) rfl rfl (k_M s5) rfl rfl (Nat.le_of_ble_eq_true rfl) (s_X11_lawTells l h3 1 (h3.2 20 0) 999 s5 (by omega) (by omega) (by omega)) (rm_ok (by decide) (by decide)) (zq_i fun v9 h10 q8 => ?_)
  obtain ⟨b11, s12, f13⟩ := q8
  have f15 : zfr [] [20, 21] h h3 := zfr_t (zfr_r _ _ _) f6 rfl rfl
  have f14 : zfr [] [20, 21] h h10 := zfr_t f15 f13 rfl rfl
  exact zj_iret rfl (zdk ttX11_windsOf 11 rfl rfl) (Nat.le_refl _) (Nat.le_refl _) ⟨v9, rfl, by omega, s12, f14⟩

abbrev tX11_returnsOf : List (Nat × Instr × Nat) := [(0, .aload_n 0, 1), (1, .iload_n 1, 1), (2, .invokevirtual 328, 3), (5, .aload_n 0, 1), (6, .iconst 2, 1), (7, .sipush 500, 3), (10, .bipush 50, 2), (12, .aload_n 0, 1), (13, .getfield 71, 3), (16, .iconst 1, 1), (17, .iaload, 1), (18, .imul, 1), (19, .isub, 1), (20, .sipush 1000, 3), (23, .invokevirtual 331, 3), (26, .ireturn, 1)]
theorem ttX11_returnsOf : zdt cX11_returnsOf tX11_returnsOf = true := by decide +kernel
abbrev tX11_goesAboard : List (Nat × Instr × Nat) := [(0, .aload_n 0, 1), (1, .getfield 7, 3), (4, .bipush 9, 2), (6, .iload_n 1, 1), (7, .iadd, 1), (8, .iconst 1, 1), (9, .iastore, 1), (10, .aload_n 0, 1), (11, .getfield 7, 3), (14, .bipush 45, 2), (16, .iload_n 1, 1), (17, .iadd, 1), (18, .aload_n 0, 1), (19, .getfield 7, 3), (22, .bipush 45, 2), (24, .iload_n 1, 1), (25, .iadd, 1), (26, .iaload, 1), (27, .iconst 1, 1), (28, .iadd, 1), (29, .iastore, 1), (30, .aload_n 0, 1), (31, .iload_n 1, 1), (32, .invokevirtual 334, 3), (35, .istore_n 2, 1), (36, .aload_n 0, 1), (37, .getfield 7, 3), (40, .iconst 4, 1), (41, .aload_n 0, 1), (42, .getfield 7, 3), (45, .iconst 4, 1), (46, .iaload, 1), (47, .iload_n 2, 1), (48, .iadd, 1), (49, .iastore, 1), (50, .aload_n 0, 1), (51, .iconst 0, 1), (52, .iload_n 1, 1), (53, .iload_n 2, 1), (54, .invokevirtual 337, 3), (57, .return_, 1)]
theorem ttX11_goesAboard : zdt cX11_goesAboard tX11_goesAboard = true := by decide +kernel
abbrev tX11_comesBack : List (Nat × Instr × Nat) := [(0, .aload_n 0, 1), (1, .getfield 7, 3), (4, .bipush 9, 2), (6, .iload_n 1, 1), (7, .iadd, 1), (8, .iconst 0, 1), (9, .iastore, 1), (10, .aload_n 0, 1), (11, .iload_n 1, 1), (12, .invokevirtual 334, 3), (15, .istore_n 2, 1), (16, .aload_n 0, 1), (17, .getfield 7, 3), (20, .iconst 4, 1), (21, .aload_n 0, 1), (22, .getfield 7, 3), (25, .iconst 4, 1), (26, .iaload, 1), (27, .iload_n 2, 1), (28, .isub, 1), (29, .iastore, 1), (30, .aload_n 0, 1), (31, .iconst 1, 1), (32, .iload_n 1, 1), (33, .iload_n 2, 1), (34, .invokevirtual 337, 3), (37, .return_, 1)]
theorem ttX11_comesBack : zdt cX11_comesBack tX11_comesBack = true := by decide +kernel
abbrev tX11_act : List (Nat × Instr × Nat) := [(0, .aload_n 0, 1), (1, .iconst 0, 1), (2, .putfield 120, 3), (5, .aload_n 0, 1), (6, .iload_n 1, 1), (7, .iload_n 2, 1), (8, .invokevirtual 341, 3), (11, .ifCond .ne 5, 3), (14, .iconst 0, 1), (15, .ireturn, 1), (16, .aload_n 0, 1), (17, .invokevirtual 344, 3), (20, .iload_n 1, 1), (21, .ifCond .ne 8, 3), (24, .aload_n 0, 1), (25, .iload_n 2, 1), (26, .invokevirtual 347, 3), (29, .iload_n 1, 1), (30, .iconst 1, 1), (31, .if_icmp .ne 8, 3), (34, .aload_n 0, 1), (35, .iload_n 2, 1), (36, .invokevirtual 350, 3), (39, .iload_n 1, 1), (40, .iconst 1, 1), (41, .if_icmp .le 22, 3), (44, .aload_n 0, 1), (45, .getfield 7, 3), (48, .bipush 27, 2), (50, .iload_n 2, 1), (51, .iadd, 1), (52, .iload_n 1, 1), (53, .iconst 2, 1), (54, .if_icmp .ne 7, 3), (57, .iconst 1, 1), (58, .goto 4, 3), (61, .iconst 0, 1), (62, .iastore, 1), (63, .iconst 1, 1), (64, .ireturn, 1)]
theorem ttX11_act : zdt cX11_act tX11_act = true := by decide +kernel
