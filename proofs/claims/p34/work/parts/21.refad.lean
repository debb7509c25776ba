abbrev tX11_arm : List (Nat × Instr × Nat) := [(0, .aload_n 0, 1), (1, .iconst 0, 1), (2, .putfield 120, 3), (5, .iload_n 1, 1), (6, .bipush (-100), 2), (8, .if_icmp .ne 10, 3), (11, .aload_n 0, 1), (12, .iconst 0, 1), (13, .putfield 445, 3), (16, .iconst 0, 1), (17, .ireturn, 1), (18, .aload_n 0, 1), (19, .iload_n 1, 1), (20, .bipush (-9), 2), (22, .bipush 9, 2), (24, .invokevirtual 139, 3), (27, .ifCond .eq 27, 3), (30, .iload_n 1, 1), (31, .ifCond .eq 23, 3), (34, .aload_n 0, 1), (35, .iload_n 2, 1), (36, .iconst 1, 1), (37, .bipush 20, 2), (39, .invokevirtual 139, 3), (42, .ifCond .eq 12, 3), (45, .aload_n 0, 1), (46, .getfield 445, 3), (49, .bipush 6, 2), (51, .if_icmp .ne 5, 3), (54, .iconst (-1), 1), (55, .ireturn, 1), (56, .aload_n 0, 1), (57, .getfield 105, 3), (60, .aload_n 0, 1), (61, .getfield 445, 3), (64, .iload_n 1, 1), (65, .iastore, 1), (66, .aload_n 0, 1), (67, .getfield 108, 3), (70, .aload_n 0, 1), (71, .getfield 445, 3), (74, .iload_n 2, 1), (75, .iastore, 1), (76, .aload_n 0, 1), (77, .aload_n 0, 1), (78, .getfield 445, 3), (81, .iconst 1, 1), (82, .iadd, 1), (83, .putfield 445, 3), (86, .aload_n 0, 1), (87, .getfield 445, 3), (90, .ireturn, 1)]
theorem ttX11_arm : zdt cX11_arm tX11_arm = true := by decide +kernel
abbrev q_X11_arm (h : zM) (p1 : Int) (p2 : Int) : Option zV → zM → Prop := zqi fun v h' => ((-2147483648) ≤ v ∧ v ≤ 2147483647) ∧ okM h' ∧ zfr [0, 53] [31, 32] h h'
set_option maxRecDepth 100000 in
set_option maxHeartbeats 4000000 in
theorem s_X11_arm (l : Launch) (h : zM) (p1 : Int) (p2 : Int) (s0 : okM h) (b_p1 : (-2147483648) ≤ p1 ∧ p1 ≤ 2147483647) (b_p2 : (-2147483648) ≤ p2 ∧ p2 ≤ 2147483647) : zT shM l yX11_arm cX11_arm 3 (some .int) (rmL 2) 0 0 [.inr 0, .inl p1, .inl p2] h (q_X11_arm h p1 p2) := by
  refine zT_of (by decide +kernel) (L0 := [some (.inr 0), some (.inl p1), some (.inl p2)]) rfl (Nat.le_of_ble_eq_true rfl) ?_
  refine zj_aload_n (zdk ttX11_arm 0 rfl rfl) rfl (by decide) ?_
  refine zj_iconst (zdk ttX11_arm 1 rfl rfl) ?_
  refine zj_puti (zdk ttX11_arm 2 rfl rfl) zf_RX11_120 rfl (k_M s0) (Or.inl zw_RX11_120) (k2 := 0) rfl (fun h1 e2 => ?_)
  refine zj_iload_n (zdk ttX11_arm 3 rfl rfl) rfl ?_
  refine zj_bipush (zdk ttX11_arm 4 rfl rfl) (by decide) ?_
  refine zj_icmp_ne (t := 18) (zdk ttX11_arm 5 rfl rfl) (by decide) (by omega) (by decide) (fun c3 => ?_) (fun c3 => ?_)
  · refine zj_aload_n (zdk ttX11_arm 11 rfl rfl) rfl (by decide) ?_
    refine zj_iload_n (zdk ttX11_arm 12 rfl rfl) rfl ?_
    refine zj_bipush (zdk ttX11_arm 13 rfl rfl) (by decide) ?_
    refine zj_bipush (zdk ttX11_arm 14 rfl rfl) (by decide) ?_
    have s4 : okM h1 := fwM_0 s0 e2 (by omega)
    refine zj_callV (av := [.inl p1, .inl (-9), .inl 9]) (st := []) (zdk ttX11_arm 15 rfl rfl) mb_X11_isIn mv_RX11_139 (ci := 11) rfl rfl (k_M s4) rfl rfl (Nat.le_of_ble_eq_true rfl) (s_X11_isIn l h1 p1 (-9) 9 s4 (by omega) (by omega) (by omega)) (rm_ok (by decide) (by decide)) (zq_i fun v6 h7 q5 => ?_)
    obtain ⟨rfl, ⟨rfl, b8⟩ | ⟨rfl, b8⟩⟩ := q5
    · refine zj_if_eq (t := 54) (zdk ttX11_arm 16 rfl rfl) (by decide) (by decide) (fun c9 => ?_) (fun c9 => ?_)
      · refine zj_iconst (zdk ttX11_arm 29 rfl rfl) ?_
        have f10 : zfr [0, 53] [31, 32] h h1 := zfr_wf (zfr_r _ _ _) e2 rfl
        exact zj_iret rfl (zdk ttX11_arm 30 rfl rfl) (Nat.le_refl _) (Nat.le_refl _) ⟨(-1), rfl, by omega, s4, f10⟩
      · exact absurd c9 (by omega)
    · refine zj_if_eq (t := 54) (zdk ttX11_arm 16 rfl rfl) (by decide) (by decide) (fun c11 => ?_) (fun c11 => ?_)
      · exact absurd c11 (by omega)
      · refine zj_iload_n (zdk ttX11_arm 17 rfl rfl) rfl ?_
        refine zj_if_eq (t := 54) (zdk ttX11_arm 18 rfl rfl) (by decide) (by omega) (fun c12 => ?_) (fun c12 => ?_)
        · refine zj_iconst (zdk ttX11_arm 29 rfl rfl) ?_
          have f13 : zfr [0, 53] [31, 32] h h1 := zfr_wf (zfr_r _ _ _) e2 rfl
          exact zj_iret rfl (zdk ttX11_arm 30 rfl rfl) (Nat.le_refl _) (Nat.le_refl _) ⟨(-1), rfl, by omega, s4, f13⟩
        · refine zj_aload_n (zdk ttX11_arm 19 rfl rfl) rfl (by decide) ?_
          refine zj_iload_n (zdk ttX11_arm 20 rfl rfl) rfl ?_
          refine zj_iconst (zdk ttX11_arm 21 rfl rfl) ?_
          refine zj_bipush (zdk ttX11_arm 22 rfl rfl) (by decide) ?_
          refine zj_callV (av := [.inl p2, .inl 1, .inl 20]) (st := []) (zdk ttX11_arm 23 rfl rfl) mb_X11_isIn mv_RX11_139 (ci := 11) rfl rfl (k_M s4) rfl rfl (Nat.le_of_ble_eq_true rfl) (s_X11_isIn l h1 p2 1 20 s4 (by omega) (by omega) (by omega)) (rm_ok (by decide) (by decide)) (zq_i fun v15 h16 q14 => ?_)
          obtain ⟨rfl, ⟨rfl, b17⟩ | ⟨rfl, b17⟩⟩ := q14
          · refine zj_if_eq (t := 54) (zdk ttX11_arm 24 rfl rfl) (by decide) (by decide) (fun c18 => ?_) (fun c18 => ?_)
            · refine zj_iconst (zdk ttX11_arm 29 rfl rfl) ?_
              have f19 : zfr [0, 53] [31, 32] h h1 := zfr_wf (zfr_r _ _ _) e2 rfl
              exact zj_iret rfl (zdk ttX11_arm 30 rfl rfl) (Nat.le_refl _) (Nat.le_refl _) ⟨(-1), rfl, by omega, s4, f19⟩
            · exact absurd c18 (by omega)
          · refine zj_if_eq (t := 54) (zdk ttX11_arm 24 rfl rfl) (by decide) (by decide) (fun c20 => ?_) (fun c20 => ?_)
            · exact absurd c20 (by omega)
            · refine zj_aload_n (zdk ttX11_arm 25 rfl rfl) rfl (by decide) ?_
              have b21 : 0 ≤ (h.2 0 53) ∧ (h.2 0 53) ≤ 6 := fM_53 s0
              refine zj_geti (v := (h.2 0 53)) (zdk ttX11_arm 26 rfl rfl) zf_RX11_445 rfl (k_M s4) (zwr_r e2 (by first | decide | exact (absurd ·.1 (by decide)) | exact (absurd ·.2 (by decide)) | omega)) ?_
              refine zj_bipush (zdk ttX11_arm 27 rfl rfl) (by decide) ?_
              refine zj_icmp_ne (t := 56) (zdk ttX11_arm 28 rfl rfl) (by decide) (by omega) (by decide) (fun c22 => ?_) (fun c22 => ?_)
              · refine zj_aload_n (zdk ttX11_arm 31 rfl rfl) rfl (by decide) ?_
                refine zj_getr (r := 31) (zdk ttX11_arm 32 rfl rfl) zf_RX11_105 rfl (k_M s4) (rfM_54 s4) ?_
                refine zj_aload_n (zdk ttX11_arm 33 rfl rfl) rfl (by decide) ?_
                refine zj_geti (v := (h.2 0 53)) (zdk ttX11_arm 34 rfl rfl) zf_RX11_445 rfl (k_M s4) (zwr_r e2 (by first | decide | exact (absurd ·.1 (by decide)) | exact (absurd ·.2 (by decide)) | omega)) ?_
                refine zj_iload_n (zdk ttX11_arm 35 rfl rfl) rfl ?_
                refine zj_iast (zdk ttX11_arm 36 rfl rfl) (kaM_31 s4) (by decide) (by omega) (fun h23 e24 => ?_)
                refine zj_aload_n (zdk ttX11_arm 37 rfl rfl) rfl (by decide) ?_
                have s25 : okM h23 := awM_31 s4 e24 (by omega) (by unfold nsp; omega)
                refine zj_getr (r := 32) (zdk ttX11_arm 38 rfl rfl) zf_RX11_108 rfl (k_M s25) (rfM_55 s25) ?_
                refine zj_aload_n (zdk ttX11_arm 39 rfl rfl) rfl (by decide) ?_
                refine zj_geti (v := (h.2 0 53)) (zdk ttX11_arm 40 rfl rfl) zf_RX11_445 rfl (k_M s25) ((zwr_r e24 (by first | decide | exact (absurd ·.1 (by decide)) | exact (absurd ·.2 (by decide)) | omega)).trans (zwr_r e2 (by first | decide | exact (absurd ·.1 (by decide)) | exact (absurd ·.2 (by decide)) | omega))) ?_
                refine zj_iload_n (zdk ttX11_arm 41 rfl rfl) rfl ?_
                refine zj_iast (zdk ttX11_arm 42 rfl rfl) (kaM_32 s25) (by decide) (by omega) (fun h26 e27 => ?_)
                refine zj_aload_n (zdk ttX11_arm 43 rfl rfl) rfl (by decide) ?_
                refine zj_aload_n (zdk ttX11_arm 44 rfl rfl) rfl (by decide) ?_
                have s28 : okM h26 := awM_32 s25 e27 (by omega) (by unfold nsp; omega)
                refine zj_geti (v := (h.2 0 53)) (zdk ttX11_arm 45 rfl rfl) zf_RX11_445 rfl (k_M s28) (((zwr_r e27 (by first | decide | exact (absurd ·.1 (by decide)) | exact (absurd ·.2 (by decide)) | omega)).trans (zwr_r e24 (by first | decide | exact (absurd ·.1 (by decide)) | exact (absurd ·.2 (by decide)) | omega))).trans (zwr_r e2 (by first | decide | exact (absurd ·.1 (by decide)) | exact (absurd ·.2 (by decide)) | omega))) ?_
                refine zj_iconst (zdk ttX11_arm 46 rfl rfl) ?_
                refine zj_iadd (zdk ttX11_arm 47 rfl rfl) ?_
                refine zj_puti (zdk ttX11_arm 48 rfl rfl) zf_RX11_445 rfl (k_M s28) (Or.inl zw_RX11_445) (k2 := 53) rfl (fun h29 e30 => ?_)
                refine zj_aload_n (zdk ttX11_arm 49 rfl rfl) rfl (by decide) ?_
                have s31 : okM h29 := fwM_53 s28 e30 (by omega)
                refine zj_geti (v := ((h.2 0 53) + 1)) (zdk ttX11_arm 50 rfl rfl) zf_RX11_445 rfl (k_M s31) (zwr_v e30) ?_
                have f35 : zfr [0, 53] [31, 32] h h1 := zfr_wf (zfr_r _ _ _) e2 rfl
                have f34 : zfr [0, 53] [31, 32] h h23 := zfr_wa f35 e24 rfl
                have f33 : zfr [0, 53] [31, 32] h h26 := zfr_wa f34 e27 rfl
                have f32 : zfr [0, 53] [31, 32] h h29 := zfr_wf f33 e30 rfl
                exact zj_iret rfl (zdk ttX11_arm 51 rfl rfl) (Nat.le_refl _) (Nat.le_refl _) ⟨((h.2 0 53) + 1), rfl, by omega, s31, f32⟩
              · refine zj_iconst (zdk ttX11_arm 29 rfl rfl) ?_
                have f36 : zfr [0, 53] [31, 32] h h1 := zfr_wf (zfr_r _ _ _) e2 rfl
                exact zj_iret rfl (zdk ttX11_arm 30 rfl rfl) (Nat.le_refl _) (Nat.le_refl _) ⟨(-1), rfl, by omega, s4, f36⟩
  · refine zj_aload_n (zdk ttX11_arm 6 rfl rfl) rfl (by decide) ?_
    refine zj_iconst (zdk ttX11_arm 7 rfl rfl) ?_
    have s37 : okM h1 := fwM_0 s0 e2 (by omega)
    refine zj_puti (zdk ttX11_arm 8 rfl rfl) zf_RX11_445 rfl (k_M s37) (Or.inl zw_RX11_445) (k2 := 53) rfl (fun h38 e39 => ?_)
    refine zj_iconst (zdk ttX11_arm 9 rfl rfl) ?_
    have s40 : okM h38 := fwM_53 s37 e39 (by omega)
    have f42 : zfr [0, 53] [31, 32] h h1 := zfr_wf (zfr_r _ _ _) e2 rfl
    have f41 : zfr [0, 53] [31, 32] h h38 := zfr_wf f42 e39 rfl
    exact zj_iret rfl (zdk ttX11_arm 10 rfl rfl) (Nat.le_refl _) (Nat.le_refl _) ⟨0, rfl, by omega, s40, f41⟩

abbrev tX11_isLevel : List (Nat × Instr × Nat) := [(0, .iload_n 1, 1), (1, .istore_n 2, 1), (2, .iconst 0, 1), (3, .istore_n 3, 1), (4, .iconst 0, 1), (5, .istore 4, 2), (7, .iconst 0, 1), (8, .istore 5, 2), (10, .iload 5, 2), (12, .aload_n 0, 1), (13, .getfield 425, 3), (16, .if_icmp .ge 56, 3), (19, .aload_n 0, 1), (20, .iload_n 3, 1), (21, .iload_n 2, 1), (22, .bipush 7, 2), (24, .irem, 1), (25, .invokevirtual 309, 3), (28, .ifCond .eq 5, 3), (31, .iconst 0, 1), (32, .ireturn, 1), (33, .iload_n 3, 1), (34, .iconst 1, 1), (35, .iload_n 2, 1), (36, .bipush 7, 2), (38, .irem, 1), (39, .ishl, 1), (40, .ior, 1), (41, .istore_n 3, 1), (42, .iload 4, 2), (44, .aload_n 0, 1), (45, .getfield 96, 3), (48, .iload 5, 2), (50, .iaload, 1), (51, .iload_n 2, 1), (52, .bipush 7, 2), (54, .irem, 1), (55, .iconst 3, 1), (56, .isub, 1), (57, .imul, 1), (58, .iadd, 1), (59, .istore 4, 2), (61, .iload_n 2, 1), (62, .bipush 7, 2), (64, .idiv, 1), (65, .istore_n 2, 1), (66, .iinc 5 1, 3), (69, .goto (-59), 3), (72, .iload 4, 2), (74, .ifCond .ne 7, 3), (77, .iconst 1, 1), (78, .goto 4, 3), (81, .iconst 0, 1), (82, .ireturn, 1)]
theorem ttX11_isLevel : zdt cX11_isLevel tX11_isLevel = true := by decide +kernel
abbrev q_X11_isLevel (h : zM) (p1 : Int) : Option zV → zM → Prop := zqi fun v h' => h = h' ∧ (0 ≤ v ∧ v ≤ 1)
set_option maxRecDepth 100000 in
set_option maxHeartbeats 4000000 in
theorem s_X11_isLevel (l : Launch) (h : zM) (p1 : Int) (s0 : okM h) (b_p1 : 0 ≤ p1 ∧ p1 ≤ 2147483647) : zT shM l yX11_isLevel cX11_isLevel 6 (some .boolean) (rmL 2) 0 0 [.inr 0, .inl p1] h (q_X11_isLevel h p1) := by
  refine zT_of (by decide +kernel) (L0 := [some (.inr 0), some (.inl p1), none, none, none, none]) rfl (Nat.le_of_ble_eq_true rfl) ?_
  refine zj_iload_n (zdk ttX11_isLevel 0 rfl rfl) rfl ?_
  refine zj_istore_n (L' := [some (.inr 0), some (.inl p1), some (.inl p1), none, none, none]) (zdk ttX11_isLevel 1 rfl rfl) (by decide) rfl ?_
  refine zj_iconst (zdk ttX11_isLevel 2 rfl rfl) ?_
  refine zj_istore_n (L' := [some (.inr 0), some (.inl p1), some (.inl p1), some (.inl 0), none, none]) (zdk ttX11_isLevel 3 rfl rfl) (by decide) rfl ?_
  refine zj_iconst (zdk ttX11_isLevel 4 rfl rfl) ?_
  refine zj_istore (L' := [some (.inr 0), some (.inl p1), some (.inl p1), some (.inl 0), some (.inl 0), none]) (zdk ttX11_isLevel 5 rfl rfl) (by decide) rfl ?_
  refine zj_iconst (zdk ttX11_isLevel 6 rfl rfl) ?_
  refine zj_istore (L' := [some (.inr 0), some (.inl p1), some (.inl p1), some (.inl 0), some (.inl 0), some (.inl 0)]) (zdk ttX11_isLevel 7 rfl rfl) (by decide) rfl ?_
  have lp95 : ∀ (n10 : Nat) (x1 x2 x3 x4 : Int), (0 ≤ x1 ∧ x1 ≤ 2147483647) → (0 ≤ x2 ∧ x2 ≤ 127) → (-2147483648 ≤ x3 ∧ x3 ≤ 2147483647) → (0 ≤ x4 ∧ x4 ≤ 7) → (8 - x4).toNat < n10 → zJ shM l yX11_isLevel cX11_isLevel 6 (some .boolean) (rmL 2) 0 0 (q_X11_isLevel h p1) 0 0 10 [some (.inr 0), some (.inl p1), some (.inl x1), some (.inl x2), some (.inl x3), some (.inl x4)] [] h := by
    intro n10
    induction n10 with
    | zero => intro x1 x2 x3 x4 b96 b97 b98 b99 m100; exact absurd m100 (Nat.not_lt_zero _)
    | succ n10 ih101 =>
      intro x1 x2 x3 x4 b96 b97 b98 b99 m100
      refine zj_iload (zdk ttX11_isLevel 8 rfl rfl) rfl ?_
      refine zj_aload_n (zdk ttX11_isLevel 9 rfl rfl) rfl (by decide) ?_
      have b102 : 0 ≤ (h.2 0 49) ∧ (h.2 0 49) ≤ 7 := fM_49 s0
      refine zj_geti (v := (h.2 0 49)) (zdk ttX11_isLevel 10 rfl rfl) zf_RX11_425 rfl (k_M s0) rfl ?_
      refine zj_icmp_ge (t := 72) (zdk ttX11_isLevel 11 rfl rfl) (by decide) (by omega) (by omega) (fun c103 => ?_) (fun c103 => ?_)
      · refine zj_iload (zdk ttX11_isLevel 48 rfl rfl) rfl ?_
        refine zj_if_ne (t := 81) (zdk ttX11_isLevel 49 rfl rfl) (by decide) (by omega) (fun c104 => ?_) (fun c104 => ?_)
        · refine zj_iconst (zdk ttX11_isLevel 52 rfl rfl) ?_
          exact zj_zret rfl (zdk ttX11_isLevel 53 rfl rfl) (Nat.le_refl _) (Nat.le_refl _) (by omega) ⟨0, rfl, rfl, by omega⟩
        · refine zj_iconst (zdk ttX11_isLevel 50 rfl rfl) ?_
          refine zj_goto (t := 82) (zdk ttX11_isLevel 51 rfl rfl) (by decide) ?_
          exact zj_zret rfl (zdk ttX11_isLevel 53 rfl rfl) (Nat.le_refl _) (Nat.le_refl _) (by omega) ⟨1, rfl, rfl, by omega⟩
      · refine zj_aload_n (zdk ttX11_isLevel 12 rfl rfl) rfl (by decide) ?_
        refine zj_iload_n (zdk ttX11_isLevel 13 rfl rfl) rfl ?_
        refine zj_iload_n (zdk ttX11_isLevel 14 rfl rfl) rfl ?_
        refine zj_bipush (zdk ttX11_isLevel 15 rfl rfl) (by decide) ?_
        refine zj_iremP (zdk ttX11_isLevel 16 rfl rfl) (by omega) (by omega) ?_
        refine zj_callV (av := [.inl x2, .inl (x1 % 7)]) (st := []) (zdk ttX11_isLevel 17 rfl rfl) mb_X11_has mv_RX11_309 (ci := 11) rfl rfl (k_M s0) rfl rfl (Nat.le_of_ble_eq_true rfl) (s_X11_has l h x2 (x1 % 7) s0 (by omega) (by omega)) (rm_ok (by decide) (by decide)) (zq_i fun v106 h107 q105 => ?_)
        obtain ⟨rfl, ⟨rfl, b108⟩ | ⟨rfl, b108⟩⟩ := q105
        · refine zj_if_eq (t := 33) (zdk ttX11_isLevel 18 rfl rfl) (by decide) (by decide) (fun c109 => ?_) (fun c109 => ?_)
          · refine zj_iload_n (zdk ttX11_isLevel 21 rfl rfl) rfl ?_
            refine zj_iconst (zdk ttX11_isLevel 22 rfl rfl) ?_
            refine zj_iload_n (zdk ttX11_isLevel 23 rfl rfl) rfl ?_
            refine zj_bipush (zdk ttX11_isLevel 24 rfl rfl) (by decide) ?_
            refine zj_iremP (zdk ttX11_isLevel 25 rfl rfl) (by omega) (by omega) ?_
            refine zj_ishl (zdk ttX11_isLevel 26 rfl rfl) ?_
            have b110 := zshl_1 (n := (x1 % 7)) (a := 0) (b := 6) (lo := 1) (hi := 64) (by omega) (by decide) (by decide) (by decide)
            refine zj_ior (zdk ttX11_isLevel 27 rfl rfl) ?_
            have b111 := zor_k (a := x2) (b := (zshl 1 (x1 % 7))) (K := 128) 7 (by decide) (by decide) (by omega) (by omega)
            refine zj_istore_n (L' := [some (.inr 0), some (.inl p1), some (.inl x1), some (.inl (zor x2 (zshl 1 (x1 % 7)))), some (.inl x3), some (.inl x4)]) (zdk ttX11_isLevel 28 rfl rfl) (by decide) rfl ?_
            refine zj_iload (zdk ttX11_isLevel 29 rfl rfl) rfl ?_
            refine zj_aload_n (zdk ttX11_isLevel 30 rfl rfl) rfl (by decide) ?_
            refine zj_getr (r := 28) (zdk ttX11_isLevel 31 rfl rfl) zf_RX11_96 rfl (k_M s0) (rfM_50 s0) ?_
            refine zj_iload (zdk ttX11_isLevel 32 rfl rfl) rfl ?_
            have b112 : -2147483648 ≤ (h.2 28 x4) ∧ (h.2 28 x4) ≤ 2147483647 := abM_28 s0 x4
            refine zj_iald (v := (h.2 28 x4)) (zdk ttX11_isLevel 33 rfl rfl) (kaM_28 s0) (by decide) (by omega) rfl ?_
            refine zj_iload_n (zdk ttX11_isLevel 34 rfl rfl) rfl ?_
            refine zj_bipush (zdk ttX11_isLevel 35 rfl rfl) (by decide) ?_
            refine zj_iremP (zdk ttX11_isLevel 36 rfl rfl) (by omega) (by omega) ?_
            refine zj_iconst (zdk ttX11_isLevel 37 rfl rfl) ?_
            refine zj_isub (zdk ttX11_isLevel 38 rfl rfl) ?_
            refine zj_imul (zdk ttX11_isLevel 39 rfl rfl) ?_
            refine zj_wrap ?_
            have b113 := zwp_in ((h.2 28 x4) * ((x1 % 7) - 3))
            refine zj_iadd (zdk ttX11_isLevel 40 rfl rfl) ?_
            refine zj_wrap ?_
            have b114 := zwp_in (x3 + (zwp ((h.2 28 x4) * ((x1 % 7) - 3))))
            refine zj_istore (L' := [some (.inr 0), some (.inl p1), some (.inl x1), some (.inl (zor x2 (zshl 1 (x1 % 7)))), some (.inl (zwp (x3 + (zwp ((h.2 28 x4) * ((x1 % 7) - 3)))))), some (.inl x4)]) (zdk ttX11_isLevel 41 rfl rfl) (by decide) rfl ?_
            refine zj_iload_n (zdk ttX11_isLevel 42 rfl rfl) rfl ?_
            refine zj_bipush (zdk ttX11_isLevel 43 rfl rfl) (by decide) ?_
            refine zj_idivP (zdk ttX11_isLevel 44 rfl rfl) (by omega) (by omega) ?_
            refine zj_istore_n (L' := [some (.inr 0), some (.inl p1), some (.inl (x1 / 7)), some (.inl (zor x2 (zshl 1 (x1 % 7)))), some (.inl (zwp (x3 + (zwp ((h.2 28 x4) * ((x1 % 7) - 3)))))), some (.inl x4)]) (zdk ttX11_isLevel 45 rfl rfl) (by decide) rfl ?_
            refine zj_iinc (L' := [some (.inr 0), some (.inl p1), some (.inl (x1 / 7)), some (.inl (zor x2 (zshl 1 (x1 % 7)))), some (.inl (zwp (x3 + (zwp ((h.2 28 x4) * ((x1 % 7) - 3)))))), some (.inl (x4 + 1))]) (zdk ttX11_isLevel 46 rfl rfl) rfl (by decide) rfl ?_
            refine zj_goto (t := 10) (zdk ttX11_isLevel 47 rfl rfl) (by decide) ?_
            exact ih101  (x1 / 7) (zor x2 (zshl 1 (x1 % 7))) (zwp (x3 + (zwp ((h.2 28 x4) * ((x1 % 7) - 3))))) (x4 + 1) (by omega) (by omega) (by omega) (by omega) (by omega)
          · exact absurd c109 (by omega)
        · refine zj_if_eq (t := 33) (zdk ttX11_isLevel 18 rfl rfl) (by decide) (by decide) (fun c115 => ?_) (fun c115 => ?_)
          · exact absurd c115 (by omega)
          · refine zj_iconst (zdk ttX11_isLevel 19 rfl rfl) ?_
            exact zj_zret rfl (zdk ttX11_isLevel 20 rfl rfl) (Nat.le_refl _) (Nat.le_refl _) (by omega) ⟨0, rfl, rfl, by omega⟩
  exact lp95 _ p1 0 0 0 (by omega) (by omega) (by omega) (by omega) (Nat.lt_succ_self _)

abbrev tX11_level : List (Nat × Instr × Nat) := [(0, .aload_n 0, 1), (1, .iconst 0, 1), (2, .putfield 120, 3), (5, .iconst 1, 1), (6, .istore_n 1, 1), (7, .iconst 0, 1), (8, .istore_n 2, 1), (9, .iload_n 2, 1), (10, .aload_n 0, 1), (11, .getfield 425, 3), (14, .if_icmp .ge 14, 3), (17, .iload_n 1, 1), (18, .bipush 7, 2), (20, .imul, 1), (21, .istore_n 1, 1), (22, .iinc 2 1, 3), (25, .goto (-16), 3), (28, .iconst 0, 1), (29, .istore_n 2, 1), (30, .iconst 0, 1), (31, .istore_n 3, 1), (32, .iload_n 3, 1), (33, .iload_n 1, 1), (34, .if_icmp .ge 21, 3), (37, .aload_n 0, 1), (38, .iload_n 3, 1), (39, .invokevirtual 428, 3), (42, .ifCond .eq 7, 3), (45, .iload_n 2, 1), (46, .iconst 1, 1), (47, .iadd, 1), (48, .istore_n 2, 1), (49, .iinc 3 1, 3), (52, .goto (-20), 3), (55, .iload_n 2, 1), (56, .ireturn, 1)]
theorem ttX11_level : zdt cX11_level tX11_level = true := by decide +kernel
abbrev q_X11_level (h : zM) : Option zV → zM → Prop := zqi fun v h' => ((-2147483648) ≤ v ∧ v ≤ 2147483647) ∧ okM h' ∧ zfr [0] [] h h'
set_option maxRecDepth 100000 in
set_option maxHeartbeats 4000000 in
theorem s_X11_level (l : Launch) (h : zM) (s0 : okM h) : zT shM l yX11_level cX11_level 4 (some .int) (rmL 3) 0 0 [.inr 0] h (q_X11_level h) := by
  refine zT_of (by decide +kernel) (L0 := [some (.inr 0), none, none, none]) rfl (Nat.le_of_ble_eq_true rfl) ?_
  refine zj_aload_n (zdk ttX11_level 0 rfl rfl) rfl (by decide) ?_
  refine zj_iconst (zdk ttX11_level 1 rfl rfl) ?_
  refine zj_puti (zdk ttX11_level 2 rfl rfl) zf_RX11_120 rfl (k_M s0) (Or.inl zw_RX11_120) (k2 := 0) rfl (fun h1 e2 => ?_)
  refine zj_iconst (zdk ttX11_level 3 rfl rfl) ?_
  refine zj_istore_n (L' := [some (.inr 0), some (.inl 1), none, none]) (zdk ttX11_level 4 rfl rfl) (by decide) rfl ?_
  refine zj_iconst (zdk ttX11_level 5 rfl rfl) ?_
  refine zj_istore_n (L' := [some (.inr 0), some (.inl 1), some (.inl 0), none]) (zdk ttX11_level 6 rfl rfl) (by decide) rfl ?_
  have lp22 : ∀ (n9 : Nat) (x3 x4 : Int), (-2147483648 ≤ x3 ∧ x3 ≤ 2147483647) → (0 ≤ x4 ∧ x4 ≤ 7) → (8 - x4).toNat < n9 → zJ shM l yX11_level cX11_level 4 (some .int) (rmL 3) 0 0 (q_X11_level h) 0 0 9 [some (.inr 0), some (.inl x3), some (.inl x4), none] [] h1 := by
    intro n9
    induction n9 with
    | zero => intro x3 x4 b23 b24 m25; exact absurd m25 (Nat.not_lt_zero _)
    | succ n9 ih26 =>
      intro x3 x4 b23 b24 m25
      refine zj_iload_n (zdk ttX11_level 7 rfl rfl) rfl ?_
      refine zj_aload_n (zdk ttX11_level 8 rfl rfl) rfl (by decide) ?_
      have b27 : 0 ≤ (h.2 0 49) ∧ (h.2 0 49) ≤ 7 := fM_49 s0
      have s28 : okM h1 := fwM_0 s0 e2 (by omega)
      refine zj_geti (v := (h.2 0 49)) (zdk ttX11_level 9 rfl rfl) zf_RX11_425 rfl (k_M s28) (zwr_r e2 (by first | decide | exact (absurd ·.1 (by decide)) | exact (absurd ·.2 (by decide)) | omega)) ?_
      refine zj_icmp_ge (t := 28) (zdk ttX11_level 10 rfl rfl) (by decide) (by omega) (by omega) (fun c29 => ?_) (fun c29 => ?_)
      · refine zj_iconst (zdk ttX11_level 17 rfl rfl) ?_
        refine zj_istore_n (L' := [some (.inr 0), some (.inl x3), some (.inl 0), none]) (zdk ttX11_level 18 rfl rfl) (by decide) rfl ?_
        refine zj_iconst (zdk ttX11_level 19 rfl rfl) ?_
        refine zj_istore_n (L' := [some (.inr 0), some (.inl x3), some (.inl 0), some (.inl 0)]) (zdk ttX11_level 20 rfl rfl) (by decide) rfl ?_
        have lp83 : ∀ (n32 : Nat) (x31 x32 : Int), (-2147483648 ≤ x31 ∧ x31 ≤ 2147483647) → (0 ≤ x32 ∧ x32 ≤ 2147483647) → (x3 - x32).toNat < n32 → zJ shM l yX11_level cX11_level 4 (some .int) (rmL 3) 0 0 (q_X11_level h) 0 0 32 [some (.inr 0), some (.inl x3), some (.inl x31), some (.inl x32)] [] h1 := by
          intro n32
          induction n32 with
          | zero => intro x31 x32 b84 b85 m86; exact absurd m86 (Nat.not_lt_zero _)
          | succ n32 ih87 =>
            intro x31 x32 b84 b85 m86
            refine zj_iload_n (zdk ttX11_level 21 rfl rfl) rfl ?_
            refine zj_iload_n (zdk ttX11_level 22 rfl rfl) rfl ?_
            refine zj_icmp_ge (t := 55) (zdk ttX11_level 23 rfl rfl) (by decide) (by omega) (by omega) (fun c88 => ?_) (fun c88 => ?_)
            · refine zj_iload_n (zdk ttX11_level 34 rfl rfl) rfl ?_
              have f89 : zfr [0] [] h h1 := zfr_wf (zfr_r _ _ _) e2 rfl
              exact zj_iret rfl (zdk ttX11_level 35 rfl rfl) (Nat.le_refl _) (Nat.le_refl _) ⟨x31, rfl, by omega, s28, f89⟩
            · refine zj_aload_n (zdk ttX11_level 24 rfl rfl) rfl (by decide) ?_
              refine zj_iload_n (zdk ttX11_level 25 rfl rfl) rfl ?_
              refine zj_callV (av := [.inl x32]) (st := []) (zdk ttX11_level 26 rfl rfl) mb_X11_isLevel mv_RX11_428 (ci := 11) rfl rfl (k_M s28) rfl rfl (Nat.le_of_ble_eq_true rfl) (s_X11_isLevel l h1 x32 s28 (by omega)) (rm_ok (by decide) (by decide)) (zq_i fun v91 h92 q90 => ?_)
              obtain ⟨rfl, b93⟩ := q90
              refine zj_if_eq (t := 49) (zdk ttX11_level 27 rfl rfl) (by decide) (by omega) (fun c94 => ?_) (fun c94 => ?_)
              · refine zj_iinc (L' := [some (.inr 0), some (.inl x3), some (.inl x31), some (.inl (x32 + 1))]) (zdk ttX11_level 32 rfl rfl) rfl (by decide) rfl ?_
                refine zj_goto (t := 32) (zdk ttX11_level 33 rfl rfl) (by decide) ?_
                exact ih87  x31 (x32 + 1) (by omega) (by omega) (by omega)
              · refine zj_iload_n (zdk ttX11_level 28 rfl rfl) rfl ?_
                refine zj_iconst (zdk ttX11_level 29 rfl rfl) ?_
                refine zj_iadd (zdk ttX11_level 30 rfl rfl) ?_
                refine zj_wrap ?_
                have b95 := zwp_in (x31 + 1)
                refine zj_istore_n (L' := [some (.inr 0), some (.inl x3), some (.inl (zwp (x31 + 1))), some (.inl x32)]) (zdk ttX11_level 31 rfl rfl) (by decide) rfl ?_
                refine zj_iinc (L' := [some (.inr 0), some (.inl x3), some (.inl (zwp (x31 + 1))), some (.inl (x32 + 1))]) (zdk ttX11_level 32 rfl rfl) rfl (by decide) rfl ?_
                refine zj_goto (t := 32) (zdk ttX11_level 33 rfl rfl) (by decide) ?_
                exact ih87  (zwp (x31 + 1)) (x32 + 1) (by omega) (by omega) (by omega)
        exact lp83 _ 0 0 (by omega) (by omega) (Nat.lt_succ_self _)
      · refine zj_iload_n (zdk ttX11_level 11 rfl rfl) rfl ?_
        refine zj_bipush (zdk ttX11_level 12 rfl rfl) (by decide) ?_
        refine zj_imul (zdk ttX11_level 13 rfl rfl) ?_
        refine zj_wrap ?_
        have b96 := zwp_in (x3 * 7)
        refine zj_istore_n (L' := [some (.inr 0), some (.inl (zwp (x3 * 7))), some (.inl x4), none]) (zdk ttX11_level 14 rfl rfl) (by decide) rfl ?_
        refine zj_iinc (L' := [some (.inr 0), some (.inl (zwp (x3 * 7))), some (.inl (x4 + 1)), none]) (zdk ttX11_level 15 rfl rfl) rfl (by decide) rfl ?_
        refine zj_goto (t := 9) (zdk ttX11_level 16 rfl rfl) (by decide) ?_
        exact ih26  (zwp (x3 * 7)) (x4 + 1) (by omega) (by omega) (by omega)
  exact lp22 _ 1 0 (by omega) (by omega) (Nat.lt_succ_self _)

abbrev tX11_against : List (Nat × Instr × Nat) := [(0, .aload_n 0, 1), (1, .iconst 0, 1), (2, .putfield 120, 3), (5, .aload_n 0, 1), (6, .iload_n 1, 1), (7, .iconst 2, 1), (8, .bipush 16, 2), (10, .invokevirtual 139, 3), (13, .ifCond .eq 27, 3), (16, .aload_n 0, 1), (17, .iload_n 2, 1), (18, .iconst 0, 1), (19, .sipush 999, 3), (22, .invokevirtual 139, 3), (25, .ifCond .eq 15, 3), (28, .aload_n 0, 1), (29, .iload_n 3, 1), (30, .iconst 0, 1), (31, .iload_n 1, 1), (32, .iconst 1, 1), (33, .isub, 1), (34, .invokevirtual 139, 3), (37, .ifCond .ne 5, 3), (40, .iconst (-1), 1), (41, .ireturn, 1), (42, .iload_n 1, 1), (43, .iconst 2, 1), (44, .irem, 1), (45, .ifCond .ne 9, 3), (48, .iload_n 1, 1), (49, .iconst 1, 1), (50, .isub, 1), (51, .goto 4, 3), (54, .iload_n 1, 1), (55, .istore 4, 2), (57, .iconst (-1), 1), (58, .istore 5, 2), (60, .iconst 0, 1), (61, .istore 6, 2), (63, .iload 6, 2), (65, .iload 4, 2), (67, .if_icmp .ge 69, 3), (70, .iload_n 3, 1), (71, .iload 4, 2), (73, .if_icmp .ne 22, 3), (76, .iload 6, 2), (78, .iload 6, 2), (80, .iadd, 1), (81, .iload 4, 2), (83, .irem, 1), (84, .iload_n 2, 1), (85, .iload 4, 2), (87, .irem, 1), (88, .if_icmp .ne 7, 3), (91, .iload 6, 2), (93, .istore 5, 2), (95, .iload_n 3, 1), (96, .iload 4, 2), (98, .if_icmp .ge 32, 3), (101, .iload_n 3, 1), (102, .iload 6, 2), (104, .iadd, 1), (105, .iload 4, 2), (107, .irem, 1), (108, .iload_n 2, 1), (109, .iload 4, 2), (111, .irem, 1), (112, .if_icmp .ne 18, 3), (115, .iload 6, 2), (117, .iload_n 3, 1), (118, .if_icmp .ne 8, 3), (121, .iload 4, 2), (123, .goto 5, 3), (126, .iload 6, 2), (128, .istore 5, 2), (130, .iinc 6 1, 3), (133, .goto (-70), 3), (136, .iload 5, 2), (138, .iload_n 1, 1), (139, .if_icmp .lt 7, 3), (142, .iconst (-1), 1), (143, .goto 5, 3), (146, .iload 5, 2), (148, .ireturn, 1)]
theorem ttX11_against : zdt cX11_against tX11_against = true := by decide +kernel
abbrev q_X11_against (h : zM) (p1 : Int) (p2 : Int) (p3 : Int) : Option zV → zM → Prop := zqi fun v h' => ((-2147483648) ≤ v ∧ v ≤ 2147483647) ∧ okM h' ∧ zfr [0] [] h h'
set_option maxRecDepth 100000 in
set_option maxHeartbeats 4000000 in
theorem s_X11_against (l : Launch) (h : zM) (p1 : Int) (p2 : Int) (p3 : Int) (s0 : okM h) (b_p1 : (-2147483648) ≤ p1 ∧ p1 ≤ 2147483647) (b_p2 : (-2147483648) ≤ p2 ∧ p2 ≤ 2147483647) (b_p3 : (-2147483648) ≤ p3 ∧ p3 ≤ 2147483647) : zT shM l yX11_against cX11_against 7 (some .int) (rmL 2) 0 0 [.inr 0, .inl p1, .inl p2, .inl p3] h (q_X11_against h p1 p2 p3) := by
  refine zT_of (by decide +kernel) (L0 := [some (.inr 0), some (.inl p1), some (.inl p2), some (.inl p3), none, none, none]) rfl (Nat.le_of_ble_eq_true rfl) ?_
  refine zj_aload_n (zdk ttX11_against 0 rfl rfl) rfl (by decide) ?_
  refine zj_iconst (zdk ttX11_against 1 rfl rfl) ?_
  refine zj_puti (zdk ttX11_against 2 rfl rfl) zf_RX11_120 rfl (k_M s0) (Or.inl zw_RX11_120) (k2 := 0) rfl (fun h1 e2 => ?_)
  refine zj_aload_n (zdk ttX11_against 3 rfl rfl) rfl (by decide) ?_
  refine zj_iload_n (zdk ttX11_against 4 rfl rfl) rfl ?_
  refine zj_iconst (zdk ttX11_against 5 rfl rfl) ?_
  refine zj_bipush (zdk ttX11_against 6 rfl rfl) (by decide) ?_
  have s3 : okM h1 := fwM_0 s0 e2 (by omega)
  refine zj_callV (av := [.inl p1, .inl 2, .inl 16]) (st := []) (zdk ttX11_against 7 rfl rfl) mb_X11_isIn mv_RX11_139 (ci := 11) rfl rfl (k_M s3) rfl rfl (Nat.le_of_ble_eq_true rfl) (s_X11_isIn l h1 p1 2 16 s3 (by omega) (by omega) (by omega)) (rm_ok (by decide) (by decide)) (zq_i fun v5 h6 q4 => ?_)
  obtain ⟨rfl, ⟨rfl, b7⟩ | ⟨rfl, b7⟩⟩ := q4
  · refine zj_if_eq (t := 40) (zdk ttX11_against 8 rfl rfl) (by decide) (by decide) (fun c8 => ?_) (fun c8 => ?_)
    · refine zj_iconst (zdk ttX11_against 23 rfl rfl) ?_
      have f9 : zfr [0] [] h h1 := zfr_wf (zfr_r _ _ _) e2 rfl
      exact zj_iret rfl (zdk ttX11_against 24 rfl rfl) (Nat.le_refl _) (Nat.le_refl _) ⟨(-1), rfl, by omega, s3, f9⟩
    · exact absurd c8 (by omega)
  · refine zj_if_eq (t := 40) (zdk ttX11_against 8 rfl rfl) (by decide) (by decide) (fun c10 => ?_) (fun c10 => ?_)
    · exact absurd c10 (by omega)
    · refine zj_aload_n (zdk ttX11_against 9 rfl rfl) rfl (by decide) ?_
      refine zj_iload_n (zdk ttX11_against 10 rfl rfl) rfl ?_
      refine zj_iconst (zdk ttX11_against 11 rfl rfl) ?_
      refine zj_sipush (zdk ttX11_against 12 rfl rfl) (by decide) ?_
      refine zj_callV (av := [.inl p2, .inl 0, .inl 999]) (st := []) (zdk ttX11_against 13 rfl rfl) mb_X11_isIn mv_RX11_139 (ci := 11) rfl rfl (k_M s3) rfl rfl (Nat.le_of_ble_eq_true rfl) (s_X11_isIn l h1 p2 0 999 s3 (by omega) (by omega) (by omega)) (rm_ok (by decide) (by decide)) (zq_i fun v12 h13 q11 => ?_)
      obtain ⟨rfl, ⟨rfl, b14⟩ | ⟨rfl, b14⟩⟩ := q11
      · refine zj_if_eq (t := 40) (zdk ttX11_against 14 rfl rfl) (by decide) (by decide) (fun c15 => ?_) (fun c15 => ?_)
        · refine zj_iconst (zdk ttX11_against 23 rfl rfl) ?_
          have f16 : zfr [0] [] h h1 := zfr_wf (zfr_r _ _ _) e2 rfl
          exact zj_iret rfl (zdk ttX11_against 24 rfl rfl) (Nat.le_refl _) (Nat.le_refl _) ⟨(-1), rfl, by omega, s3, f16⟩
        · exact absurd c15 (by omega)
      · refine zj_if_eq (t := 40) (zdk ttX11_against 14 rfl rfl) (by decide) (by decide) (fun c17 => ?_) (fun c17 => ?_)
        · exact absurd c17 (by omega)
        · refine zj_aload_n (zdk ttX11_against 15 rfl rfl) rfl (by decide) ?_
          refine zj_iload_n (zdk ttX11_against 16 rfl rfl) rfl ?_
          refine zj_iconst (zdk ttX11_against 17 rfl rfl) ?_
          refine zj_iload_n (zdk ttX11_against 18 rfl rfl) rfl ?_
          refine zj_iconst (zdk ttX11_against 19 rfl rfl) ?_
          refine zj_isub (zdk ttX11_against 20 rfl rfl) ?_
          refine zj_callV (av := [.inl p3, .inl 0, .inl (p1 - 1)]) (st := []) (zdk ttX11_against 21 rfl rfl) mb_X11_isIn mv_RX11_139 (ci := 11) rfl rfl (k_M s3) rfl rfl (Nat.le_of_ble_eq_true rfl) (s_X11_isIn l h1 p3 0 (p1 - 1) s3 (by omega) (by omega) (by omega)) (rm_ok (by decide) (by decide)) (zq_i fun v19 h20 q18 => ?_)
          obtain ⟨rfl, ⟨rfl, b21⟩ | ⟨rfl, b21⟩⟩ := q18
          · refine zj_if_ne (t := 42) (zdk ttX11_against 22 rfl rfl) (by decide) (by decide) (fun c22 => ?_) (fun c22 => ?_)
            · exact absurd c22 (by omega)
            · refine zj_iconst (zdk ttX11_against 23 rfl rfl) ?_
              have f23 : zfr [0] [] h h1 := zfr_wf (zfr_r _ _ _) e2 rfl
              exact zj_iret rfl (zdk ttX11_against 24 rfl rfl) (Nat.le_refl _) (Nat.le_refl _) ⟨(-1), rfl, by omega, s3, f23⟩
          · refine zj_if_ne (t := 42) (zdk ttX11_against 22 rfl rfl) (by decide) (by decide) (fun c24 => ?_) (fun c24 => ?_)
            · refine zj_iload_n (zdk ttX11_against 25 rfl rfl) rfl ?_
              refine zj_iconst (zdk ttX11_against 26 rfl rfl) ?_
              refine zj_iremP (zdk ttX11_against 27 rfl rfl) (by omega) (by omega) ?_
              have j27 : ∀ (y26 : Int), (1 ≤ y26 ∧ y26 ≤ 16) → zJ shM l yX11_against cX11_against 7 (some .int) (rmL 2) 0 0 (q_X11_against h p1 p2 p3) 0 0 55 [some (.inr 0), some (.inl p1), some (.inl p2), some (.inl p3), none, none, none] [.inl y26] h1 := by
                intro y26 b28
                refine zj_istore (L' := [some (.inr 0), some (.inl p1), some (.inl p2), some (.inl p3), some (.inl y26), none, none]) (zdk ttX11_against 34 rfl rfl) (by decide) rfl ?_
                refine zj_iconst (zdk ttX11_against 35 rfl rfl) ?_
                refine zj_istore (L' := [some (.inr 0), some (.inl p1), some (.inl p2), some (.inl p3), some (.inl y26), some (.inl (-1)), none]) (zdk ttX11_against 36 rfl rfl) (by decide) rfl ?_
                refine zj_iconst (zdk ttX11_against 37 rfl rfl) ?_
                refine zj_istore (L' := [some (.inr 0), some (.inl p1), some (.inl p2), some (.inl p3), some (.inl y26), some (.inl (-1)), some (.inl 0)]) (zdk ttX11_against 38 rfl rfl) (by decide) rfl ?_
                have lp127 : ∀ (n63 : Nat) (x29 x30 : Int), (-1 ≤ x29 ∧ x29 ≤ 16) → (0 ≤ x30 ∧ x30 ≤ 16) → (17 - x30).toNat < n63 → zJ shM l yX11_against cX11_against 7 (some .int) (rmL 2) 0 0 (q_X11_against h p1 p2 p3) 0 0 63 [some (.inr 0), some (.inl p1), some (.inl p2), some (.inl p3), some (.inl y26), some (.inl x29), some (.inl x30)] [] h1 := by
                  intro n63
                  induction n63 with
                  | zero => intro x29 x30 b128 b129 m130; exact absurd m130 (Nat.not_lt_zero _)
                  | succ n63 ih131 =>
                    intro x29 x30 b128 b129 m130
                    refine zj_iload (zdk ttX11_against 39 rfl rfl) rfl ?_
                    refine zj_iload (zdk ttX11_against 40 rfl rfl) rfl ?_
                    refine zj_icmp_ge (t := 136) (zdk ttX11_against 41 rfl rfl) (by decide) (by omega) (by omega) (fun c132 => ?_) (fun c132 => ?_)
                    · refine zj_iload (zdk ttX11_against 77 rfl rfl) rfl ?_
                      refine zj_iload_n (zdk ttX11_against 78 rfl rfl) rfl ?_
                      refine zj_icmp_lt (t := 146) (zdk ttX11_against 79 rfl rfl) (by decide) (by omega) (by omega) (fun c133 => ?_) (fun c133 => ?_)
                      · refine zj_iload (zdk ttX11_against 82 rfl rfl) rfl ?_
                        have f134 : zfr [0] [] h h1 := zfr_wf (zfr_r _ _ _) e2 rfl
                        exact zj_iret rfl (zdk ttX11_against 83 rfl rfl) (Nat.le_refl _) (Nat.le_refl _) ⟨x29, rfl, by omega, s3, f134⟩
                      · refine zj_iconst (zdk ttX11_against 80 rfl rfl) ?_
                        refine zj_goto (t := 148) (zdk ttX11_against 81 rfl rfl) (by decide) ?_
                        have f135 : zfr [0] [] h h1 := zfr_wf (zfr_r _ _ _) e2 rfl
                        exact zj_iret rfl (zdk ttX11_against 83 rfl rfl) (Nat.le_refl _) (Nat.le_refl _) ⟨(-1), rfl, by omega, s3, f135⟩
                    · refine zj_iload_n (zdk ttX11_against 42 rfl rfl) rfl ?_
                      refine zj_iload (zdk ttX11_against 43 rfl rfl) rfl ?_
                      have j141 : ∀ (x140 : Int), (-1 ≤ x140 ∧ x140 ≤ 16) → zJ shM l yX11_against cX11_against 7 (some .int) (rmL 2) 0 0 (q_X11_against h p1 p2 p3) 0 0 95 [some (.inr 0), some (.inl p1), some (.inl p2), some (.inl p3), some (.inl y26), some (.inl x140), some (.inl x30)] [] h1 := by
                        intro x140 b142
                        refine zj_iload_n (zdk ttX11_against 56 rfl rfl) rfl ?_
                        refine zj_iload (zdk ttX11_against 57 rfl rfl) rfl ?_
                        refine zj_icmp_ge (t := 130) (zdk ttX11_against 58 rfl rfl) (by decide) (by omega) (by omega) (fun c143 => ?_) (fun c143 => ?_)
                        · refine zj_iinc (L' := [some (.inr 0), some (.inl p1), some (.inl p2), some (.inl p3), some (.inl y26), some (.inl x140), some (.inl (x30 + 1))]) (zdk ttX11_against 75 rfl rfl) rfl (by decide) rfl ?_
                          refine zj_goto (t := 63) (zdk ttX11_against 76 rfl rfl) (by decide) ?_
                          exact ih131  x140 (x30 + 1) (by omega) (by omega) (by omega)
                        · refine zj_iload_n (zdk ttX11_against 59 rfl rfl) rfl ?_
                          refine zj_iload (zdk ttX11_against 60 rfl rfl) rfl ?_
                          refine zj_iadd (zdk ttX11_against 61 rfl rfl) ?_
                          refine zj_iload (zdk ttX11_against 62 rfl rfl) rfl ?_
                          refine zj_iremP (zdk ttX11_against 63 rfl rfl) (by omega) (by omega) ?_
                          have b144 := zmod_b (x := (p3 + x30)) (b := y26) (by omega) (by omega)
                          refine zj_iload_n (zdk ttX11_against 64 rfl rfl) rfl ?_
                          refine zj_iload (zdk ttX11_against 65 rfl rfl) rfl ?_
                          refine zj_iremP (zdk ttX11_against 66 rfl rfl) (by omega) (by omega) ?_
                          have b145 := zmod_b (x := p2) (b := y26) (by omega) (by omega)
                          refine zj_icmp_ne (t := 130) (zdk ttX11_against 67 rfl rfl) (by decide) (by omega) (by omega) (fun c146 => ?_) (fun c146 => ?_)
                          · refine zj_iinc (L' := [some (.inr 0), some (.inl p1), some (.inl p2), some (.inl p3), some (.inl y26), some (.inl x140), some (.inl (x30 + 1))]) (zdk ttX11_against 75 rfl rfl) rfl (by decide) rfl ?_
                            refine zj_goto (t := 63) (zdk ttX11_against 76 rfl rfl) (by decide) ?_
                            exact ih131  x140 (x30 + 1) (by omega) (by omega) (by omega)
                          · refine zj_iload (zdk ttX11_against 68 rfl rfl) rfl ?_
                            refine zj_iload_n (zdk ttX11_against 69 rfl rfl) rfl ?_
                            refine zj_icmp_ne (t := 126) (zdk ttX11_against 70 rfl rfl) (by decide) (by omega) (by omega) (fun c147 => ?_) (fun c147 => ?_)
                            · refine zj_iload (zdk ttX11_against 73 rfl rfl) rfl ?_
                              refine zj_istore (L' := [some (.inr 0), some (.inl p1), some (.inl p2), some (.inl p3), some (.inl y26), some (.inl x30), some (.inl x30)]) (zdk ttX11_against 74 rfl rfl) (by decide) rfl ?_
                              refine zj_iinc (L' := [some (.inr 0), some (.inl p1), some (.inl p2), some (.inl p3), some (.inl y26), some (.inl x30), some (.inl (x30 + 1))]) (zdk ttX11_against 75 rfl rfl) rfl (by decide) rfl ?_
                              refine zj_goto (t := 63) (zdk ttX11_against 76 rfl rfl) (by decide) ?_
                              exact ih131  x30 (x30 + 1) (by omega) (by omega) (by omega)
                            · refine zj_iload (zdk ttX11_against 71 rfl rfl) rfl ?_
                              refine zj_goto (t := 128) (zdk ttX11_against 72 rfl rfl) (by decide) ?_
                              refine zj_istore (L' := [some (.inr 0), some (.inl p1), some (.inl p2), some (.inl p3), some (.inl y26), some (.inl y26), some (.inl x30)]) (zdk ttX11_against 74 rfl rfl) (by decide) rfl ?_
                              refine zj_iinc (L' := [some (.inr 0), some (.inl p1), some (.inl p2), some (.inl p3), some (.inl y26), some (.inl y26), some (.inl (x30 + 1))]) (zdk ttX11_against 75 rfl rfl) rfl (by decide) rfl ?_
                              refine zj_goto (t := 63) (zdk ttX11_against 76 rfl rfl) (by decide) ?_
                              exact ih131  y26 (x30 + 1) (by omega) (by omega) (by omega)
                      refine zj_icmp_ne (t := 95) (zdk ttX11_against 44 rfl rfl) (by decide) (by omega) (by omega) (fun c136 => ?_) (fun c136 => ?_)
                      · exact j141 x29 (by omega)
                      · refine zj_iload (zdk ttX11_against 45 rfl rfl) rfl ?_
                        refine zj_iload (zdk ttX11_against 46 rfl rfl) rfl ?_
                        refine zj_iadd (zdk ttX11_against 47 rfl rfl) ?_
                        refine zj_iload (zdk ttX11_against 48 rfl rfl) rfl ?_
                        refine zj_iremP (zdk ttX11_against 49 rfl rfl) (by omega) (by omega) ?_
                        have b148 := zmod_b (x := (x30 + x30)) (b := y26) (by omega) (by omega)
                        refine zj_iload_n (zdk ttX11_against 50 rfl rfl) rfl ?_
                        refine zj_iload (zdk ttX11_against 51 rfl rfl) rfl ?_
                        refine zj_iremP (zdk ttX11_against 52 rfl rfl) (by omega) (by omega) ?_
                        have b149 := zmod_b (x := p2) (b := y26) (by omega) (by omega)
                        refine zj_icmp_ne (t := 95) (zdk ttX11_against 53 rfl rfl) (by decide) (by omega) (by omega) (fun c150 => ?_) (fun c150 => ?_)
                        · exact j141 x29 (by omega)
                        · refine zj_iload (zdk ttX11_against 54 rfl rfl) rfl ?_
                          refine zj_istore (L' := [some (.inr 0), some (.inl p1), some (.inl p2), some (.inl p3), some (.inl y26), some (.inl x30), some (.inl x30)]) (zdk ttX11_against 55 rfl rfl) (by decide) rfl ?_
                          exact j141 x30 (by omega)
                exact lp127 _ (-1) 0 (by omega) (by omega) (Nat.lt_succ_self _)
              refine zj_if_ne (t := 54) (zdk ttX11_against 28 rfl rfl) (by decide) (by omega) (fun c25 => ?_) (fun c25 => ?_)
              · refine zj_iload_n (zdk ttX11_against 33 rfl rfl) rfl ?_
                exact j27 p1 (by omega)
              · refine zj_iload_n (zdk ttX11_against 29 rfl rfl) rfl ?_
                refine zj_iconst (zdk ttX11_against 30 rfl rfl) ?_
                refine zj_isub (zdk ttX11_against 31 rfl rfl) ?_
                refine zj_goto (t := 55) (zdk ttX11_against 32 rfl rfl) (by decide) ?_
                exact j27 (p1 - 1) (by omega)
            · exact absurd c24 (by omega)

abbrev tX11_calendar : List (Nat × Instr × Nat) := [(0, .aload_n 0, 1), (1, .iconst 0, 1), (2, .putfield 120, 3), (5, .iload_n 1, 1), (6, .sipush 1000, 3), (9, .idiv, 1), (10, .istore 4, 2), (12, .iload_n 1, 1), (13, .sipush 1000, 3), (16, .irem, 1), (17, .istore 5, 2), (19, .aload_n 0, 1), (20, .iload_n 1, 1), (21, .iconst 0, 1), (22, .ldc_w 444, 3), (25, .invokevirtual 139, 3), (28, .ifCond .eq 45, 3), (31, .aload_n 0, 1), (32, .iload 5, 2), (34, .iconst 1, 1), (35, .sipush 400, 3), (38, .invokevirtual 139, 3), (41, .ifCond .eq 32, 3), (44, .iload 4, 2), (46, .iload 5, 2), (48, .if_icmp .ge 25, 3), (51, .aload_n 0, 1), (52, .iload_n 2, 1), (53, .iconst 0, 1), (54, .sipush 9999, 3), (57, .invokevirtual 139, 3), (60, .ifCond .eq 13, 3), (63, .aload_n 0, 1), (64, .iload_n 3, 1), (65, .iconst 0, 1), (66, .iconst 1, 1), (67, .invokevirtual 139, 3), (70, .ifCond .ne 5, 3), (73, .iconst (-1), 1), (74, .ireturn, 1), (75, .iload_n 3, 1), (76, .ifCond .ne 11, 3), (79, .iload_n 2, 1), (80, .iload 4, 2), (82, .imul, 1), (83, .iload 5, 2), (85, .idiv, 1), (86, .ireturn, 1), (87, .iload_n 2, 1), (88, .ifCond .le 26, 3), (91, .iload_n 2, 1), (92, .iload 4, 2), (94, .imul, 1), (95, .iload 5, 2), (97, .idiv, 1), (98, .iload_n 2, 1), (99, .iconst 1, 1), (100, .isub, 1), (101, .iload 4, 2), (103, .imul, 1), (104, .iload 5, 2), (106, .idiv, 1), (107, .if_icmp .le 7, 3), (110, .iconst 1, 1), (111, .goto 4, 3), (114, .iconst 0, 1), (115, .ireturn, 1)]
theorem ttX11_calendar : zdt cX11_calendar tX11_calendar = true := by decide +kernel
abbrev q_X11_calendar (h : zM) (p1 : Int) (p2 : Int) (p3 : Int) : Option zV → zM → Prop := zqi fun v h' => ((-2147483648) ≤ v ∧ v ≤ 2147483647) ∧ okM h' ∧ zfr [0] [] h h'
set_option maxRecDepth 100000 in
set_option maxHeartbeats 4000000 in
theorem s_X11_calendar (l : Launch) (h : zM) (p1 : Int) (p2 : Int) (p3 : Int) (s0 : okM h) (b_p1 : (-2147483648) ≤ p1 ∧ p1 ≤ 2147483647) (b_p2 : (-2147483648) ≤ p2 ∧ p2 ≤ 2147483647) (b_p3 : (-2147483648) ≤ p3 ∧ p3 ≤ 2147483647) : zT shM l yX11_calendar cX11_calendar 6 (some .int) (rmL 2) 0 0 [.inr 0, .inl p1, .inl p2, .inl p3] h (q_X11_calendar h p1 p2 p3) := by
  refine zT_of (by decide +kernel) (L0 := [some (.inr 0), some (.inl p1), some (.inl p2), some (.inl p3), none, none]) rfl (Nat.le_of_ble_eq_true rfl) ?_
  refine zj_aload_n (zdk ttX11_calendar 0 rfl rfl) rfl (by decide) ?_
  refine zj_iconst (zdk ttX11_calendar 1 rfl rfl) ?_
  refine zj_puti (zdk ttX11_calendar 2 rfl rfl) zf_RX11_120 rfl (k_M s0) (Or.inl zw_RX11_120) (k2 := 0) rfl (fun h1 e2 => ?_)
  refine zj_iload_n (zdk ttX11_calendar 3 rfl rfl) rfl ?_
  refine zj_sipush (zdk ttX11_calendar 4 rfl rfl) (by decide) ?_
  refine zj_idiv (zdk ttX11_calendar 5 rfl rfl) (by omega) (by decide) (by omega) ?_
  have b3 := ztd_c p1 1000 (by decide)
  refine zj_istore (L' := [some (.inr 0), some (.inl p1), some (.inl p2), some (.inl p3), some (.inl (p1.tdiv 1000)), none]) (zdk ttX11_calendar 6 rfl rfl) (by decide) rfl ?_
  refine zj_iload_n (zdk ttX11_calendar 7 rfl rfl) rfl ?_
  refine zj_sipush (zdk ttX11_calendar 8 rfl rfl) (by decide) ?_
  refine zj_irem (zdk ttX11_calendar 9 rfl rfl) (by omega) (by decide) (by omega) ?_
  have b4 := ztm_c p1 1000 (by decide)
  refine zj_istore (L' := [some (.inr 0), some (.inl p1), some (.inl p2), some (.inl p3), some (.inl (p1.tdiv 1000)), some (.inl (p1.tmod 1000))]) (zdk ttX11_calendar 10 rfl rfl) (by decide) rfl ?_
  refine zj_aload_n (zdk ttX11_calendar 11 rfl rfl) rfl (by decide) ?_
  refine zj_iload_n (zdk ttX11_calendar 12 rfl rfl) rfl ?_
  refine zj_iconst (zdk ttX11_calendar 13 rfl rfl) ?_
  refine zj_ldc_w (z := 399400) (zdk ttX11_calendar 14 rfl rfl) wc_RX11_444 ?_
  have s5 : okM h1 := fwM_0 s0 e2 (by omega)
  refine zj_callV (av := [.inl p1, .inl 0, .inl 399400]) (st := []) (zdk ttX11_calendar 15 rfl rfl) mb_X11_isIn mv_RX11_139 (ci := 11) rfl rfl (k_M s5) rfl rfl (Nat.le_of_ble_eq_true rfl) (s_X11_isIn l h1 p1 0 399400 s5 (by omega) (by omega) (by omega)) (rm_ok (by decide) (by decide)) (zq_i fun v7 h8 q6 => ?_)
  obtain ⟨rfl, ⟨rfl, b9⟩ | ⟨rfl, b9⟩⟩ := q6
  · refine zj_if_eq (t := 73) (zdk ttX11_calendar 16 rfl rfl) (by decide) (by decide) (fun c10 => ?_) (fun c10 => ?_)
    · refine zj_iconst (zdk ttX11_calendar 38 rfl rfl) ?_
      have f11 : zfr [0] [] h h1 := zfr_wf (zfr_r _ _ _) e2 rfl
      exact zj_iret rfl (zdk ttX11_calendar 39 rfl rfl) (Nat.le_refl _) (Nat.le_refl _) ⟨(-1), rfl, by omega, s5, f11⟩
    · exact absurd c10 (by omega)
  · refine zj_if_eq (t := 73) (zdk ttX11_calendar 16 rfl rfl) (by decide) (by decide) (fun c12 => ?_) (fun c12 => ?_)
    · exact absurd c12 (by omega)
    · refine zj_aload_n (zdk ttX11_calendar 17 rfl rfl) rfl (by decide) ?_
      refine zj_iload (zdk ttX11_calendar 18 rfl rfl) rfl ?_
      refine zj_iconst (zdk ttX11_calendar 19 rfl rfl) ?_
      refine zj_sipush (zdk ttX11_calendar 20 rfl rfl) (by decide) ?_
      refine zj_callV (av := [.inl (p1.tmod 1000), .inl 1, .inl 400]) (st := []) (zdk ttX11_calendar 21 rfl rfl) mb_X11_isIn mv_RX11_139 (ci := 11) rfl rfl (k_M s5) rfl rfl (Nat.le_of_ble_eq_true rfl) (s_X11_isIn l h1 (p1.tmod 1000) 1 400 s5 (by omega) (by omega) (by omega)) (rm_ok (by decide) (by decide)) (zq_i fun v14 h15 q13 => ?_)
      obtain ⟨rfl, ⟨rfl, b16⟩ | ⟨rfl, b16⟩⟩ := q13
      · refine zj_if_eq (t := 73) (zdk ttX11_calendar 22 rfl rfl) (by decide) (by decide) (fun c17 => ?_) (fun c17 => ?_)
        · refine zj_iconst (zdk ttX11_calendar 38 rfl rfl) ?_
          have f18 : zfr [0] [] h h1 := zfr_wf (zfr_r _ _ _) e2 rfl
          exact zj_iret rfl (zdk ttX11_calendar 39 rfl rfl) (Nat.le_refl _) (Nat.le_refl _) ⟨(-1), rfl, by omega, s5, f18⟩
        · exact absurd c17 (by omega)
      · refine zj_if_eq (t := 73) (zdk ttX11_calendar 22 rfl rfl) (by decide) (by decide) (fun c19 => ?_) (fun c19 => ?_)
        · exact absurd c19 (by omega)
        · refine zj_iload (zdk ttX11_calendar 23 rfl rfl) rfl ?_
          refine zj_iload (zdk ttX11_calendar 24 rfl rfl) rfl ?_
          refine zj_icmp_ge (t := 73) (zdk ttX11_calendar 25 rfl rfl) (by decide) (by omega) (by omega) (fun c20 => ?_) (fun c20 => ?_)
          · refine zj_iconst (zdk ttX11_calendar 38 rfl rfl) ?_
            have f21 : zfr [0] [] h h1 := zfr_wf (zfr_r _ _ _) e2 rfl
            exact zj_iret rfl (zdk ttX11_calendar 39 rfl rfl) (Nat.le_refl _) (Nat.le_refl _) ⟨(-1), rfl, by omega, s5, f21⟩
          · refine zj_aload_n (zdk ttX11_calendar 26 rfl rfl) rfl (by decide) ?_
            refine zj_iload_n (zdk ttX11_calendar 27 rfl rfl) rfl ?_
            refine zj_iconst (zdk ttX11_calendar 28 rfl rfl) ?_
            refine zj_sipush (zdk ttX11_calendar 29 rfl rfl) (by decide) ?_
            refine zj_callV (av := [.inl p2, .inl 0, .inl 9999]) (st := []) (zdk ttX11_calendar 30 rfl rfl) mb_X11_isIn mv_RX11_139 (ci := 11) rfl rfl (k_M s5) rfl rfl (Nat.le_of_ble_eq_true rfl) (s_X11_isIn l h1 p2 0 9999 s5 (by omega) (by omega) (by omega)) (rm_ok (by decide) (by decide)) (zq_i fun v23 h24 q22 => ?_)
            obtain ⟨rfl, ⟨rfl, b25⟩ | ⟨rfl, b25⟩⟩ := q22
            · refine zj_if_eq (t := 73) (zdk ttX11_calendar 31 rfl rfl) (by decide) (by decide) (fun c26 => ?_) (fun c26 => ?_)
              · refine zj_iconst (zdk ttX11_calendar 38 rfl rfl) ?_
                have f27 : zfr [0] [] h h1 := zfr_wf (zfr_r _ _ _) e2 rfl
                exact zj_iret rfl (zdk ttX11_calendar 39 rfl rfl) (Nat.le_refl _) (Nat.le_refl _) ⟨(-1), rfl, by omega, s5, f27⟩
              · exact absurd c26 (by omega)
            · refine zj_if_eq (t := 73) (zdk ttX11_calendar 31 rfl rfl) (by decide) (by decide) (fun c28 => ?_) (fun c28 => ?_)
              · exact absurd c28 (by omega)
              · refine zj_aload_n (zdk ttX11_calendar 32 rfl rfl) rfl (by decide) ?_
                refine zj_iload_n (zdk ttX11_calendar 33 rfl rfl) rfl ?_
                refine zj_iconst (zdk ttX11_calendar 34 rfl rfl) ?_
                refine zj_iconst (zdk ttX11_calendar 35 rfl rfl) ?_
                refine zj_callV (av := [.inl p3, .inl 0, .inl 1]) (st := []) (zdk ttX11_calendar 36 rfl rfl) mb_X11_isIn mv_RX11_139 (ci := 11) rfl rfl (k_M s5) rfl rfl (Nat.le_of_ble_eq_true rfl) (s_X11_isIn l h1 p3 0 1 s5 (by omega) (by omega) (by omega)) (rm_ok (by decide) (by decide)) (zq_i fun v30 h31 q29 => ?_)
                obtain ⟨rfl, ⟨rfl, b32⟩ | ⟨rfl, b32⟩⟩ := q29
                · refine zj_if_ne (t := 75) (zdk ttX11_calendar 37 rfl rfl) (by decide) (by decide) (fun c33 => ?_) (fun c33 => ?_)
                  · exact absurd c33 (by omega)
                  · refine zj_iconst (zdk ttX11_calendar 38 rfl rfl) ?_
                    have f34 : zfr [0] [] h h1 := zfr_wf (zfr_r _ _ _) e2 rfl
                    exact zj_iret rfl (zdk ttX11_calendar 39 rfl rfl) (Nat.le_refl _) (Nat.le_refl _) ⟨(-1), rfl, by omega, s5, f34⟩
                · refine zj_if_ne (t := 75) (zdk ttX11_calendar 37 rfl rfl) (by decide) (by decide) (fun c35 => ?_) (fun c35 => ?_)
                  · refine zj_iload_n (zdk ttX11_calendar 40 rfl rfl) rfl ?_
                    refine zj_if_ne (t := 87) (zdk ttX11_calendar 41 rfl rfl) (by decide) (by omega) (fun c36 => ?_) (fun c36 => ?_)
                    · refine zj_iload_n (zdk ttX11_calendar 48 rfl rfl) rfl ?_
                      refine zj_if_le (t := 114) (zdk ttX11_calendar 49 rfl rfl) (by decide) (by omega) (fun c37 => ?_) (fun c37 => ?_)
                      · refine zj_iconst (zdk ttX11_calendar 65 rfl rfl) ?_
                        have f38 : zfr [0] [] h h1 := zfr_wf (zfr_r _ _ _) e2 rfl
                        exact zj_iret rfl (zdk ttX11_calendar 66 rfl rfl) (Nat.le_refl _) (Nat.le_refl _) ⟨0, rfl, by omega, s5, f38⟩
                      · refine zj_iload_n (zdk ttX11_calendar 50 rfl rfl) rfl ?_
                        refine zj_iload (zdk ttX11_calendar 51 rfl rfl) rfl ?_
                        refine zj_imul (zdk ttX11_calendar 52 rfl rfl) ?_
                        refine zj_wrap ?_
                        have b39 := zwp_in (p2 * (p1.tdiv 1000))
                        refine zj_iload (zdk ttX11_calendar 53 rfl rfl) rfl ?_
                        refine zj_idiv (zdk ttX11_calendar 54 rfl rfl) (by omega) (by omega) (by omega) ?_
                        have b40 := ztd_b (zwp (p2 * (p1.tdiv 1000))) (p1.tmod 1000)
                        refine zj_wrap ?_
                        have b41 := zwp_in ((zwp (p2 * (p1.tdiv 1000))).tdiv (p1.tmod 1000))
                        refine zj_iload_n (zdk ttX11_calendar 55 rfl rfl) rfl ?_
                        refine zj_iconst (zdk ttX11_calendar 56 rfl rfl) ?_
                        refine zj_isub (zdk ttX11_calendar 57 rfl rfl) ?_
                        refine zj_iload (zdk ttX11_calendar 58 rfl rfl) rfl ?_
                        refine zj_imul (zdk ttX11_calendar 59 rfl rfl) ?_
                        refine zj_wrap ?_
                        have b42 := zwp_in ((p2 - 1) * (p1.tdiv 1000))
                        refine zj_iload (zdk ttX11_calendar 60 rfl rfl) rfl ?_
                        refine zj_idiv (zdk ttX11_calendar 61 rfl rfl) (by omega) (by omega) (by omega) ?_
                        have b43 := ztd_b (zwp ((p2 - 1) * (p1.tdiv 1000))) (p1.tmod 1000)
                        refine zj_wrap ?_
                        have b44 := zwp_in ((zwp ((p2 - 1) * (p1.tdiv 1000))).tdiv (p1.tmod 1000))
                        refine zj_icmp_le (t := 114) (zdk ttX11_calendar 62 rfl rfl) (by decide) (by omega) (by omega) (fun c45 => ?_) (fun c45 => ?_)
                        · refine zj_iconst (zdk ttX11_calendar 65 rfl rfl) ?_
                          have f46 : zfr [0] [] h h1 := zfr_wf (zfr_r _ _ _) e2 rfl
                          exact zj_iret rfl (zdk ttX11_calendar 66 rfl rfl) (Nat.le_refl _) (Nat.le_refl _) ⟨0, rfl, by omega, s5, f46⟩
                        · refine zj_iconst (zdk ttX11_calendar 63 rfl rfl) ?_
                          refine zj_goto (t := 115) (zdk ttX11_calendar 64 rfl rfl) (by decide) ?_
                          have f47 : zfr [0] [] h h1 := zfr_wf (zfr_r _ _ _) e2 rfl
                          exact zj_iret rfl (zdk ttX11_calendar 66 rfl rfl) (Nat.le_refl _) (Nat.le_refl _) ⟨1, rfl, by omega, s5, f47⟩
                    · refine zj_iload_n (zdk ttX11_calendar 42 rfl rfl) rfl ?_
                      refine zj_iload (zdk ttX11_calendar 43 rfl rfl) rfl ?_
                      refine zj_imul (zdk ttX11_calendar 44 rfl rfl) ?_
                      refine zj_wrap ?_
                      have b48 := zwp_in (p2 * (p1.tdiv 1000))
                      refine zj_iload (zdk ttX11_calendar 45 rfl rfl) rfl ?_
                      refine zj_idiv (zdk ttX11_calendar 46 rfl rfl) (by omega) (by omega) (by omega) ?_
                      have b49 := ztd_b (zwp (p2 * (p1.tdiv 1000))) (p1.tmod 1000)
                      refine zj_wrap ?_
                      have b50 := zwp_in ((zwp (p2 * (p1.tdiv 1000))).tdiv (p1.tmod 1000))
                      have f51 : zfr [0] [] h h1 := zfr_wf (zfr_r _ _ _) e2 rfl
                      exact zj_iret rfl (zdk ttX11_calendar 47 rfl rfl) (Nat.le_refl _) (Nat.le_refl _) ⟨(zwp ((zwp (p2 * (p1.tdiv 1000))).tdiv (p1.tmod 1000))), rfl, by omega, s5, f51⟩
                  · exact absurd c35 (by omega)

abbrev tX11_meets : List (Nat × Instr × Nat) := [(0, .aload_n 0, 1), (1, .iconst 0, 1), (2, .putfield 120, 3), (5, .aload_n 0, 1), (6, .iload_n 1, 1), (7, .iconst 0, 1), (8, .sipush 499, 3), (11, .invokevirtual 139, 3), (14, .ifCond .eq 40, 3), (17, .aload_n 0, 1), (18, .iload_n 2, 1), (19, .iconst 1, 1), (20, .sipush 500, 3), (23, .invokevirtual 139, 3), (26, .ifCond .eq 28, 3), (29, .aload_n 0, 1), (30, .iload_n 3, 1), (31, .iconst 0, 1), (32, .sipush 499, 3), (35, .invokevirtual 139, 3), (38, .ifCond .eq 16, 3), (41, .aload_n 0, 1), (42, .iload 4, 2), (44, .iconst 1, 1), (45, .sipush 500, 3), (48, .invokevirtual 139, 3), (51, .ifCond .ne 5, 3), (54, .iconst (-1), 1), (55, .ireturn, 1), (56, .iload_n 1, 1), (57, .istore 5, 2), (59, .iconst 0, 1), (60, .istore 6, 2), (62, .iload 6, 2), (64, .sipush 1100, 3), (67, .if_icmp .ge 34, 3), (70, .iload 5, 2), (72, .iload_n 3, 1), (73, .if_icmp .lt 16, 3), (76, .iload 5, 2), (78, .iload_n 3, 1), (79, .isub, 1), (80, .iload 4, 2), (82, .irem, 1), (83, .ifCond .ne 6, 3), (86, .iload 5, 2), (88, .ireturn, 1), (89, .iload 5, 2), (91, .iload_n 2, 1), (92, .iadd, 1), (93, .istore 5, 2), (95, .iinc 6 1, 3), (98, .goto (-36), 3), (101, .iconst (-1), 1), (102, .ireturn, 1)]
theorem ttX11_meets : zdt cX11_meets tX11_meets = true := by decide +kernel
abbrev q_X11_meets (h : zM) (p1 : Int) (p2 : Int) (p3 : Int) (p4 : Int) : Option zV → zM → Prop := zqi fun v h' => ((-2147483648) ≤ v ∧ v ≤ 2147483647) ∧ okM h' ∧ zfr [0] [] h h'
set_option maxRecDepth 100000 in
set_option maxHeartbeats 4000000 in
theorem s_X11_meets (l : Launch) (h : zM) (p1 : Int) (p2 : Int) (p3 : Int) (p4 : Int) (s0 : okM h) (b_p1 : (-2147483648) ≤ p1 ∧ p1 ≤ 2147483647) (b_p2 : (-2147483648) ≤ p2 ∧ p2 ≤ 2147483647) (b_p3 : (-2147483648) ≤ p3 ∧ p3 ≤ 2147483647) (b_p4 : (-2147483648) ≤ p4 ∧ p4 ≤ 2147483647) : zT shM l yX11_meets cX11_meets 7 (some .int) (rmL 2) 0 0 [.inr 0, .inl p1, .inl p2, .inl p3, .inl p4] h (q_X11_meets h p1 p2 p3 p4) := by
  refine zT_of (by decide +kernel) (L0 := [some (.inr 0), some (.inl p1), some (.inl p2), some (.inl p3), some (.inl p4), none, none]) rfl (Nat.le_of_ble_eq_true rfl) ?_
  refine zj_aload_n (zdk ttX11_meets 0 rfl rfl) rfl (by decide) ?_
  refine zj_iconst (zdk ttX11_meets 1 rfl rfl) ?_
  refine zj_puti (zdk ttX11_meets 2 rfl rfl) zf_RX11_120 rfl (k_M s0) (Or.inl zw_RX11_120) (k2 := 0) rfl (fun h1 e2 => ?_)
  refine zj_aload_n (zdk ttX11_meets 3 rfl rfl) rfl (by decide) ?_
  refine zj_iload_n (zdk ttX11_meets 4 rfl rfl) rfl ?_
  refine zj_iconst (zdk ttX11_meets 5 rfl rfl) ?_
  refine zj_sipush (zdk ttX11_meets 6 rfl rfl) (by decide) ?_
  have s3 : okM h1 := fwM_0 s0 e2 (by omega)
  refine zj_callV (av := [.inl p1, .inl 0, .inl 499]) (st := []) (zdk ttX11_meets 7 rfl rfl) mb_X11_isIn mv_RX11_139 (ci := 11) rfl rfl (k_M s3) rfl rfl (Nat.le_of_ble_eq_true rfl) (s_X11_isIn l h1 p1 0 499 s3 (by omega) (by omega) (by omega)) (rm_ok (by decide) (by decide)) (zq_i fun v5 h6 q4 => ?_)
  obtain ⟨rfl, ⟨rfl, b7⟩ | ⟨rfl, b7⟩⟩ := q4
  · refine zj_if_eq (t := 54) (zdk ttX11_meets 8 rfl rfl) (by decide) (by decide) (fun c8 => ?_) (fun c8 => ?_)
    · refine zj_iconst (zdk ttX11_meets 27 rfl rfl) ?_
      have f9 : zfr [0] [] h h1 := zfr_wf (zfr_r _ _ _) e2 rfl
      exact zj_iret rfl (zdk ttX11_meets 28 rfl rfl) (Nat.le_refl _) (Nat.le_refl _) ⟨(-1), rfl, by omega, s3, f9⟩
    · exact absurd c8 (by omega)
  · refine zj_if_eq (t := 54) (zdk ttX11_meets 8 rfl rfl) (by decide) (by decide) (fun c10 => ?_) (fun c10 => ?_)
    · exact absurd c10 (by omega)
    · refine zj_aload_n (zdk ttX11_meets 9 rfl rfl) rfl (by decide) ?_
      refine zj_iload_n (zdk ttX11_meets 10 rfl rfl) rfl ?_
      refine zj_iconst (zdk ttX11_meets 11 rfl rfl) ?_
      refine zj_sipush (zdk ttX11_meets 12 rfl rfl) (by decide) ?_
      refine zj_callV (av := [.inl p2, .inl 1, .inl 500]) (st := []) (zdk ttX11_meets 13 rfl rfl) mb_X11_isIn mv_RX11_139 (ci := 11) rfl rfl (k_M s3) rfl rfl (Nat.le_of_ble_eq_true rfl) (s_X11_isIn l h1 p2 1 500 s3 (by omega) (by omega) (by omega)) (rm_ok (by decide) (by decide)) (zq_i fun v12 h13 q11 => ?_)
      obtain ⟨rfl, ⟨rfl, b14⟩ | ⟨rfl, b14⟩⟩ := q11
      · refine zj_if_eq (t := 54) (zdk ttX11_meets 14 rfl rfl) (by decide) (by decide) (fun c15 => ?_) (fun c15 => ?_)
        · refine zj_iconst (zdk ttX11_meets 27 rfl rfl) ?_
          have f16 : zfr [0] [] h h1 := zfr_wf (zfr_r _ _ _) e2 rfl
          exact zj_iret rfl (zdk ttX11_meets 28 rfl rfl) (Nat.le_refl _) (Nat.le_refl _) ⟨(-1), rfl, by omega, s3, f16⟩
        · exact absurd c15 (by omega)
      · refine zj_if_eq (t := 54) (zdk ttX11_meets 14 rfl rfl) (by decide) (by decide) (fun c17 => ?_) (fun c17 => ?_)
        · exact absurd c17 (by omega)
        · refine zj_aload_n (zdk ttX11_meets 15 rfl rfl) rfl (by decide) ?_
          refine zj_iload_n (zdk ttX11_meets 16 rfl rfl) rfl ?_
          refine zj_iconst (zdk ttX11_meets 17 rfl rfl) ?_
          refine zj_sipush (zdk ttX11_meets 18 rfl rfl) (by decide) ?_
          refine zj_callV (av := [.inl p3, .inl 0, .inl 499]) (st := []) (zdk ttX11_meets 19 rfl rfl) mb_X11_isIn mv_RX11_139 (ci := 11) rfl rfl (k_M s3) rfl rfl (Nat.le_of_ble_eq_true rfl) (s_X11_isIn l h1 p3 0 499 s3 (by omega) (by omega) (by omega)) (rm_ok (by decide) (by decide)) (zq_i fun v19 h20 q18 => ?_)
          obtain ⟨rfl, ⟨rfl, b21⟩ | ⟨rfl, b21⟩⟩ := q18
          · refine zj_if_eq (t := 54) (zdk ttX11_meets 20 rfl rfl) (by decide) (by decide) (fun c22 => ?_) (fun c22 => ?_)
            · refine zj_iconst (zdk ttX11_meets 27 rfl rfl) ?_
              have f23 : zfr [0] [] h h1 := zfr_wf (zfr_r _ _ _) e2 rfl
              exact zj_iret rfl (zdk ttX11_meets 28 rfl rfl) (Nat.le_refl _) (Nat.le_refl _) ⟨(-1), rfl, by omega, s3, f23⟩
            · exact absurd c22 (by omega)
          · refine zj_if_eq (t := 54) (zdk ttX11_meets 20 rfl rfl) (by decide) (by decide) (fun c24 => ?_) (fun c24 => ?_)
            · exact absurd c24 (by omega)
            · refine zj_aload_n (zdk ttX11_meets 21 rfl rfl) rfl (by decide) ?_
              refine zj_iload (zdk ttX11_meets 22 rfl rfl) rfl ?_
              refine zj_iconst (zdk ttX11_meets 23 rfl rfl) ?_
              refine zj_sipush (zdk ttX11_meets 24 rfl rfl) (by decide) ?_
              refine zj_callV (av := [.inl p4, .inl 1, .inl 500]) (st := []) (zdk ttX11_meets 25 rfl rfl) mb_X11_isIn mv_RX11_139 (ci := 11) rfl rfl (k_M s3) rfl rfl (Nat.le_of_ble_eq_true rfl) (s_X11_isIn l h1 p4 1 500 s3 (by omega) (by omega) (by omega)) (rm_ok (by decide) (by decide)) (zq_i fun v26 h27 q25 => ?_)
              obtain ⟨rfl, ⟨rfl, b28⟩ | ⟨rfl, b28⟩⟩ := q25
              · refine zj_if_ne (t := 56) (zdk ttX11_meets 26 rfl rfl) (by decide) (by decide) (fun c29 => ?_) (fun c29 => ?_)
                · exact absurd c29 (by omega)
                · refine zj_iconst (zdk ttX11_meets 27 rfl rfl) ?_
                  have f30 : zfr [0] [] h h1 := zfr_wf (zfr_r _ _ _) e2 rfl
                  exact zj_iret rfl (zdk ttX11_meets 28 rfl rfl) (Nat.le_refl _) (Nat.le_refl _) ⟨(-1), rfl, by omega, s3, f30⟩
              · refine zj_if_ne (t := 56) (zdk ttX11_meets 26 rfl rfl) (by decide) (by decide) (fun c31 => ?_) (fun c31 => ?_)
                · refine zj_iload_n (zdk ttX11_meets 29 rfl rfl) rfl ?_
                  refine zj_istore (L' := [some (.inr 0), some (.inl p1), some (.inl p2), some (.inl p3), some (.inl p4), some (.inl p1), none]) (zdk ttX11_meets 30 rfl rfl) (by decide) rfl ?_
                  refine zj_iconst (zdk ttX11_meets 31 rfl rfl) ?_
                  refine zj_istore (L' := [some (.inr 0), some (.inl p1), some (.inl p2), some (.inl p3), some (.inl p4), some (.inl p1), some (.inl 0)]) (zdk ttX11_meets 32 rfl rfl) (by decide) rfl ?_
                  have lp76 : ∀ (n62 : Nat) (x32 x33 : Int), (-2147483648 ≤ x32 ∧ x32 ≤ 2147483647) → (0 ≤ x33 ∧ x33 ≤ 1100) → (1101 - x33).toNat < n62 → zJ shM l yX11_meets cX11_meets 7 (some .int) (rmL 2) 0 0 (q_X11_meets h p1 p2 p3 p4) 0 0 62 [some (.inr 0), some (.inl p1), some (.inl p2), some (.inl p3), some (.inl p4), some (.inl x32), some (.inl x33)] [] h1 := by
                    intro n62
                    induction n62 with
                    | zero => intro x32 x33 b77 b78 m79; exact absurd m79 (Nat.not_lt_zero _)
                    | succ n62 ih80 =>
                      intro x32 x33 b77 b78 m79
                      refine zj_iload (zdk ttX11_meets 33 rfl rfl) rfl ?_
                      refine zj_sipush (zdk ttX11_meets 34 rfl rfl) (by decide) ?_
                      refine zj_icmp_ge (t := 101) (zdk ttX11_meets 35 rfl rfl) (by decide) (by omega) (by decide) (fun c81 => ?_) (fun c81 => ?_)
                      · refine zj_iconst (zdk ttX11_meets 53 rfl rfl) ?_
                        have f82 : zfr [0] [] h h1 := zfr_wf (zfr_r _ _ _) e2 rfl
                        exact zj_iret rfl (zdk ttX11_meets 54 rfl rfl) (Nat.le_refl _) (Nat.le_refl _) ⟨(-1), rfl, by omega, s3, f82⟩
                      · refine zj_iload (zdk ttX11_meets 36 rfl rfl) rfl ?_
                        refine zj_iload_n (zdk ttX11_meets 37 rfl rfl) rfl ?_
                        refine zj_icmp_lt (t := 89) (zdk ttX11_meets 38 rfl rfl) (by decide) (by omega) (by omega) (fun c83 => ?_) (fun c83 => ?_)
                        · refine zj_iload (zdk ttX11_meets 47 rfl rfl) rfl ?_
                          refine zj_iload_n (zdk ttX11_meets 48 rfl rfl) rfl ?_
                          refine zj_iadd (zdk ttX11_meets 49 rfl rfl) ?_
                          refine zj_istore (L' := [some (.inr 0), some (.inl p1), some (.inl p2), some (.inl p3), some (.inl p4), some (.inl (x32 + p2)), some (.inl x33)]) (zdk ttX11_meets 50 rfl rfl) (by decide) rfl ?_
                          refine zj_iinc (L' := [some (.inr 0), some (.inl p1), some (.inl p2), some (.inl p3), some (.inl p4), some (.inl (x32 + p2)), some (.inl (x33 + 1))]) (zdk ttX11_meets 51 rfl rfl) rfl (by decide) rfl ?_
                          refine zj_goto (t := 62) (zdk ttX11_meets 52 rfl rfl) (by decide) ?_
                          exact ih80  (x32 + p2) (x33 + 1) (by omega) (by omega) (by omega)
                        · refine zj_iload (zdk ttX11_meets 39 rfl rfl) rfl ?_
                          refine zj_iload_n (zdk ttX11_meets 40 rfl rfl) rfl ?_
                          refine zj_isub (zdk ttX11_meets 41 rfl rfl) ?_
                          refine zj_iload (zdk ttX11_meets 42 rfl rfl) rfl ?_
                          refine zj_irem (zdk ttX11_meets 43 rfl rfl) (by omega) (by omega) (by omega) ?_
                          have b84 := ztm_b (x32 - p3) p4 (by omega)
                          refine zj_if_ne (t := 89) (zdk ttX11_meets 44 rfl rfl) (by decide) (by omega) (fun c85 => ?_) (fun c85 => ?_)
                          · refine zj_iload (zdk ttX11_meets 47 rfl rfl) rfl ?_
                            refine zj_iload_n (zdk ttX11_meets 48 rfl rfl) rfl ?_
                            refine zj_iadd (zdk ttX11_meets 49 rfl rfl) ?_
                            refine zj_wrap ?_
                            have b86 := zwp_in (x32 + p2)
                            refine zj_istore (L' := [some (.inr 0), some (.inl p1), some (.inl p2), some (.inl p3), some (.inl p4), some (.inl (zwp (x32 + p2))), some (.inl x33)]) (zdk ttX11_meets 50 rfl rfl) (by decide) rfl ?_
                            refine zj_iinc (L' := [some (.inr 0), some (.inl p1), some (.inl p2), some (.inl p3), some (.inl p4), some (.inl (zwp (x32 + p2))), some (.inl (x33 + 1))]) (zdk ttX11_meets 51 rfl rfl) rfl (by decide) rfl ?_
                            refine zj_goto (t := 62) (zdk ttX11_meets 52 rfl rfl) (by decide) ?_
                            exact ih80  (zwp (x32 + p2)) (x33 + 1) (by omega) (by omega) (by omega)
                          · refine zj_iload (zdk ttX11_meets 45 rfl rfl) rfl ?_
                            have f87 : zfr [0] [] h h1 := zfr_wf (zfr_r _ _ _) e2 rfl
                            exact zj_iret rfl (zdk ttX11_meets 46 rfl rfl) (Nat.le_refl _) (Nat.le_refl _) ⟨x32, rfl, by omega, s3, f87⟩
                  exact lp76 _ p1 0 (by omega) (by omega) (Nat.lt_succ_self _)
                · exact absurd c31 (by omega)

abbrev tX11_rope : List (Nat × Instr × Nat) := [(0, .aload_n 0, 1), (1, .iconst 0, 1), (2, .putfield 120, 3), (5, .aload_n 0, 1), (6, .iload_n 1, 1), (7, .iconst 0, 1), (8, .bipush 20, 2), (10, .invokevirtual 139, 3), (13, .ifCond .eq 24, 3), (16, .aload_n 0, 1), (17, .iload_n 2, 1), (18, .iconst 1, 1), (19, .bipush 9, 2), (21, .invokevirtual 139, 3), (24, .ifCond .eq 13, 3), (27, .aload_n 0, 1), (28, .iload_n 3, 1), (29, .iconst 0, 1), (30, .iconst 1, 1), (31, .invokevirtual 139, 3), (34, .ifCond .ne 5, 3), (37, .iconst (-1), 1), (38, .ireturn, 1), (39, .iload_n 3, 1), (40, .ifCond .ne 13, 3), (43, .iload_n 2, 1), (44, .iconst 1, 1), (45, .iload_n 1, 1), (46, .ishl, 1), (47, .imul, 1), (48, .iconst 1, 1), (49, .iadd, 1), (50, .goto 8, 3), (53, .iconst 1, 1), (54, .iload_n 1, 1), (55, .ishl, 1), (56, .iconst 1, 1), (57, .isub, 1), (58, .ireturn, 1)]
theorem ttX11_rope : zdt cX11_rope tX11_rope = true := by decide +kernel
abbrev q_X11_rope (h : zM) (p1 : Int) (p2 : Int) (p3 : Int) : Option zV → zM → Prop := zqi fun v h' => ((-2147483648) ≤ v ∧ v ≤ 2147483647) ∧ okM h' ∧ zfr [0] [] h h'
set_option maxRecDepth 100000 in
set_option maxHeartbeats 4000000 in
theorem s_X11_rope (l : Launch) (h : zM) (p1 : Int) (p2 : Int) (p3 : Int) (s0 : okM h) (b_p1 : (-2147483648) ≤ p1 ∧ p1 ≤ 2147483647) (b_p2 : (-2147483648) ≤ p2 ∧ p2 ≤ 2147483647) (b_p3 : (-2147483648) ≤ p3 ∧ p3 ≤ 2147483647) : zT shM l yX11_rope cX11_rope 4 (some .int) (rmL 2) 0 0 [.inr 0, .inl p1, .inl p2, .inl p3] h (q_X11_rope h p1 p2 p3) := by
  refine zT_of (by decide +kernel) (L0 := [some (.inr 0), some (.inl p1), some (.inl p2), some (.inl p3)]) rfl (Nat.le_of_ble_eq_true rfl) ?_
  refine zj_aload_n (zdk ttX11_rope 0 rfl rfl) rfl (by decide) ?_
  refine zj_iconst (zdk ttX11_rope 1 rfl rfl) ?_
  refine zj_puti (zdk ttX11_rope 2 rfl rfl) zf_RX11_120 rfl (k_M s0) (Or.inl zw_RX11_120) (k2 := 0) rfl (fun h1 e2 => ?_)
  refine zj_aload_n (zdk ttX11_rope 3 rfl rfl) rfl (by decide) ?_
  refine zj_iload_n (zdk ttX11_rope 4 rfl rfl) rfl ?_
  refine zj_iconst (zdk ttX11_rope 5 rfl rfl) ?_
  refine zj_bipush (zdk ttX11_rope 6 rfl rfl) (by decide) ?_
  have s3 : okM h1 := fwM_0 s0 e2 (by omega)
  refine zj_callV (av := [.inl p1, .inl 0, .inl 20]) (st := []) (zdk ttX11_rope 7 rfl rfl) mb_X11_isIn mv_RX11_139 (ci := 11) rfl rfl (k_M s3) rfl rfl (Nat.le_of_ble_eq_true rfl) (s_X11_isIn l h1 p1 0 20 s3 (by omega) (by omega) (by omega)) (rm_ok (by decide) (by decide)) (zq_i fun v5 h6 q4 => ?_)
  obtain ⟨rfl, ⟨rfl, b7⟩ | ⟨rfl, b7⟩⟩ := q4
  · refine zj_if_eq (t := 37) (zdk ttX11_rope 8 rfl rfl) (by decide) (by decide) (fun c8 => ?_) (fun c8 => ?_)
    · refine zj_iconst (zdk ttX11_rope 21 rfl rfl) ?_
      have f9 : zfr [0] [] h h1 := zfr_wf (zfr_r _ _ _) e2 rfl
      exact zj_iret rfl (zdk ttX11_rope 22 rfl rfl) (Nat.le_refl _) (Nat.le_refl _) ⟨(-1), rfl, by omega, s3, f9⟩
    · exact absurd c8 (by omega)
  · refine zj_if_eq (t := 37) (zdk ttX11_rope 8 rfl rfl) (by decide) (by decide) (fun c10 => ?_) (fun c10 => ?_)
    · exact absurd c10 (by omega)
    · refine zj_aload_n (zdk ttX11_rope 9 rfl rfl) rfl (by decide) ?_
      refine zj_iload_n (zdk ttX11_rope 10 rfl rfl) rfl ?_
      refine zj_iconst (zdk ttX11_rope 11 rfl rfl) ?_
      refine zj_bipush (zdk ttX11_rope 12 rfl rfl) (by decide) ?_
      refine zj_callV (av := [.inl p2, .inl 1, .inl 9]) (st := []) (zdk ttX11_rope 13 rfl rfl) mb_X11_isIn mv_RX11_139 (ci := 11) rfl rfl (k_M s3) rfl rfl (Nat.le_of_ble_eq_true rfl) (s_X11_isIn l h1 p2 1 9 s3 (by omega) (by omega) (by omega)) (rm_ok (by decide) (by decide)) (zq_i fun v12 h13 q11 => ?_)
      obtain ⟨rfl, ⟨rfl, b14⟩ | ⟨rfl, b14⟩⟩ := q11
      · refine zj_if_eq (t := 37) (zdk ttX11_rope 14 rfl rfl) (by decide) (by decide) (fun c15 => ?_) (fun c15 => ?_)
        · refine zj_iconst (zdk ttX11_rope 21 rfl rfl) ?_
          have f16 : zfr [0] [] h h1 := zfr_wf (zfr_r _ _ _) e2 rfl
          exact zj_iret rfl (zdk ttX11_rope 22 rfl rfl) (Nat.le_refl _) (Nat.le_refl _) ⟨(-1), rfl, by omega, s3, f16⟩
        · exact absurd c15 (by omega)
      · refine zj_if_eq (t := 37) (zdk ttX11_rope 14 rfl rfl) (by decide) (by decide) (fun c17 => ?_) (fun c17 => ?_)
        · exact absurd c17 (by omega)
        · refine zj_aload_n (zdk ttX11_rope 15 rfl rfl) rfl (by decide) ?_
          refine zj_iload_n (zdk ttX11_rope 16 rfl rfl) rfl ?_
          refine zj_iconst (zdk ttX11_rope 17 rfl rfl) ?_
          refine zj_iconst (zdk ttX11_rope 18 rfl rfl) ?_
          refine zj_callV (av := [.inl p3, .inl 0, .inl 1]) (st := []) (zdk ttX11_rope 19 rfl rfl) mb_X11_isIn mv_RX11_139 (ci := 11) rfl rfl (k_M s3) rfl rfl (Nat.le_of_ble_eq_true rfl) (s_X11_isIn l h1 p3 0 1 s3 (by omega) (by omega) (by omega)) (rm_ok (by decide) (by decide)) (zq_i fun v19 h20 q18 => ?_)
          obtain ⟨rfl, ⟨rfl, b21⟩ | ⟨rfl, b21⟩⟩ := q18
          · refine zj_if_ne (t := 39) (zdk ttX11_rope 20 rfl rfl) (by decide) (by decide) (fun c22 => ?_) (fun c22 => ?_)
            · exact absurd c22 (by omega)
            · refine zj_iconst (zdk ttX11_rope 21 rfl rfl) ?_
              have f23 : zfr [0] [] h h1 := zfr_wf (zfr_r _ _ _) e2 rfl
              exact zj_iret rfl (zdk ttX11_rope 22 rfl rfl) (Nat.le_refl _) (Nat.le_refl _) ⟨(-1), rfl, by omega, s3, f23⟩
          · refine zj_if_ne (t := 39) (zdk ttX11_rope 20 rfl rfl) (by decide) (by decide) (fun c24 => ?_) (fun c24 => ?_)
            · refine zj_iload_n (zdk ttX11_rope 23 rfl rfl) rfl ?_
              refine zj_if_ne (t := 53) (zdk ttX11_rope 24 rfl rfl) (by decide) (by omega) (fun c25 => ?_) (fun c25 => ?_)
              · refine zj_iconst (zdk ttX11_rope 33 rfl rfl) ?_
                refine zj_iload_n (zdk ttX11_rope 34 rfl rfl) rfl ?_
                refine zj_ishl (zdk ttX11_rope 35 rfl rfl) ?_
                have b26 := zshl_1 (n := p1) (a := 0) (b := 20) (lo := 1) (hi := 1048576) (by omega) (by decide) (by decide) (by decide)
                refine zj_iconst (zdk ttX11_rope 36 rfl rfl) ?_
                refine zj_isub (zdk ttX11_rope 37 rfl rfl) ?_
                have f27 : zfr [0] [] h h1 := zfr_wf (zfr_r _ _ _) e2 rfl
                exact zj_iret rfl (zdk ttX11_rope 38 rfl rfl) (Nat.le_refl _) (Nat.le_refl _) ⟨((zshl 1 p1) - 1), rfl, by omega, s3, f27⟩
              · refine zj_iload_n (zdk ttX11_rope 25 rfl rfl) rfl ?_
                refine zj_iconst (zdk ttX11_rope 26 rfl rfl) ?_
                refine zj_iload_n (zdk ttX11_rope 27 rfl rfl) rfl ?_
                refine zj_ishl (zdk ttX11_rope 28 rfl rfl) ?_
                have b28 := zshl_1 (n := p1) (a := 0) (b := 20) (lo := 1) (hi := 1048576) (by omega) (by decide) (by decide) (by decide)
                refine zj_imul (zdk ttX11_rope 29 rfl rfl) ?_
                have b29 : 1 ≤ (p2 * (zshl 1 p1)) ∧ (p2 * (zshl 1 p1)) ≤ 9437184 := zmul_b (a := 1) (b := 9) (c := 1) (d := 1048576) (by omega) (by omega) (by decide)
                refine zj_iconst (zdk ttX11_rope 30 rfl rfl) ?_
                refine zj_iadd (zdk ttX11_rope 31 rfl rfl) ?_
                refine zj_goto (t := 58) (zdk ttX11_rope 32 rfl rfl) (by decide) ?_
                have f30 : zfr [0] [] h h1 := zfr_wf (zfr_r _ _ _) e2 rfl
                exact zj_iret rfl (zdk ttX11_rope 38 rfl rfl) (Nat.le_refl _) (Nat.le_refl _) ⟨((p2 * (zshl 1 p1)) + 1), rfl, by omega, s3, f30⟩
            · exact absurd c24 (by omega)
