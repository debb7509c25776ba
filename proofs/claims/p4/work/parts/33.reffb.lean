abbrev tX11_readDeed : List (Nat × Instr × Nat) := [(0, .aload_n 0, 1), (1, .getfield 65, 3), (4, .iload_n 1, 1), (5, .aload_n 0, 1), (6, .bipush 17, 2), (8, .iconst 0, 1), (9, .sipush 999, 3), (12, .invokevirtual 251, 3), (15, .iastore, 1), (16, .aload_n 0, 1), (17, .getfield 65, 3), (20, .iload_n 1, 1), (21, .iaload, 1), (22, .iconst (-1), 1), (23, .if_icmp .ne 5, 3), (26, .iconst (-1), 1), (27, .ireturn, 1), (28, .aload_n 0, 1), (29, .invokevirtual 261, 3), (32, .istore_n 2, 1), (33, .iload_n 2, 1), (34, .iconst (-1), 1), (35, .if_icmp .ne 9, 3), (38, .aload_n 0, 1), (39, .iconst 1, 1), (40, .invokevirtual 197, 3), (43, .ireturn, 1), (44, .aload_n 0, 1), (45, .invokevirtual 204, 3), (48, .aload_n 0, 1), (49, .getfield 65, 3), (52, .iload_n 1, 1), (53, .iconst 1, 1), (54, .iadd, 1), (55, .iload_n 2, 1), (56, .iastore, 1), (57, .aload_n 0, 1), (58, .getfield 65, 3), (61, .iload_n 1, 1), (62, .iconst 2, 1), (63, .iadd, 1), (64, .iload_n 2, 1), (65, .iconst 2, 1), (66, .if_icmp .eq 8, 3), (69, .iload_n 2, 1), (70, .iconst 3, 1), (71, .if_icmp .ne 7, 3), (74, .iconst 0, 1), (75, .goto 44, 3), (78, .aload_n 0, 1), (79, .iload_n 2, 1), (80, .iconst 2, 1), (81, .if_icmp .ge 7, 3), (84, .iconst 0, 1), (85, .goto 4, 3), (88, .iconst 1, 1), (89, .iload_n 2, 1), (90, .iconst 2, 1), (91, .if_icmp .ge 12, 3), (94, .aload_n 0, 1), (95, .getfield 132, 3), (98, .iconst 1, 1), (99, .isub, 1), (100, .goto 16, 3), (103, .iload_n 2, 1), (104, .iconst 4, 1), (105, .if_icmp .ne 8, 3), (108, .bipush 99, 2), (110, .goto 6, 3), (113, .sipush 719, 3), (116, .invokevirtual 248, 3), (119, .iastore, 1), (120, .aload_n 0, 1), (121, .getfield 65, 3), (124, .iload_n 1, 1), (125, .iconst 2, 1), (126, .iadd, 1), (127, .iaload, 1), (128, .iconst (-1), 1), (129, .if_icmp .ne 7, 3), (132, .iconst (-1), 1), (133, .goto 9, 3), (136, .aload_n 0, 1), (137, .bipush 59, 2), (139, .invokevirtual 255, 3), (142, .ireturn, 1)]
theorem ttX11_readDeed : zdt cX11_readDeed tX11_readDeed = true := by decide +kernel
abbrev q_X11_readDeed (h : zM) (p1 : Int) : Option zV → zM → Prop := zqi fun v h' => ((-1) ≤ v ∧ v ≤ 0) ∧ okM h' ∧ zfr [12, 13, 14, 15, 29, 30] [18] h h' ∧ (v = 0 → wfD1 (h'.2 18 (p1 + 1)) (h'.2 18 (p1 + 2))) ∧ (∀ j, ¬ (p1 ≤ j ∧ j ≤ p1 + 2) → h'.2 18 j = h.2 18 j)
set_option maxRecDepth 100000 in
set_option maxHeartbeats 4000000 in
theorem s_X11_readDeed (l : Launch) (h : zM) (p1 : Int) (s0 : okM h) (b_p1 : 48 ≤ p1 ∧ p1 ≤ 93) : zT shM l yX11_readDeed cX11_readDeed 3 (some .int) (rmL 6) 0 0 [.inr 0, .inl p1] h (q_X11_readDeed h p1) := by
  refine zT_of (by decide +kernel) (L0 := [some (.inr 0), some (.inl p1), none]) rfl (Nat.le_of_ble_eq_true rfl) ?_
  refine zj_aload_n (zdk ttX11_readDeed 0 rfl rfl) rfl (by decide) ?_
  refine zj_getr (r := 18) (zdk ttX11_readDeed 1 rfl rfl) zf_RX11_65 rfl (k_M s0) (rfM_36 s0) ?_
  refine zj_iload_n (zdk ttX11_readDeed 2 rfl rfl) rfl ?_
  refine zj_aload_n (zdk ttX11_readDeed 3 rfl rfl) rfl (by decide) ?_
  refine zj_bipush (zdk ttX11_readDeed 4 rfl rfl) (by decide) ?_
  refine zj_iconst (zdk ttX11_readDeed 5 rfl rfl) ?_
  refine zj_sipush (zdk ttX11_readDeed 6 rfl rfl) (by decide) ?_
  refine zj_callV (av := [.inl 17, .inl 0, .inl 999]) (st := [.inl p1, .inr 18]) (zdk ttX11_readDeed 7 rfl rfl) mb_X11_readTold mv_RX11_251 (ci := 11) rfl rfl (k_M s0) rfl rfl (Nat.le_of_ble_eq_true rfl) (s_X11_readTold l h 17 0 999 s0 (by omega) (by omega) (by omega)) (rm_ok (by decide) (by decide)) (zq_i fun v2 h3 q1 => ?_)
  obtain ⟨b4, s5, f7, u6⟩ := q1
  have b8 : -1 ≤ v2 ∧ v2 ≤ 999 := by omega
  refine zj_iast (zdk ttX11_readDeed 8 rfl rfl) (kaM_18 s5) (by decide) (by omega) (fun h9 e10 => ?_)
  refine zj_aload_n (zdk ttX11_readDeed 9 rfl rfl) rfl (by decide) ?_
  have s11 : okM h9 := awM_18 s5 e10 (by omega) (by unfold nsp; omega)
  refine zj_getr (r := 18) (zdk ttX11_readDeed 10 rfl rfl) zf_RX11_65 rfl (k_M s11) (rfM_36 s11) ?_
  refine zj_iload_n (zdk ttX11_readDeed 11 rfl rfl) rfl ?_
  refine zj_iald (v := v2) (zdk ttX11_readDeed 12 rfl rfl) (kaM_18 s11) (by decide) (by omega) (zwr_v e10) ?_
  refine zj_iconst (zdk ttX11_readDeed 13 rfl rfl) ?_
  refine zj_icmp_ne (t := 28) (zdk ttX11_readDeed 14 rfl rfl) (by decide) (by omega) (by decide) (fun c12 => ?_) (fun c12 => ?_)
  · refine zj_aload_n (zdk ttX11_readDeed 17 rfl rfl) rfl (by decide) ?_
    refine zj_callV (av := []) (st := []) (zdk ttX11_readDeed 18 rfl rfl) mb_X11_kindOfDeed mv_RX11_261 (ci := 11) rfl rfl (k_M s11) rfl rfl (Nat.le_of_ble_eq_true rfl) (s_X11_kindOfDeed l h9 s11) (rm_ok (by decide) (by decide)) (zq_i fun v14 h15 q13 => ?_)
    obtain ⟨rfl, b17, b18, b16⟩ := q13
    have b19 : -1 ≤ v14 ∧ v14 ≤ 5 := by omega
    refine zj_istore_n (L' := [some (.inr 0), some (.inl p1), some (.inl v14)]) (zdk ttX11_readDeed 19 rfl rfl) (by decide) rfl ?_
    refine zj_iload_n (zdk ttX11_readDeed 20 rfl rfl) rfl ?_
    refine zj_iconst (zdk ttX11_readDeed 21 rfl rfl) ?_
    refine zj_icmp_ne (t := 44) (zdk ttX11_readDeed 22 rfl rfl) (by decide) (by omega) (by decide) (fun c20 => ?_) (fun c20 => ?_)
    · refine zj_aload_n (zdk ttX11_readDeed 27 rfl rfl) rfl (by decide) ?_
      refine zj_callV (av := []) (st := []) (zdk ttX11_readDeed 28 rfl rfl) mb_X11_reads mv_RX11_204 (ci := 11) rfl rfl (k_M s11) rfl rfl (Nat.le_of_ble_eq_true rfl) (s_X11_reads l h9 s11) (rm_ok (by decide) (by decide)) (zq_v fun h23 q21 => ?_)
      obtain ⟨s25, f28, u26, u27⟩ := q21
      refine zj_aload_n (zdk ttX11_readDeed 29 rfl rfl) rfl (by decide) ?_
      refine zj_getr (r := 18) (zdk ttX11_readDeed 30 rfl rfl) zf_RX11_65 rfl (k_M s25) (rfM_36 s25) ?_
      refine zj_iload_n (zdk ttX11_readDeed 31 rfl rfl) rfl ?_
      refine zj_iconst (zdk ttX11_readDeed 32 rfl rfl) ?_
      refine zj_iadd (zdk ttX11_readDeed 33 rfl rfl) ?_
      refine zj_iload_n (zdk ttX11_readDeed 34 rfl rfl) rfl ?_
      refine zj_iast (zdk ttX11_readDeed 35 rfl rfl) (kaM_18 s25) (by decide) (by omega) (fun h29 e30 => ?_)
      refine zj_aload_n (zdk ttX11_readDeed 36 rfl rfl) rfl (by decide) ?_
      have s31 : okM h29 := awM_18 s25 e30 (by omega) (by unfold nsp; omega)
      refine zj_getr (r := 18) (zdk ttX11_readDeed 37 rfl rfl) zf_RX11_65 rfl (k_M s31) (rfM_36 s31) ?_
      refine zj_iload_n (zdk ttX11_readDeed 38 rfl rfl) rfl ?_
      refine zj_iconst (zdk ttX11_readDeed 39 rfl rfl) ?_
      refine zj_iadd (zdk ttX11_readDeed 40 rfl rfl) ?_
      refine zj_iload_n (zdk ttX11_readDeed 41 rfl rfl) rfl ?_
      refine zj_iconst (zdk ttX11_readDeed 42 rfl rfl) ?_
      refine zj_icmp_eq (t := 74) (zdk ttX11_readDeed 43 rfl rfl) (by decide) (by omega) (by decide) (fun c32 => ?_) (fun c32 => ?_)
      · refine zj_iconst (zdk ttX11_readDeed 47 rfl rfl) ?_
        refine zj_goto (t := 119) (zdk ttX11_readDeed 48 rfl rfl) (by decide) ?_
        refine zj_iast (zdk ttX11_readDeed 71 rfl rfl) (kaM_18 s31) (by decide) (by omega) (fun h33 e34 => ?_)
        refine zj_aload_n (zdk ttX11_readDeed 72 rfl rfl) rfl (by decide) ?_
        have s35 : okM h33 := awM_18 s31 e34 (by omega) (by unfold nsp; omega)
        refine zj_getr (r := 18) (zdk ttX11_readDeed 73 rfl rfl) zf_RX11_65 rfl (k_M s35) (rfM_36 s35) ?_
        refine zj_iload_n (zdk ttX11_readDeed 74 rfl rfl) rfl ?_
        refine zj_iconst (zdk ttX11_readDeed 75 rfl rfl) ?_
        refine zj_iadd (zdk ttX11_readDeed 76 rfl rfl) ?_
        refine zj_iald (v := 0) (zdk ttX11_readDeed 77 rfl rfl) (kaM_18 s35) (by decide) (by omega) (zwr_v e34) ?_
        refine zj_iconst (zdk ttX11_readDeed 78 rfl rfl) ?_
        refine zj_icmp_ne (t := 136) (zdk ttX11_readDeed 79 rfl rfl) (by decide) (by decide) (by decide) (fun c36 => ?_) (fun c36 => ?_)
        · refine zj_aload_n (zdk ttX11_readDeed 82 rfl rfl) rfl (by decide) ?_
          refine zj_bipush (zdk ttX11_readDeed 83 rfl rfl) (by decide) ?_
          refine zj_callV (av := [.inl 59]) (st := []) (zdk ttX11_readDeed 84 rfl rfl) mb_X11_readMark mv_RX11_255 (ci := 11) rfl rfl (k_M s35) rfl rfl (Nat.le_of_ble_eq_true rfl) (s_X11_readMark l h33 59 s35 (by omega)) (rm_ok (by decide) (by decide)) (zq_i fun v38 h39 q37 => ?_)
          obtain ⟨b40, s41, f42⟩ := q37
          have f48 : zfr [12, 13, 14, 15, 29, 30] [18] h h3 := zfr_t (zfr_r _ _ _) f7 rfl rfl
          have f47 : zfr [12, 13, 14, 15, 29, 30] [18] h h9 := zfr_wa f48 e10 rfl
          have f46 : zfr [12, 13, 14, 15, 29, 30] [18] h h23 := zfr_t f47 f28 rfl rfl
          have f45 : zfr [12, 13, 14, 15, 29, 30] [18] h h29 := zfr_wa f46 e30 rfl
          have f44 : zfr [12, 13, 14, 15, 29, 30] [18] h h33 := zfr_wa f45 e34 rfl
          have f43 : zfr [12, 13, 14, 15, 29, 30] [18] h h39 := zfr_t f44 f42 rfl rfl
          have b49 : h39.2 18 (p1 + 1) = v14 := (((zfr_a f42 rfl (by decide)).trans (zwr_r e34 (by first | decide | exact (absurd ·.1 (by decide)) | exact (absurd ·.2 (by decide)) | omega))).trans (zwr_v e30))
          have b50 : h39.2 18 (p1 + 2) = 0 := ((zfr_a f42 rfl (by decide)).trans (zwr_v e34))
          exact zj_iret rfl (zdk ttX11_readDeed 85 rfl rfl) (Nat.le_refl _) (Nat.le_refl _) ⟨v38, rfl, by omega, s41, f43, (fun q => by unfold wfD1; omega), (fun j q => ((((((zfr_a f42 rfl (by decide)).trans (zwr_r e34 (by first | decide | exact (absurd ·.1 (by decide)) | exact (absurd ·.2 (by decide)) | omega))).trans (zwr_r e30 (by first | decide | exact (absurd ·.1 (by decide)) | exact (absurd ·.2 (by decide)) | omega))).trans (zfr_a f28 rfl (by decide))).trans (zwr_r e10 (by first | decide | exact (absurd ·.1 (by decide)) | exact (absurd ·.2 (by decide)) | omega))).trans (zfr_a f7 rfl (by decide))))⟩
        · exact absurd c36 (by omega)
      · refine zj_iload_n (zdk ttX11_readDeed 44 rfl rfl) rfl ?_
        refine zj_iconst (zdk ttX11_readDeed 45 rfl rfl) ?_
        refine zj_icmp_ne (t := 78) (zdk ttX11_readDeed 46 rfl rfl) (by decide) (by omega) (by decide) (fun c51 => ?_) (fun c51 => ?_)
        · refine zj_aload_n (zdk ttX11_readDeed 49 rfl rfl) rfl (by decide) ?_
          refine zj_iload_n (zdk ttX11_readDeed 50 rfl rfl) rfl ?_
          refine zj_iconst (zdk ttX11_readDeed 51 rfl rfl) ?_
          refine zj_icmp_ge (t := 88) (zdk ttX11_readDeed 52 rfl rfl) (by decide) (by omega) (by decide) (fun c52 => ?_) (fun c52 => ?_)
          · refine zj_iconst (zdk ttX11_readDeed 55 rfl rfl) ?_
            refine zj_iload_n (zdk ttX11_readDeed 56 rfl rfl) rfl ?_
            refine zj_iconst (zdk ttX11_readDeed 57 rfl rfl) ?_
            refine zj_icmp_ge (t := 103) (zdk ttX11_readDeed 58 rfl rfl) (by decide) (by omega) (by decide) (fun c53 => ?_) (fun c53 => ?_)
            · refine zj_iload_n (zdk ttX11_readDeed 64 rfl rfl) rfl ?_
              refine zj_iconst (zdk ttX11_readDeed 65 rfl rfl) ?_
              refine zj_icmp_ne (t := 113) (zdk ttX11_readDeed 66 rfl rfl) (by decide) (by omega) (by decide) (fun c54 => ?_) (fun c54 => ?_)
              · refine zj_sipush (zdk ttX11_readDeed 69 rfl rfl) (by decide) ?_
                refine zj_callV (av := [.inl 1, .inl 719]) (st := [.inl (p1 + 2), .inr 18]) (zdk ttX11_readDeed 70 rfl rfl) mb_X11_readNumber mv_RX11_248 (ci := 11) rfl rfl (k_M s31) rfl rfl (Nat.le_of_ble_eq_true rfl) (s_X11_readNumber l h29 1 719 s31 (by omega) (by omega)) (rm_ok (by decide) (by decide)) (zq_i fun v56 h57 q55 => ?_)
                obtain ⟨b58, s59, f61, u60⟩ := q55
                have b62 : -1 ≤ v56 ∧ v56 ≤ 719 := by omega
                refine zj_iast (zdk ttX11_readDeed 71 rfl rfl) (kaM_18 s59) (by decide) (by omega) (fun h63 e64 => ?_)
                refine zj_aload_n (zdk ttX11_readDeed 72 rfl rfl) rfl (by decide) ?_
                have s65 : okM h63 := awM_18 s59 e64 (by omega) (by unfold nsp; omega)
                refine zj_getr (r := 18) (zdk ttX11_readDeed 73 rfl rfl) zf_RX11_65 rfl (k_M s65) (rfM_36 s65) ?_
                refine zj_iload_n (zdk ttX11_readDeed 74 rfl rfl) rfl ?_
                refine zj_iconst (zdk ttX11_readDeed 75 rfl rfl) ?_
                refine zj_iadd (zdk ttX11_readDeed 76 rfl rfl) ?_
                refine zj_iald (v := v56) (zdk ttX11_readDeed 77 rfl rfl) (kaM_18 s65) (by decide) (by omega) (zwr_v e64) ?_
                refine zj_iconst (zdk ttX11_readDeed 78 rfl rfl) ?_
                refine zj_icmp_ne (t := 136) (zdk ttX11_readDeed 79 rfl rfl) (by decide) (by omega) (by decide) (fun c66 => ?_) (fun c66 => ?_)
                · refine zj_aload_n (zdk ttX11_readDeed 82 rfl rfl) rfl (by decide) ?_
                  refine zj_bipush (zdk ttX11_readDeed 83 rfl rfl) (by decide) ?_
                  refine zj_callV (av := [.inl 59]) (st := []) (zdk ttX11_readDeed 84 rfl rfl) mb_X11_readMark mv_RX11_255 (ci := 11) rfl rfl (k_M s65) rfl rfl (Nat.le_of_ble_eq_true rfl) (s_X11_readMark l h63 59 s65 (by omega)) (rm_ok (by decide) (by decide)) (zq_i fun v68 h69 q67 => ?_)
                  obtain ⟨b70, s71, f72⟩ := q67
                  have f79 : zfr [12, 13, 14, 15, 29, 30] [18] h h3 := zfr_t (zfr_r _ _ _) f7 rfl rfl
                  have f78 : zfr [12, 13, 14, 15, 29, 30] [18] h h9 := zfr_wa f79 e10 rfl
                  have f77 : zfr [12, 13, 14, 15, 29, 30] [18] h h23 := zfr_t f78 f28 rfl rfl
                  have f76 : zfr [12, 13, 14, 15, 29, 30] [18] h h29 := zfr_wa f77 e30 rfl
                  have f75 : zfr [12, 13, 14, 15, 29, 30] [18] h h57 := zfr_t f76 f61 rfl rfl
                  have f74 : zfr [12, 13, 14, 15, 29, 30] [18] h h63 := zfr_wa f75 e64 rfl
                  have f73 : zfr [12, 13, 14, 15, 29, 30] [18] h h69 := zfr_t f74 f72 rfl rfl
                  have b80 : h69.2 18 (p1 + 1) = v14 := ((((zfr_a f72 rfl (by decide)).trans (zwr_r e64 (by first | decide | exact (absurd ·.1 (by decide)) | exact (absurd ·.2 (by decide)) | omega))).trans (zfr_a f61 rfl (by decide))).trans (zwr_v e30))
                  have b81 : h69.2 18 (p1 + 2) = v56 := ((zfr_a f72 rfl (by decide)).trans (zwr_v e64))
                  exact zj_iret rfl (zdk ttX11_readDeed 85 rfl rfl) (Nat.le_refl _) (Nat.le_refl _) ⟨v68, rfl, by omega, s71, f73, (fun q => by unfold wfD1; omega), (fun j q => (((((((zfr_a f72 rfl (by decide)).trans (zwr_r e64 (by first | decide | exact (absurd ·.1 (by decide)) | exact (absurd ·.2 (by decide)) | omega))).trans (zfr_a f61 rfl (by decide))).trans (zwr_r e30 (by first | decide | exact (absurd ·.1 (by decide)) | exact (absurd ·.2 (by decide)) | omega))).trans (zfr_a f28 rfl (by decide))).trans (zwr_r e10 (by first | decide | exact (absurd ·.1 (by decide)) | exact (absurd ·.2 (by decide)) | omega))).trans (zfr_a f7 rfl (by decide))))⟩
                · refine zj_iconst (zdk ttX11_readDeed 80 rfl rfl) ?_
                  refine zj_goto (t := 142) (zdk ttX11_readDeed 81 rfl rfl) (by decide) ?_
                  have f87 : zfr [12, 13, 14, 15, 29, 30] [18] h h3 := zfr_t (zfr_r _ _ _) f7 rfl rfl
                  have f86 : zfr [12, 13, 14, 15, 29, 30] [18] h h9 := zfr_wa f87 e10 rfl
                  have f85 : zfr [12, 13, 14, 15, 29, 30] [18] h h23 := zfr_t f86 f28 rfl rfl
                  have f84 : zfr [12, 13, 14, 15, 29, 30] [18] h h29 := zfr_wa f85 e30 rfl
                  have f83 : zfr [12, 13, 14, 15, 29, 30] [18] h h57 := zfr_t f84 f61 rfl rfl
                  have f82 : zfr [12, 13, 14, 15, 29, 30] [18] h h63 := zfr_wa f83 e64 rfl
                  exact zj_iret rfl (zdk ttX11_readDeed 85 rfl rfl) (Nat.le_refl _) (Nat.le_refl _) ⟨(-1), rfl, by omega, s65, f82, (fun q => absurd q (by decide)), (fun j q => ((((((zwr_r e64 (by first | decide | exact (absurd ·.1 (by decide)) | exact (absurd ·.2 (by decide)) | omega)).trans (zfr_a f61 rfl (by decide))).trans (zwr_r e30 (by first | decide | exact (absurd ·.1 (by decide)) | exact (absurd ·.2 (by decide)) | omega))).trans (zfr_a f28 rfl (by decide))).trans (zwr_r e10 (by first | decide | exact (absurd ·.1 (by decide)) | exact (absurd ·.2 (by decide)) | omega))).trans (zfr_a f7 rfl (by decide))))⟩
              · refine zj_bipush (zdk ttX11_readDeed 67 rfl rfl) (by decide) ?_
                refine zj_goto (t := 116) (zdk ttX11_readDeed 68 rfl rfl) (by decide) ?_
                refine zj_callV (av := [.inl 1, .inl 99]) (st := [.inl (p1 + 2), .inr 18]) (zdk ttX11_readDeed 70 rfl rfl) mb_X11_readNumber mv_RX11_248 (ci := 11) rfl rfl (k_M s31) rfl rfl (Nat.le_of_ble_eq_true rfl) (s_X11_readNumber l h29 1 99 s31 (by omega) (by omega)) (rm_ok (by decide) (by decide)) (zq_i fun v89 h90 q88 => ?_)
                obtain ⟨b91, s92, f94, u93⟩ := q88
                have b95 : -1 ≤ v89 ∧ v89 ≤ 99 := by omega
                refine zj_iast (zdk ttX11_readDeed 71 rfl rfl) (kaM_18 s92) (by decide) (by omega) (fun h96 e97 => ?_)
                refine zj_aload_n (zdk ttX11_readDeed 72 rfl rfl) rfl (by decide) ?_
                have s98 : okM h96 := awM_18 s92 e97 (by omega) (by unfold nsp; omega)
                refine zj_getr (r := 18) (zdk ttX11_readDeed 73 rfl rfl) zf_RX11_65 rfl (k_M s98) (rfM_36 s98) ?_
                refine zj_iload_n (zdk ttX11_readDeed 74 rfl rfl) rfl ?_
                refine zj_iconst (zdk ttX11_readDeed 75 rfl rfl) ?_
                refine zj_iadd (zdk ttX11_readDeed 76 rfl rfl) ?_
                refine zj_iald (v := v89) (zdk ttX11_readDeed 77 rfl rfl) (kaM_18 s98) (by decide) (by omega) (zwr_v e97) ?_
                refine zj_iconst (zdk ttX11_readDeed 78 rfl rfl) ?_
                refine zj_icmp_ne (t := 136) (zdk ttX11_readDeed 79 rfl rfl) (by decide) (by omega) (by decide) (fun c99 => ?_) (fun c99 => ?_)
                · refine zj_aload_n (zdk ttX11_readDeed 82 rfl rfl) rfl (by decide) ?_
                  refine zj_bipush (zdk ttX11_readDeed 83 rfl rfl) (by decide) ?_
                  refine zj_callV (av := [.inl 59]) (st := []) (zdk ttX11_readDeed 84 rfl rfl) mb_X11_readMark mv_RX11_255 (ci := 11) rfl rfl (k_M s98) rfl rfl (Nat.le_of_ble_eq_true rfl) (s_X11_readMark l h96 59 s98 (by omega)) (rm_ok (by decide) (by decide)) (zq_i fun v101 h102 q100 => ?_)
                  obtain ⟨b103, s104, f105⟩ := q100
                  have f112 : zfr [12, 13, 14, 15, 29, 30] [18] h h3 := zfr_t (zfr_r _ _ _) f7 rfl rfl
                  have f111 : zfr [12, 13, 14, 15, 29, 30] [18] h h9 := zfr_wa f112 e10 rfl
                  have f110 : zfr [12, 13, 14, 15, 29, 30] [18] h h23 := zfr_t f111 f28 rfl rfl
                  have f109 : zfr [12, 13, 14, 15, 29, 30] [18] h h29 := zfr_wa f110 e30 rfl
                  have f108 : zfr [12, 13, 14, 15, 29, 30] [18] h h90 := zfr_t f109 f94 rfl rfl
                  have f107 : zfr [12, 13, 14, 15, 29, 30] [18] h h96 := zfr_wa f108 e97 rfl
                  have f106 : zfr [12, 13, 14, 15, 29, 30] [18] h h102 := zfr_t f107 f105 rfl rfl
                  have b113 : h102.2 18 (p1 + 1) = v14 := ((((zfr_a f105 rfl (by decide)).trans (zwr_r e97 (by first | decide | exact (absurd ·.1 (by decide)) | exact (absurd ·.2 (by decide)) | omega))).trans (zfr_a f94 rfl (by decide))).trans (zwr_v e30))
                  have b114 : h102.2 18 (p1 + 2) = v89 := ((zfr_a f105 rfl (by decide)).trans (zwr_v e97))
                  exact zj_iret rfl (zdk ttX11_readDeed 85 rfl rfl) (Nat.le_refl _) (Nat.le_refl _) ⟨v101, rfl, by omega, s104, f106, (fun q => by unfold wfD1; omega), (fun j q => (((((((zfr_a f105 rfl (by decide)).trans (zwr_r e97 (by first | decide | exact (absurd ·.1 (by decide)) | exact (absurd ·.2 (by decide)) | omega))).trans (zfr_a f94 rfl (by decide))).trans (zwr_r e30 (by first | decide | exact (absurd ·.1 (by decide)) | exact (absurd ·.2 (by decide)) | omega))).trans (zfr_a f28 rfl (by decide))).trans (zwr_r e10 (by first | decide | exact (absurd ·.1 (by decide)) | exact (absurd ·.2 (by decide)) | omega))).trans (zfr_a f7 rfl (by decide))))⟩
                · refine zj_iconst (zdk ttX11_readDeed 80 rfl rfl) ?_
                  refine zj_goto (t := 142) (zdk ttX11_readDeed 81 rfl rfl) (by decide) ?_
                  have f120 : zfr [12, 13, 14, 15, 29, 30] [18] h h3 := zfr_t (zfr_r _ _ _) f7 rfl rfl
                  have f119 : zfr [12, 13, 14, 15, 29, 30] [18] h h9 := zfr_wa f120 e10 rfl
                  have f118 : zfr [12, 13, 14, 15, 29, 30] [18] h h23 := zfr_t f119 f28 rfl rfl
                  have f117 : zfr [12, 13, 14, 15, 29, 30] [18] h h29 := zfr_wa f118 e30 rfl
                  have f116 : zfr [12, 13, 14, 15, 29, 30] [18] h h90 := zfr_t f117 f94 rfl rfl
                  have f115 : zfr [12, 13, 14, 15, 29, 30] [18] h h96 := zfr_wa f116 e97 rfl
                  exact zj_iret rfl (zdk ttX11_readDeed 85 rfl rfl) (Nat.le_refl _) (Nat.le_refl _) ⟨(-1), rfl, by omega, s98, f115, (fun q => absurd q (by decide)), (fun j q => ((((((zwr_r e97 (by first | decide | exact (absurd ·.1 (by decide)) | exact (absurd ·.2 (by decide)) | omega)).trans (zfr_a f94 rfl (by decide))).trans (zwr_r e30 (by first | decide | exact (absurd ·.1 (by decide)) | exact (absurd ·.2 (by decide)) | omega))).trans (zfr_a f28 rfl (by decide))).trans (zwr_r e10 (by first | decide | exact (absurd ·.1 (by decide)) | exact (absurd ·.2 (by decide)) | omega))).trans (zfr_a f7 rfl (by decide))))⟩
            · exact absurd c53 (by omega)
          · refine zj_iconst (zdk ttX11_readDeed 53 rfl rfl) ?_
            refine zj_goto (t := 89) (zdk ttX11_readDeed 54 rfl rfl) (by decide) ?_
            refine zj_iload_n (zdk ttX11_readDeed 56 rfl rfl) rfl ?_
            refine zj_iconst (zdk ttX11_readDeed 57 rfl rfl) ?_
            refine zj_icmp_ge (t := 103) (zdk ttX11_readDeed 58 rfl rfl) (by decide) (by omega) (by decide) (fun c121 => ?_) (fun c121 => ?_)
            · exact absurd c121 (by omega)
            · refine zj_aload_n (zdk ttX11_readDeed 59 rfl rfl) rfl (by decide) ?_
              have b122 : 0 ≤ (h.2 0 6) ∧ (h.2 0 6) ≤ 18 := fM_6 s0
              refine zj_geti (v := (h.2 0 6)) (zdk ttX11_readDeed 60 rfl rfl) zf_RX11_132 rfl (k_M s31) ((((zwr_r e30 (by first | decide | exact (absurd ·.1 (by decide)) | exact (absurd ·.2 (by decide)) | omega)).trans (zfr_f f28 rfl rfl)).trans (zwr_r e10 (by first | decide | exact (absurd ·.1 (by decide)) | exact (absurd ·.2 (by decide)) | omega))).trans (zfr_f f7 rfl rfl)) ?_
              refine zj_iconst (zdk ttX11_readDeed 61 rfl rfl) ?_
              refine zj_isub (zdk ttX11_readDeed 62 rfl rfl) ?_
              refine zj_goto (t := 116) (zdk ttX11_readDeed 63 rfl rfl) (by decide) ?_
              refine zj_callV (av := [.inl 0, .inl ((h.2 0 6) - 1)]) (st := [.inl (p1 + 2), .inr 18]) (zdk ttX11_readDeed 70 rfl rfl) mb_X11_readNumber mv_RX11_248 (ci := 11) rfl rfl (k_M s31) rfl rfl (Nat.le_of_ble_eq_true rfl) (s_X11_readNumber l h29 0 ((h.2 0 6) - 1) s31 (by omega) (by omega)) (rm_ok (by decide) (by decide)) (zq_i fun v124 h125 q123 => ?_)
              obtain ⟨b126, s127, f129, u128⟩ := q123
              have b130 : -1 ≤ v124 ∧ v124 ≤ 17 := by omega
              refine zj_iast (zdk ttX11_readDeed 71 rfl rfl) (kaM_18 s127) (by decide) (by omega) (fun h131 e132 => ?_)
              refine zj_aload_n (zdk ttX11_readDeed 72 rfl rfl) rfl (by decide) ?_
              have s133 : okM h131 := awM_18 s127 e132 (by omega) (by unfold nsp; omega)
              refine zj_getr (r := 18) (zdk ttX11_readDeed 73 rfl rfl) zf_RX11_65 rfl (k_M s133) (rfM_36 s133) ?_
              refine zj_iload_n (zdk ttX11_readDeed 74 rfl rfl) rfl ?_
              refine zj_iconst (zdk ttX11_readDeed 75 rfl rfl) ?_
              refine zj_iadd (zdk ttX11_readDeed 76 rfl rfl) ?_
              refine zj_iald (v := v124) (zdk ttX11_readDeed 77 rfl rfl) (kaM_18 s133) (by decide) (by omega) (zwr_v e132) ?_
              refine zj_iconst (zdk ttX11_readDeed 78 rfl rfl) ?_
              refine zj_icmp_ne (t := 136) (zdk ttX11_readDeed 79 rfl rfl) (by decide) (by omega) (by decide) (fun c134 => ?_) (fun c134 => ?_)
              · refine zj_aload_n (zdk ttX11_readDeed 82 rfl rfl) rfl (by decide) ?_
                refine zj_bipush (zdk ttX11_readDeed 83 rfl rfl) (by decide) ?_
                refine zj_callV (av := [.inl 59]) (st := []) (zdk ttX11_readDeed 84 rfl rfl) mb_X11_readMark mv_RX11_255 (ci := 11) rfl rfl (k_M s133) rfl rfl (Nat.le_of_ble_eq_true rfl) (s_X11_readMark l h131 59 s133 (by omega)) (rm_ok (by decide) (by decide)) (zq_i fun v136 h137 q135 => ?_)
                obtain ⟨b138, s139, f140⟩ := q135
                have f147 : zfr [12, 13, 14, 15, 29, 30] [18] h h3 := zfr_t (zfr_r _ _ _) f7 rfl rfl
                have f146 : zfr [12, 13, 14, 15, 29, 30] [18] h h9 := zfr_wa f147 e10 rfl
                have f145 : zfr [12, 13, 14, 15, 29, 30] [18] h h23 := zfr_t f146 f28 rfl rfl
                have f144 : zfr [12, 13, 14, 15, 29, 30] [18] h h29 := zfr_wa f145 e30 rfl
                have f143 : zfr [12, 13, 14, 15, 29, 30] [18] h h125 := zfr_t f144 f129 rfl rfl
                have f142 : zfr [12, 13, 14, 15, 29, 30] [18] h h131 := zfr_wa f143 e132 rfl
                have f141 : zfr [12, 13, 14, 15, 29, 30] [18] h h137 := zfr_t f142 f140 rfl rfl
                have b148 : h137.2 18 (p1 + 1) = v14 := ((((zfr_a f140 rfl (by decide)).trans (zwr_r e132 (by first | decide | exact (absurd ·.1 (by decide)) | exact (absurd ·.2 (by decide)) | omega))).trans (zfr_a f129 rfl (by decide))).trans (zwr_v e30))
                have b149 : h137.2 18 (p1 + 2) = v124 := ((zfr_a f140 rfl (by decide)).trans (zwr_v e132))
                exact zj_iret rfl (zdk ttX11_readDeed 85 rfl rfl) (Nat.le_refl _) (Nat.le_refl _) ⟨v136, rfl, by omega, s139, f141, (fun q => by unfold wfD1; omega), (fun j q => (((((((zfr_a f140 rfl (by decide)).trans (zwr_r e132 (by first | decide | exact (absurd ·.1 (by decide)) | exact (absurd ·.2 (by decide)) | omega))).trans (zfr_a f129 rfl (by decide))).trans (zwr_r e30 (by first | decide | exact (absurd ·.1 (by decide)) | exact (absurd ·.2 (by decide)) | omega))).trans (zfr_a f28 rfl (by decide))).trans (zwr_r e10 (by first | decide | exact (absurd ·.1 (by decide)) | exact (absurd ·.2 (by decide)) | omega))).trans (zfr_a f7 rfl (by decide))))⟩
              · refine zj_iconst (zdk ttX11_readDeed 80 rfl rfl) ?_
                refine zj_goto (t := 142) (zdk ttX11_readDeed 81 rfl rfl) (by decide) ?_
                have f155 : zfr [12, 13, 14, 15, 29, 30] [18] h h3 := zfr_t (zfr_r _ _ _) f7 rfl rfl
                have f154 : zfr [12, 13, 14, 15, 29, 30] [18] h h9 := zfr_wa f155 e10 rfl
                have f153 : zfr [12, 13, 14, 15, 29, 30] [18] h h23 := zfr_t f154 f28 rfl rfl
                have f152 : zfr [12, 13, 14, 15, 29, 30] [18] h h29 := zfr_wa f153 e30 rfl
                have f151 : zfr [12, 13, 14, 15, 29, 30] [18] h h125 := zfr_t f152 f129 rfl rfl
                have f150 : zfr [12, 13, 14, 15, 29, 30] [18] h h131 := zfr_wa f151 e132 rfl
                exact zj_iret rfl (zdk ttX11_readDeed 85 rfl rfl) (Nat.le_refl _) (Nat.le_refl _) ⟨(-1), rfl, by omega, s133, f150, (fun q => absurd q (by decide)), (fun j q => ((((((zwr_r e132 (by first | decide | exact (absurd ·.1 (by decide)) | exact (absurd ·.2 (by decide)) | omega)).trans (zfr_a f129 rfl (by decide))).trans (zwr_r e30 (by first | decide | exact (absurd ·.1 (by decide)) | exact (absurd ·.2 (by decide)) | omega))).trans (zfr_a f28 rfl (by decide))).trans (zwr_r e10 (by first | decide | exact (absurd ·.1 (by decide)) | exact (absurd ·.2 (by decide)) | omega))).trans (zfr_a f7 rfl (by decide))))⟩
        · refine zj_iconst (zdk ttX11_readDeed 47 rfl rfl) ?_
          refine zj_goto (t := 119) (zdk ttX11_readDeed 48 rfl rfl) (by decide) ?_
          refine zj_iast (zdk ttX11_readDeed 71 rfl rfl) (kaM_18 s31) (by decide) (by omega) (fun h156 e157 => ?_)
          refine zj_aload_n (zdk ttX11_readDeed 72 rfl rfl) rfl (by decide) ?_
          have s158 : okM h156 := awM_18 s31 e157 (by omega) (by unfold nsp; omega)
          refine zj_getr (r := 18) (zdk ttX11_readDeed 73 rfl rfl) zf_RX11_65 rfl (k_M s158) (rfM_36 s158) ?_
          refine zj_iload_n (zdk ttX11_readDeed 74 rfl rfl) rfl ?_
          refine zj_iconst (zdk ttX11_readDeed 75 rfl rfl) ?_
          refine zj_iadd (zdk ttX11_readDeed 76 rfl rfl) ?_
          refine zj_iald (v := 0) (zdk ttX11_readDeed 77 rfl rfl) (kaM_18 s158) (by decide) (by omega) (zwr_v e157) ?_
          refine zj_iconst (zdk ttX11_readDeed 78 rfl rfl) ?_
          refine zj_icmp_ne (t := 136) (zdk ttX11_readDeed 79 rfl rfl) (by decide) (by decide) (by decide) (fun c159 => ?_) (fun c159 => ?_)
          · refine zj_aload_n (zdk ttX11_readDeed 82 rfl rfl) rfl (by decide) ?_
            refine zj_bipush (zdk ttX11_readDeed 83 rfl rfl) (by decide) ?_
            refine zj_callV (av := [.inl 59]) (st := []) (zdk ttX11_readDeed 84 rfl rfl) mb_X11_readMark mv_RX11_255 (ci := 11) rfl rfl (k_M s158) rfl rfl (Nat.le_of_ble_eq_true rfl) (s_X11_readMark l h156 59 s158 (by omega)) (rm_ok (by decide) (by decide)) (zq_i fun v161 h162 q160 => ?_)
            obtain ⟨b163, s164, f165⟩ := q160
            have f171 : zfr [12, 13, 14, 15, 29, 30] [18] h h3 := zfr_t (zfr_r _ _ _) f7 rfl rfl
            have f170 : zfr [12, 13, 14, 15, 29, 30] [18] h h9 := zfr_wa f171 e10 rfl
            have f169 : zfr [12, 13, 14, 15, 29, 30] [18] h h23 := zfr_t f170 f28 rfl rfl
            have f168 : zfr [12, 13, 14, 15, 29, 30] [18] h h29 := zfr_wa f169 e30 rfl
            have f167 : zfr [12, 13, 14, 15, 29, 30] [18] h h156 := zfr_wa f168 e157 rfl
            have f166 : zfr [12, 13, 14, 15, 29, 30] [18] h h162 := zfr_t f167 f165 rfl rfl
            have b172 : h162.2 18 (p1 + 1) = v14 := (((zfr_a f165 rfl (by decide)).trans (zwr_r e157 (by first | decide | exact (absurd ·.1 (by decide)) | exact (absurd ·.2 (by decide)) | omega))).trans (zwr_v e30))
            have b173 : h162.2 18 (p1 + 2) = 0 := ((zfr_a f165 rfl (by decide)).trans (zwr_v e157))
            exact zj_iret rfl (zdk ttX11_readDeed 85 rfl rfl) (Nat.le_refl _) (Nat.le_refl _) ⟨v161, rfl, by omega, s164, f166, (fun q => by unfold wfD1; omega), (fun j q => ((((((zfr_a f165 rfl (by decide)).trans (zwr_r e157 (by first | decide | exact (absurd ·.1 (by decide)) | exact (absurd ·.2 (by decide)) | omega))).trans (zwr_r e30 (by first | decide | exact (absurd ·.1 (by decide)) | exact (absurd ·.2 (by decide)) | omega))).trans (zfr_a f28 rfl (by decide))).trans (zwr_r e10 (by first | decide | exact (absurd ·.1 (by decide)) | exact (absurd ·.2 (by decide)) | omega))).trans (zfr_a f7 rfl (by decide))))⟩
          · exact absurd c159 (by omega)
    · refine zj_aload_n (zdk ttX11_readDeed 23 rfl rfl) rfl (by decide) ?_
      refine zj_iconst (zdk ttX11_readDeed 24 rfl rfl) ?_
      refine zj_callV (av := [.inl 1]) (st := []) (zdk ttX11_readDeed 25 rfl rfl) mb_X11_errs mv_RX11_197 (ci := 11) rfl rfl (k_M s11) rfl rfl (Nat.le_of_ble_eq_true rfl) (s_X11_errs l h9 1 s11 (by omega)) (rm_ok (by decide) (by decide)) (zq_i fun v175 h176 q174 => ?_)
      obtain ⟨b177, s178, f179⟩ := q174
      have f182 : zfr [12, 13, 14, 15, 29, 30] [18] h h3 := zfr_t (zfr_r _ _ _) f7 rfl rfl
      have f181 : zfr [12, 13, 14, 15, 29, 30] [18] h h9 := zfr_wa f182 e10 rfl
      have f180 : zfr [12, 13, 14, 15, 29, 30] [18] h h176 := zfr_t f181 f179 rfl rfl
      have b183 : h176.2 18 (p1 + 1) = (h.2 18 (p1 + 1)) := (((zfr_a f179 rfl (by decide)).trans (zwr_r e10 (by first | decide | exact (absurd ·.1 (by decide)) | exact (absurd ·.2 (by decide)) | omega))).trans (zfr_a f7 rfl (by decide)))
      have b184 : -2147483648 ≤ (h.2 18 (p1 + 1)) ∧ (h.2 18 (p1 + 1)) ≤ 2147483647 := abM_18 s0 (p1 + 1)
      have b185 : h176.2 18 (p1 + 2) = (h.2 18 (p1 + 2)) := (((zfr_a f179 rfl (by decide)).trans (zwr_r e10 (by first | decide | exact (absurd ·.1 (by decide)) | exact (absurd ·.2 (by decide)) | omega))).trans (zfr_a f7 rfl (by decide)))
      have b186 : -2147483648 ≤ (h.2 18 (p1 + 2)) ∧ (h.2 18 (p1 + 2)) ≤ 2147483647 := abM_18 s0 (p1 + 2)
      exact zj_iret rfl (zdk ttX11_readDeed 26 rfl rfl) (Nat.le_refl _) (Nat.le_refl _) ⟨v175, rfl, by omega, s178, f180, (fun q => by unfold wfD1; omega), (fun j q => (((zfr_a f179 rfl (by decide)).trans (zwr_r e10 (by first | decide | exact (absurd ·.1 (by decide)) | exact (absurd ·.2 (by decide)) | omega))).trans (zfr_a f7 rfl (by decide))))⟩
  · refine zj_iconst (zdk ttX11_readDeed 15 rfl rfl) ?_
    have f188 : zfr [12, 13, 14, 15, 29, 30] [18] h h3 := zfr_t (zfr_r _ _ _) f7 rfl rfl
    have f187 : zfr [12, 13, 14, 15, 29, 30] [18] h h9 := zfr_wa f188 e10 rfl
    exact zj_iret rfl (zdk ttX11_readDeed 16 rfl rfl) (Nat.le_refl _) (Nat.le_refl _) ⟨(-1), rfl, by omega, s11, f187, (fun q => absurd q (by decide)), (fun j q => ((zwr_r e10 (by first | decide | exact (absurd ·.1 (by decide)) | exact (absurd ·.2 (by decide)) | omega)).trans (zfr_a f7 rfl (by decide))))⟩

abbrev tX11_readTown : List (Nat × Instr × Nat) := [(0, .iconst 0, 1), (1, .istore_n 1, 1), (2, .aload_n 0, 1), (3, .bipush 17, 2), (5, .invokevirtual 226, 3), (8, .ifCond .eq 38, 3), (11, .iload_n 1, 1), (12, .bipush 16, 2), (14, .if_icmp .ne 9, 3), (17, .aload_n 0, 1), (18, .iconst 3, 1), (19, .invokevirtual 197, 3), (22, .ireturn, 1), (23, .aload_n 0, 1), (24, .bipush 48, 2), (26, .iconst 3, 1), (27, .iload_n 1, 1), (28, .imul, 1), (29, .iadd, 1), (30, .invokevirtual 264, 3), (33, .iconst (-1), 1), (34, .if_icmp .ne 5, 3), (37, .iconst (-1), 1), (38, .ireturn, 1), (39, .iload_n 1, 1), (40, .iconst 1, 1), (41, .iadd, 1), (42, .istore_n 1, 1), (43, .goto (-41), 3), (46, .aload_n 0, 1), (47, .getfield 166, 3), (50, .ifCond .ne 7, 3), (53, .iload_n 1, 1), (54, .goto 8, 3), (57, .aload_n 0, 1), (58, .iconst 1, 1), (59, .invokevirtual 197, 3), (62, .ireturn, 1)]
theorem ttX11_readTown : zdt cX11_readTown tX11_readTown = true := by decide +kernel
abbrev q_X11_readTown (h : zM) : Option zV → zM → Prop := zqi fun v h' => ((-1) ≤ v ∧ v ≤ 16) ∧ okM h' ∧ zfr [12, 13, 14, 15, 29, 30] [18] h h' ∧ (∀ j, 0 ≤ j → j < v → wfD1 (h'.2 18 (48 + 3 * j + 1)) (h'.2 18 (48 + 3 * j + 2)))
set_option maxRecDepth 100000 in
set_option maxHeartbeats 4000000 in
theorem s_X11_readTown (l : Launch) (h : zM) (s0 : okM h) : zT shM l yX11_readTown cX11_readTown 2 (some .int) (rmL 7) 0 0 [.inr 0] h (q_X11_readTown h) := by
  refine zT_of (by decide +kernel) (L0 := [some (.inr 0), none]) rfl (Nat.le_of_ble_eq_true rfl) ?_
  refine zj_iconst (zdk ttX11_readTown 0 rfl rfl) ?_
  refine zj_istore_n (L' := [some (.inr 0), some (.inl 0)]) (zdk ttX11_readTown 1 rfl rfl) (by decide) rfl ?_
  have lp23 : ∀ (n2 : Nat) (x1 : Int) (h2 : zM), (0 ≤ x1 ∧ x1 ≤ 16) → okM h2 → zfr [12, 13, 14, 15, 29, 30] [18] h h2 → (∀ j, 0 ≤ j → j < x1 → wfD1 (h2.2 18 (48 + 3 * j + 1)) (h2.2 18 (48 + 3 * j + 2))) → (17 - x1).toNat < n2 → zJ shM l yX11_readTown cX11_readTown 2 (some .int) (rmL 7) 0 0 (q_X11_readTown h) 0 0 2 [some (.inr 0), some (.inl x1)] [] h2 := by
    intro n2
    induction n2 with
    | zero => intro x1 h2 b24 s3 f4 u25 m26; exact absurd m26 (Nat.not_lt_zero _)
    | succ n2 ih27 =>
      intro x1 h2 b24 s3 f4 u25 m26
      refine zj_aload_n (zdk ttX11_readTown 2 rfl rfl) rfl (by decide) ?_
      refine zj_bipush (zdk ttX11_readTown 3 rfl rfl) (by decide) ?_
      refine zj_callV (av := [.inl 17]) (st := []) (zdk ttX11_readTown 4 rfl rfl) mb_X11_isWord mv_RX11_226 (ci := 11) rfl rfl (k_M s3) rfl rfl (Nat.le_of_ble_eq_true rfl) (s_X11_isWord l h2 17 s3 (by omega)) (rm_ok (by decide) (by decide)) (zq_i fun v29 h30 q28 => ?_)
      obtain ⟨rfl, b32, b33, ⟨rfl, b31⟩ | ⟨rfl, b31⟩⟩ := q28
      · refine zj_if_eq (t := 46) (zdk ttX11_readTown 5 rfl rfl) (by decide) (by decide) (fun c34 => ?_) (fun c34 => ?_)
        · refine zj_aload_n (zdk ttX11_readTown 29 rfl rfl) rfl (by decide) ?_
          refine zj_geti (v := (h2.2 0 14)) (zdk ttX11_readTown 30 rfl rfl) zf_RX11_166 rfl (k_M s3) rfl ?_
          refine zj_if_ne (t := 57) (zdk ttX11_readTown 31 rfl rfl) (by decide) (by omega) (fun c35 => ?_) (fun c35 => ?_)
          · refine zj_aload_n (zdk ttX11_readTown 34 rfl rfl) rfl (by decide) ?_
            refine zj_iconst (zdk ttX11_readTown 35 rfl rfl) ?_
            refine zj_callV (av := [.inl 1]) (st := []) (zdk ttX11_readTown 36 rfl rfl) mb_X11_errs mv_RX11_197 (ci := 11) rfl rfl (k_M s3) rfl rfl (Nat.le_of_ble_eq_true rfl) (s_X11_errs l h2 1 s3 (by omega)) (rm_ok (by decide) (by decide)) (zq_i fun v37 h38 q36 => ?_)
            obtain ⟨b39, s40, f41⟩ := q36
            have f42 : zfr [12, 13, 14, 15, 29, 30] [18] h h38 := zfr_t f4 f41 rfl rfl
            exact zj_iret rfl (zdk ttX11_readTown 37 rfl rfl) (Nat.le_refl _) (Nat.le_refl _) ⟨v37, rfl, by omega, s40, f42, (fun j q1 q2 => absurd q1 (by omega))⟩
          · refine zj_iload_n (zdk ttX11_readTown 32 rfl rfl) rfl ?_
            refine zj_goto (t := 62) (zdk ttX11_readTown 33 rfl rfl) (by decide) ?_
            exact zj_iret rfl (zdk ttX11_readTown 37 rfl rfl) (Nat.le_refl _) (Nat.le_refl _) ⟨x1, rfl, by omega, s3, f4, u25⟩
        · exact absurd c34 (by omega)
      · refine zj_if_eq (t := 46) (zdk ttX11_readTown 5 rfl rfl) (by decide) (by decide) (fun c43 => ?_) (fun c43 => ?_)
        · exact absurd c43 (by omega)
        · refine zj_iload_n (zdk ttX11_readTown 6 rfl rfl) rfl ?_
          refine zj_bipush (zdk ttX11_readTown 7 rfl rfl) (by decide) ?_
          refine zj_icmp_ne (t := 23) (zdk ttX11_readTown 8 rfl rfl) (by decide) (by omega) (by decide) (fun c44 => ?_) (fun c44 => ?_)
          · refine zj_aload_n (zdk ttX11_readTown 13 rfl rfl) rfl (by decide) ?_
            refine zj_bipush (zdk ttX11_readTown 14 rfl rfl) (by decide) ?_
            refine zj_iconst (zdk ttX11_readTown 15 rfl rfl) ?_
            refine zj_iload_n (zdk ttX11_readTown 16 rfl rfl) rfl ?_
            refine zj_imul (zdk ttX11_readTown 17 rfl rfl) ?_
            refine zj_iadd (zdk ttX11_readTown 18 rfl rfl) ?_
            refine zj_callV (av := [.inl (48 + (3 * x1))]) (st := []) (zdk ttX11_readTown 19 rfl rfl) mb_X11_readDeed mv_RX11_264 (ci := 11) rfl rfl (k_M s3) rfl rfl (Nat.le_of_ble_eq_true rfl) (s_X11_readDeed l h2 (48 + (3 * x1)) s3 (by omega)) (rm_ok (by decide) (by decide)) (zq_i fun v46 h47 q45 => ?_)
            obtain ⟨b48, s49, f52, u50, u51⟩ := q45
            refine zj_iconst (zdk ttX11_readTown 20 rfl rfl) ?_
            refine zj_icmp_ne (t := 39) (zdk ttX11_readTown 21 rfl rfl) (by decide) (by omega) (by decide) (fun c53 => ?_) (fun c53 => ?_)
            · refine zj_iload_n (zdk ttX11_readTown 24 rfl rfl) rfl ?_
              refine zj_iconst (zdk ttX11_readTown 25 rfl rfl) ?_
              refine zj_iadd (zdk ttX11_readTown 26 rfl rfl) ?_
              refine zj_istore_n (L' := [some (.inr 0), some (.inl (x1 + 1))]) (zdk ttX11_readTown 27 rfl rfl) (by decide) rfl ?_
              refine zj_goto (t := 2) (zdk ttX11_readTown 28 rfl rfl) (by decide) ?_
              have f54 : zfr [12, 13, 14, 15, 29, 30] [18] h h47 := zfr_t f4 f52 rfl rfl
              exact ih27  (x1 + 1) h47 (by omega) s49 f54 (fun j q1 q2 => (Classical.em (j = x1)).elim (fun q => by rw [q]; exact u50 (by omega)) (fun q => by rw [u51 _ (by omega), u51 _ (by omega)]; exact u25 j q1 (by omega))) (by omega)
            · refine zj_iconst (zdk ttX11_readTown 22 rfl rfl) ?_
              have f55 : zfr [12, 13, 14, 15, 29, 30] [18] h h47 := zfr_t f4 f52 rfl rfl
              exact zj_iret rfl (zdk ttX11_readTown 23 rfl rfl) (Nat.le_refl _) (Nat.le_refl _) ⟨(-1), rfl, by omega, s49, f55, (fun j q1 q2 => absurd q1 (by omega))⟩
          · refine zj_aload_n (zdk ttX11_readTown 9 rfl rfl) rfl (by decide) ?_
            refine zj_iconst (zdk ttX11_readTown 10 rfl rfl) ?_
            refine zj_callV (av := [.inl 3]) (st := []) (zdk ttX11_readTown 11 rfl rfl) mb_X11_errs mv_RX11_197 (ci := 11) rfl rfl (k_M s3) rfl rfl (Nat.le_of_ble_eq_true rfl) (s_X11_errs l h2 3 s3 (by omega)) (rm_ok (by decide) (by decide)) (zq_i fun v57 h58 q56 => ?_)
            obtain ⟨b59, s60, f61⟩ := q56
            have f62 : zfr [12, 13, 14, 15, 29, 30] [18] h h58 := zfr_t f4 f61 rfl rfl
            exact zj_iret rfl (zdk ttX11_readTown 12 rfl rfl) (Nat.le_refl _) (Nat.le_refl _) ⟨v57, rfl, by omega, s60, f62, (fun j q1 q2 => absurd q1 (by omega))⟩
  exact lp23 _ 0 h (by omega) s0 (zfr_r _ _ _) (fun j q1 q2 => absurd q1 (by omega)) (Nat.lt_succ_self _)

abbrev tX11_readKin : List (Nat × Instr × Nat) := [(0, .aload_n 0, 1), (1, .bipush 22, 2), (3, .iconst 0, 1), (4, .aload_n 0, 1), (5, .getfield 132, 3), (8, .iconst 1, 1), (9, .isub, 1), (10, .invokevirtual 251, 3), (13, .istore_n 1, 1), (14, .iload_n 1, 1), (15, .iconst (-1), 1), (16, .if_icmp .ne 5, 3), (19, .iconst (-1), 1), (20, .ireturn, 1), (21, .aload_n 0, 1), (22, .bipush 15, 2), (24, .invokevirtual 226, 3), (27, .ifCond .ne 9, 3), (30, .aload_n 0, 1), (31, .iconst 1, 1), (32, .invokevirtual 197, 3), (35, .ireturn, 1), (36, .aload_n 0, 1), (37, .invokevirtual 204, 3), (40, .aload_n 0, 1), (41, .getfield 166, 3), (44, .iconst 3, 1), (45, .if_icmp .ne 17, 3), (48, .aload_n 0, 1), (49, .getfield 169, 3), (52, .iload_n 1, 1), (53, .if_icmp .ne 9, 3), (56, .aload_n 0, 1), (57, .iconst 2, 1), (58, .invokevirtual 197, 3), (61, .ireturn, 1), (62, .aload_n 0, 1), (63, .iconst 0, 1), (64, .aload_n 0, 1), (65, .getfield 132, 3), (68, .iconst 1, 1), (69, .isub, 1), (70, .invokevirtual 248, 3), (73, .istore_n 2, 1), (74, .iload_n 2, 1), (75, .iconst (-1), 1), (76, .if_icmp .ne 5, 3), (79, .iconst (-1), 1), (80, .ireturn, 1), (81, .aload_n 0, 1), (82, .getfield 68, 3), (85, .bipush 18, 2), (87, .iload_n 1, 1), (88, .iadd, 1), (89, .aload_n 0, 1), (90, .getfield 68, 3), (93, .bipush 18, 2), (95, .iload_n 1, 1), (96, .iadd, 1), (97, .iaload, 1), (98, .iconst 1, 1), (99, .iload_n 2, 1), (100, .ishl, 1), (101, .ior, 1), (102, .iastore, 1), (103, .aload_n 0, 1), (104, .getfield 68, 3), (107, .bipush 18, 2), (109, .iload_n 2, 1), (110, .iadd, 1), (111, .aload_n 0, 1), (112, .getfield 68, 3), (115, .bipush 18, 2), (117, .iload_n 2, 1), (118, .iadd, 1), (119, .iaload, 1), (120, .iconst 1, 1), (121, .iload_n 1, 1), (122, .ishl, 1), (123, .ior, 1), (124, .iastore, 1), (125, .aload_n 0, 1), (126, .bipush 59, 2), (128, .invokevirtual 255, 3), (131, .ireturn, 1)]
theorem ttX11_readKin : zdt cX11_readKin tX11_readKin = true := by decide +kernel
abbrev q_X11_readKin (h : zM) : Option zV → zM → Prop := zqi fun v h' => ((-1) ≤ v ∧ v ≤ 0) ∧ okM h' ∧ zfr [12, 13, 14, 15, 29, 30] [19] h h'
set_option maxRecDepth 100000 in
set_option maxHeartbeats 4000000 in
theorem s_X11_readKin (l : Launch) (h : zM) (s0 : okM h) : zT shM l yX11_readKin cX11_readKin 3 (some .int) (rmL 6) 0 0 [.inr 0] h (q_X11_readKin h) := by
  refine zT_of (by decide +kernel) (L0 := [some (.inr 0), none, none]) rfl (Nat.le_of_ble_eq_true rfl) ?_
  refine zj_aload_n (zdk ttX11_readKin 0 rfl rfl) rfl (by decide) ?_
  refine zj_bipush (zdk ttX11_readKin 1 rfl rfl) (by decide) ?_
  refine zj_iconst (zdk ttX11_readKin 2 rfl rfl) ?_
  refine zj_aload_n (zdk ttX11_readKin 3 rfl rfl) rfl (by decide) ?_
  have b1 : 0 ≤ (h.2 0 6) ∧ (h.2 0 6) ≤ 18 := fM_6 s0
  refine zj_geti (v := (h.2 0 6)) (zdk ttX11_readKin 4 rfl rfl) zf_RX11_132 rfl (k_M s0) rfl ?_
  refine zj_iconst (zdk ttX11_readKin 5 rfl rfl) ?_
  refine zj_isub (zdk ttX11_readKin 6 rfl rfl) ?_
  refine zj_callV (av := [.inl 22, .inl 0, .inl ((h.2 0 6) - 1)]) (st := []) (zdk ttX11_readKin 7 rfl rfl) mb_X11_readTold mv_RX11_251 (ci := 11) rfl rfl (k_M s0) rfl rfl (Nat.le_of_ble_eq_true rfl) (s_X11_readTold l h 22 0 ((h.2 0 6) - 1) s0 (by omega) (by omega) (by omega)) (rm_ok (by decide) (by decide)) (zq_i fun v3 h4 q2 => ?_)
  obtain ⟨b5, s6, f8, u7⟩ := q2
  have b9 : -1 ≤ v3 ∧ v3 ≤ 17 := by omega
  refine zj_istore_n (L' := [some (.inr 0), some (.inl v3), none]) (zdk ttX11_readKin 8 rfl rfl) (by decide) rfl ?_
  refine zj_iload_n (zdk ttX11_readKin 9 rfl rfl) rfl ?_
  refine zj_iconst (zdk ttX11_readKin 10 rfl rfl) ?_
  refine zj_icmp_ne (t := 21) (zdk ttX11_readKin 11 rfl rfl) (by decide) (by omega) (by decide) (fun c10 => ?_) (fun c10 => ?_)
  · refine zj_aload_n (zdk ttX11_readKin 14 rfl rfl) rfl (by decide) ?_
    refine zj_bipush (zdk ttX11_readKin 15 rfl rfl) (by decide) ?_
    refine zj_callV (av := [.inl 15]) (st := []) (zdk ttX11_readKin 16 rfl rfl) mb_X11_isWord mv_RX11_226 (ci := 11) rfl rfl (k_M s6) rfl rfl (Nat.le_of_ble_eq_true rfl) (s_X11_isWord l h4 15 s6 (by omega)) (rm_ok (by decide) (by decide)) (zq_i fun v12 h13 q11 => ?_)
    obtain ⟨rfl, b15, b16, ⟨rfl, b14⟩ | ⟨rfl, b14⟩⟩ := q11
    · refine zj_if_ne (t := 36) (zdk ttX11_readKin 17 rfl rfl) (by decide) (by decide) (fun c17 => ?_) (fun c17 => ?_)
      · exact absurd c17 (by omega)
      · refine zj_aload_n (zdk ttX11_readKin 18 rfl rfl) rfl (by decide) ?_
        refine zj_iconst (zdk ttX11_readKin 19 rfl rfl) ?_
        refine zj_callV (av := [.inl 1]) (st := []) (zdk ttX11_readKin 20 rfl rfl) mb_X11_errs mv_RX11_197 (ci := 11) rfl rfl (k_M s6) rfl rfl (Nat.le_of_ble_eq_true rfl) (s_X11_errs l h4 1 s6 (by omega)) (rm_ok (by decide) (by decide)) (zq_i fun v19 h20 q18 => ?_)
        obtain ⟨b21, s22, f23⟩ := q18
        have f25 : zfr [12, 13, 14, 15, 29, 30] [19] h h4 := zfr_t (zfr_r _ _ _) f8 rfl rfl
        have f24 : zfr [12, 13, 14, 15, 29, 30] [19] h h20 := zfr_t f25 f23 rfl rfl
        exact zj_iret rfl (zdk ttX11_readKin 21 rfl rfl) (Nat.le_refl _) (Nat.le_refl _) ⟨v19, rfl, by omega, s22, f24⟩
    · refine zj_if_ne (t := 36) (zdk ttX11_readKin 17 rfl rfl) (by decide) (by decide) (fun c26 => ?_) (fun c26 => ?_)
      · refine zj_aload_n (zdk ttX11_readKin 22 rfl rfl) rfl (by decide) ?_
        refine zj_callV (av := []) (st := []) (zdk ttX11_readKin 23 rfl rfl) mb_X11_reads mv_RX11_204 (ci := 11) rfl rfl (k_M s6) rfl rfl (Nat.le_of_ble_eq_true rfl) (s_X11_reads l h4 s6) (rm_ok (by decide) (by decide)) (zq_v fun h29 q27 => ?_)
        obtain ⟨s31, f34, u32, u33⟩ := q27
        refine zj_aload_n (zdk ttX11_readKin 24 rfl rfl) rfl (by decide) ?_
        have b35 : 0 ≤ (h29.2 0 14) ∧ (h29.2 0 14) ≤ 4 := fM_14 s31
        refine zj_geti (v := (h29.2 0 14)) (zdk ttX11_readKin 25 rfl rfl) zf_RX11_166 rfl (k_M s31) rfl ?_
        refine zj_iconst (zdk ttX11_readKin 26 rfl rfl) ?_
        refine zj_icmp_ne (t := 62) (zdk ttX11_readKin 27 rfl rfl) (by decide) (by omega) (by decide) (fun c36 => ?_) (fun c36 => ?_)
        · refine zj_aload_n (zdk ttX11_readKin 36 rfl rfl) rfl (by decide) ?_
          refine zj_iconst (zdk ttX11_readKin 37 rfl rfl) ?_
          refine zj_aload_n (zdk ttX11_readKin 38 rfl rfl) rfl (by decide) ?_
          refine zj_geti (v := (h.2 0 6)) (zdk ttX11_readKin 39 rfl rfl) zf_RX11_132 rfl (k_M s31) ((zfr_f f34 rfl rfl).trans (zfr_f f8 rfl rfl)) ?_
          refine zj_iconst (zdk ttX11_readKin 40 rfl rfl) ?_
          refine zj_isub (zdk ttX11_readKin 41 rfl rfl) ?_
          refine zj_callV (av := [.inl 0, .inl ((h.2 0 6) - 1)]) (st := []) (zdk ttX11_readKin 42 rfl rfl) mb_X11_readNumber mv_RX11_248 (ci := 11) rfl rfl (k_M s31) rfl rfl (Nat.le_of_ble_eq_true rfl) (s_X11_readNumber l h29 0 ((h.2 0 6) - 1) s31 (by omega) (by omega)) (rm_ok (by decide) (by decide)) (zq_i fun v38 h39 q37 => ?_)
          obtain ⟨b40, s41, f43, u42⟩ := q37
          have b44 : -1 ≤ v38 ∧ v38 ≤ 17 := by omega
          refine zj_istore_n (L' := [some (.inr 0), some (.inl v3), some (.inl v38)]) (zdk ttX11_readKin 43 rfl rfl) (by decide) rfl ?_
          refine zj_iload_n (zdk ttX11_readKin 44 rfl rfl) rfl ?_
          refine zj_iconst (zdk ttX11_readKin 45 rfl rfl) ?_
          refine zj_icmp_ne (t := 81) (zdk ttX11_readKin 46 rfl rfl) (by decide) (by omega) (by decide) (fun c45 => ?_) (fun c45 => ?_)
          · refine zj_aload_n (zdk ttX11_readKin 49 rfl rfl) rfl (by decide) ?_
            refine zj_getr (r := 19) (zdk ttX11_readKin 50 rfl rfl) zf_RX11_68 rfl (k_M s41) (rfM_38 s41) ?_
            refine zj_bipush (zdk ttX11_readKin 51 rfl rfl) (by decide) ?_
            refine zj_iload_n (zdk ttX11_readKin 52 rfl rfl) rfl ?_
            refine zj_iadd (zdk ttX11_readKin 53 rfl rfl) ?_
            refine zj_aload_n (zdk ttX11_readKin 54 rfl rfl) rfl (by decide) ?_
            refine zj_getr (r := 19) (zdk ttX11_readKin 55 rfl rfl) zf_RX11_68 rfl (k_M s41) (rfM_38 s41) ?_
            refine zj_bipush (zdk ttX11_readKin 56 rfl rfl) (by decide) ?_
            refine zj_iload_n (zdk ttX11_readKin 57 rfl rfl) rfl ?_
            refine zj_iadd (zdk ttX11_readKin 58 rfl rfl) ?_
            have b46 : -2147483648 ≤ (h.2 19 (18 + v3)) ∧ (h.2 19 (18 + v3)) ≤ 2147483647 := abM_19 s0 (18 + v3)
            refine zj_iald (v := (h.2 19 (18 + v3))) (zdk ttX11_readKin 59 rfl rfl) (kaM_19 s41) (by decide) (by omega) (((zfr_a f43 rfl (by decide)).trans (zfr_a f34 rfl (by decide))).trans (zfr_a f8 rfl (by decide))) ?_
            refine zj_iconst (zdk ttX11_readKin 60 rfl rfl) ?_
            refine zj_iload_n (zdk ttX11_readKin 61 rfl rfl) rfl ?_
            refine zj_ishl (zdk ttX11_readKin 62 rfl rfl) ?_
            have b47 := zshl_1 (n := v38) (a := 0) (b := 17) (lo := 1) (hi := 131072) (by omega) (by decide) (by decide) (by decide)
            refine zj_ior (zdk ttX11_readKin 63 rfl rfl) ?_
            have b48 := zor_in (h.2 19 (18 + v3)) (zshl 1 v38)
            refine zj_iast (zdk ttX11_readKin 64 rfl rfl) (kaM_19 s41) (by decide) (by omega) (fun h49 e50 => ?_)
            refine zj_aload_n (zdk ttX11_readKin 65 rfl rfl) rfl (by decide) ?_
            have s51 : okM h49 := awM_19 s41 e50 (by omega) (by unfold nsp; omega)
            refine zj_getr (r := 19) (zdk ttX11_readKin 66 rfl rfl) zf_RX11_68 rfl (k_M s51) (rfM_38 s51) ?_
            refine zj_bipush (zdk ttX11_readKin 67 rfl rfl) (by decide) ?_
            refine zj_iload_n (zdk ttX11_readKin 68 rfl rfl) rfl ?_
            refine zj_iadd (zdk ttX11_readKin 69 rfl rfl) ?_
            refine zj_aload_n (zdk ttX11_readKin 70 rfl rfl) rfl (by decide) ?_
            refine zj_getr (r := 19) (zdk ttX11_readKin 71 rfl rfl) zf_RX11_68 rfl (k_M s51) (rfM_38 s51) ?_
            refine zj_bipush (zdk ttX11_readKin 72 rfl rfl) (by decide) ?_
            refine zj_iload_n (zdk ttX11_readKin 73 rfl rfl) rfl ?_
            refine zj_iadd (zdk ttX11_readKin 74 rfl rfl) ?_
            have b52 : -2147483648 ≤ (h49.2 19 (18 + v38)) ∧ (h49.2 19 (18 + v38)) ≤ 2147483647 := abM_19 s51 (18 + v38)
            refine zj_iald (v := (h49.2 19 (18 + v38))) (zdk ttX11_readKin 75 rfl rfl) (kaM_19 s51) (by decide) (by omega) rfl ?_
            refine zj_iconst (zdk ttX11_readKin 76 rfl rfl) ?_
            refine zj_iload_n (zdk ttX11_readKin 77 rfl rfl) rfl ?_
            refine zj_ishl (zdk ttX11_readKin 78 rfl rfl) ?_
            have b53 := zshl_1 (n := v3) (a := 0) (b := 17) (lo := 1) (hi := 131072) (by omega) (by decide) (by decide) (by decide)
            refine zj_ior (zdk ttX11_readKin 79 rfl rfl) ?_
            have b54 := zor_in (h49.2 19 (18 + v38)) (zshl 1 v3)
            refine zj_iast (zdk ttX11_readKin 80 rfl rfl) (kaM_19 s51) (by decide) (by omega) (fun h55 e56 => ?_)
            refine zj_aload_n (zdk ttX11_readKin 81 rfl rfl) rfl (by decide) ?_
            refine zj_bipush (zdk ttX11_readKin 82 rfl rfl) (by decide) ?_
            have s57 : okM h55 := awM_19 s51 e56 (by omega) (by unfold nsp; omega)
            refine zj_callV (av := [.inl 59]) (st := []) (zdk ttX11_readKin 83 rfl rfl) mb_X11_readMark mv_RX11_255 (ci := 11) rfl rfl (k_M s57) rfl rfl (Nat.le_of_ble_eq_true rfl) (s_X11_readMark l h55 59 s57 (by omega)) (rm_ok (by decide) (by decide)) (zq_i fun v59 h60 q58 => ?_)
            obtain ⟨b61, s62, f63⟩ := q58
            have f69 : zfr [12, 13, 14, 15, 29, 30] [19] h h4 := zfr_t (zfr_r _ _ _) f8 rfl rfl
            have f68 : zfr [12, 13, 14, 15, 29, 30] [19] h h29 := zfr_t f69 f34 rfl rfl
            have f67 : zfr [12, 13, 14, 15, 29, 30] [19] h h39 := zfr_t f68 f43 rfl rfl
            have f66 : zfr [12, 13, 14, 15, 29, 30] [19] h h49 := zfr_wa f67 e50 rfl
            have f65 : zfr [12, 13, 14, 15, 29, 30] [19] h h55 := zfr_wa f66 e56 rfl
            have f64 : zfr [12, 13, 14, 15, 29, 30] [19] h h60 := zfr_t f65 f63 rfl rfl
            exact zj_iret rfl (zdk ttX11_readKin 84 rfl rfl) (Nat.le_refl _) (Nat.le_refl _) ⟨v59, rfl, by omega, s62, f64⟩
          · refine zj_iconst (zdk ttX11_readKin 47 rfl rfl) ?_
            have f72 : zfr [12, 13, 14, 15, 29, 30] [19] h h4 := zfr_t (zfr_r _ _ _) f8 rfl rfl
            have f71 : zfr [12, 13, 14, 15, 29, 30] [19] h h29 := zfr_t f72 f34 rfl rfl
            have f70 : zfr [12, 13, 14, 15, 29, 30] [19] h h39 := zfr_t f71 f43 rfl rfl
            exact zj_iret rfl (zdk ttX11_readKin 48 rfl rfl) (Nat.le_refl _) (Nat.le_refl _) ⟨(-1), rfl, by omega, s41, f70⟩
        · refine zj_aload_n (zdk ttX11_readKin 28 rfl rfl) rfl (by decide) ?_
          have b73 : -2147483648 ≤ (h29.2 0 15) ∧ (h29.2 0 15) ≤ 2147483647 := fM_15 s31
          refine zj_geti (v := (h29.2 0 15)) (zdk ttX11_readKin 29 rfl rfl) zf_RX11_169 rfl (k_M s31) rfl ?_
          refine zj_iload_n (zdk ttX11_readKin 30 rfl rfl) rfl ?_
          refine zj_icmp_ne (t := 62) (zdk ttX11_readKin 31 rfl rfl) (by decide) (by omega) (by omega) (fun c74 => ?_) (fun c74 => ?_)
          · refine zj_aload_n (zdk ttX11_readKin 36 rfl rfl) rfl (by decide) ?_
            refine zj_iconst (zdk ttX11_readKin 37 rfl rfl) ?_
            refine zj_aload_n (zdk ttX11_readKin 38 rfl rfl) rfl (by decide) ?_
            refine zj_geti (v := (h.2 0 6)) (zdk ttX11_readKin 39 rfl rfl) zf_RX11_132 rfl (k_M s31) ((zfr_f f34 rfl rfl).trans (zfr_f f8 rfl rfl)) ?_
            refine zj_iconst (zdk ttX11_readKin 40 rfl rfl) ?_
            refine zj_isub (zdk ttX11_readKin 41 rfl rfl) ?_
            refine zj_callV (av := [.inl 0, .inl ((h.2 0 6) - 1)]) (st := []) (zdk ttX11_readKin 42 rfl rfl) mb_X11_readNumber mv_RX11_248 (ci := 11) rfl rfl (k_M s31) rfl rfl (Nat.le_of_ble_eq_true rfl) (s_X11_readNumber l h29 0 ((h.2 0 6) - 1) s31 (by omega) (by omega)) (rm_ok (by decide) (by decide)) (zq_i fun v76 h77 q75 => ?_)
            obtain ⟨b78, s79, f81, u80⟩ := q75
            have b82 : -1 ≤ v76 ∧ v76 ≤ 17 := by omega
            refine zj_istore_n (L' := [some (.inr 0), some (.inl v3), some (.inl v76)]) (zdk ttX11_readKin 43 rfl rfl) (by decide) rfl ?_
            refine zj_iload_n (zdk ttX11_readKin 44 rfl rfl) rfl ?_
            refine zj_iconst (zdk ttX11_readKin 45 rfl rfl) ?_
            refine zj_icmp_ne (t := 81) (zdk ttX11_readKin 46 rfl rfl) (by decide) (by omega) (by decide) (fun c83 => ?_) (fun c83 => ?_)
            · refine zj_aload_n (zdk ttX11_readKin 49 rfl rfl) rfl (by decide) ?_
              refine zj_getr (r := 19) (zdk ttX11_readKin 50 rfl rfl) zf_RX11_68 rfl (k_M s79) (rfM_38 s79) ?_
              refine zj_bipush (zdk ttX11_readKin 51 rfl rfl) (by decide) ?_
              refine zj_iload_n (zdk ttX11_readKin 52 rfl rfl) rfl ?_
              refine zj_iadd (zdk ttX11_readKin 53 rfl rfl) ?_
              refine zj_aload_n (zdk ttX11_readKin 54 rfl rfl) rfl (by decide) ?_
              refine zj_getr (r := 19) (zdk ttX11_readKin 55 rfl rfl) zf_RX11_68 rfl (k_M s79) (rfM_38 s79) ?_
              refine zj_bipush (zdk ttX11_readKin 56 rfl rfl) (by decide) ?_
              refine zj_iload_n (zdk ttX11_readKin 57 rfl rfl) rfl ?_
              refine zj_iadd (zdk ttX11_readKin 58 rfl rfl) ?_
              have b84 : -2147483648 ≤ (h.2 19 (18 + v3)) ∧ (h.2 19 (18 + v3)) ≤ 2147483647 := abM_19 s0 (18 + v3)
              refine zj_iald (v := (h.2 19 (18 + v3))) (zdk ttX11_readKin 59 rfl rfl) (kaM_19 s79) (by decide) (by omega) (((zfr_a f81 rfl (by decide)).trans (zfr_a f34 rfl (by decide))).trans (zfr_a f8 rfl (by decide))) ?_
              refine zj_iconst (zdk ttX11_readKin 60 rfl rfl) ?_
              refine zj_iload_n (zdk ttX11_readKin 61 rfl rfl) rfl ?_
              refine zj_ishl (zdk ttX11_readKin 62 rfl rfl) ?_
              have b85 := zshl_1 (n := v76) (a := 0) (b := 17) (lo := 1) (hi := 131072) (by omega) (by decide) (by decide) (by decide)
              refine zj_ior (zdk ttX11_readKin 63 rfl rfl) ?_
              have b86 := zor_in (h.2 19 (18 + v3)) (zshl 1 v76)
              refine zj_iast (zdk ttX11_readKin 64 rfl rfl) (kaM_19 s79) (by decide) (by omega) (fun h87 e88 => ?_)
              refine zj_aload_n (zdk ttX11_readKin 65 rfl rfl) rfl (by decide) ?_
              have s89 : okM h87 := awM_19 s79 e88 (by omega) (by unfold nsp; omega)
              refine zj_getr (r := 19) (zdk ttX11_readKin 66 rfl rfl) zf_RX11_68 rfl (k_M s89) (rfM_38 s89) ?_
              refine zj_bipush (zdk ttX11_readKin 67 rfl rfl) (by decide) ?_
              refine zj_iload_n (zdk ttX11_readKin 68 rfl rfl) rfl ?_
              refine zj_iadd (zdk ttX11_readKin 69 rfl rfl) ?_
              refine zj_aload_n (zdk ttX11_readKin 70 rfl rfl) rfl (by decide) ?_
              refine zj_getr (r := 19) (zdk ttX11_readKin 71 rfl rfl) zf_RX11_68 rfl (k_M s89) (rfM_38 s89) ?_
              refine zj_bipush (zdk ttX11_readKin 72 rfl rfl) (by decide) ?_
              refine zj_iload_n (zdk ttX11_readKin 73 rfl rfl) rfl ?_
              refine zj_iadd (zdk ttX11_readKin 74 rfl rfl) ?_
              have b90 : -2147483648 ≤ (h87.2 19 (18 + v76)) ∧ (h87.2 19 (18 + v76)) ≤ 2147483647 := abM_19 s89 (18 + v76)
              refine zj_iald (v := (h87.2 19 (18 + v76))) (zdk ttX11_readKin 75 rfl rfl) (kaM_19 s89) (by decide) (by omega) rfl ?_
              refine zj_iconst (zdk ttX11_readKin 76 rfl rfl) ?_
              refine zj_iload_n (zdk ttX11_readKin 77 rfl rfl) rfl ?_
              refine zj_ishl (zdk ttX11_readKin 78 rfl rfl) ?_
              have b91 := zshl_1 (n := v3) (a := 0) (b := 17) (lo := 1) (hi := 131072) (by omega) (by decide) (by decide) (by decide)
              refine zj_ior (zdk ttX11_readKin 79 rfl rfl) ?_
              have b92 := zor_in (h87.2 19 (18 + v76)) (zshl 1 v3)
              refine zj_iast (zdk ttX11_readKin 80 rfl rfl) (kaM_19 s89) (by decide) (by omega) (fun h93 e94 => ?_)
              refine zj_aload_n (zdk ttX11_readKin 81 rfl rfl) rfl (by decide) ?_
              refine zj_bipush (zdk ttX11_readKin 82 rfl rfl) (by decide) ?_
              have s95 : okM h93 := awM_19 s89 e94 (by omega) (by unfold nsp; omega)
              refine zj_callV (av := [.inl 59]) (st := []) (zdk ttX11_readKin 83 rfl rfl) mb_X11_readMark mv_RX11_255 (ci := 11) rfl rfl (k_M s95) rfl rfl (Nat.le_of_ble_eq_true rfl) (s_X11_readMark l h93 59 s95 (by omega)) (rm_ok (by decide) (by decide)) (zq_i fun v97 h98 q96 => ?_)
              obtain ⟨b99, s100, f101⟩ := q96
              have f107 : zfr [12, 13, 14, 15, 29, 30] [19] h h4 := zfr_t (zfr_r _ _ _) f8 rfl rfl
              have f106 : zfr [12, 13, 14, 15, 29, 30] [19] h h29 := zfr_t f107 f34 rfl rfl
              have f105 : zfr [12, 13, 14, 15, 29, 30] [19] h h77 := zfr_t f106 f81 rfl rfl
              have f104 : zfr [12, 13, 14, 15, 29, 30] [19] h h87 := zfr_wa f105 e88 rfl
              have f103 : zfr [12, 13, 14, 15, 29, 30] [19] h h93 := zfr_wa f104 e94 rfl
              have f102 : zfr [12, 13, 14, 15, 29, 30] [19] h h98 := zfr_t f103 f101 rfl rfl
              exact zj_iret rfl (zdk ttX11_readKin 84 rfl rfl) (Nat.le_refl _) (Nat.le_refl _) ⟨v97, rfl, by omega, s100, f102⟩
            · refine zj_iconst (zdk ttX11_readKin 47 rfl rfl) ?_
              have f110 : zfr [12, 13, 14, 15, 29, 30] [19] h h4 := zfr_t (zfr_r _ _ _) f8 rfl rfl
              have f109 : zfr [12, 13, 14, 15, 29, 30] [19] h h29 := zfr_t f110 f34 rfl rfl
              have f108 : zfr [12, 13, 14, 15, 29, 30] [19] h h77 := zfr_t f109 f81 rfl rfl
              exact zj_iret rfl (zdk ttX11_readKin 48 rfl rfl) (Nat.le_refl _) (Nat.le_refl _) ⟨(-1), rfl, by omega, s79, f108⟩
          · refine zj_aload_n (zdk ttX11_readKin 32 rfl rfl) rfl (by decide) ?_
            refine zj_iconst (zdk ttX11_readKin 33 rfl rfl) ?_
            refine zj_callV (av := [.inl 2]) (st := []) (zdk ttX11_readKin 34 rfl rfl) mb_X11_errs mv_RX11_197 (ci := 11) rfl rfl (k_M s31) rfl rfl (Nat.le_of_ble_eq_true rfl) (s_X11_errs l h29 2 s31 (by omega)) (rm_ok (by decide) (by decide)) (zq_i fun v112 h113 q111 => ?_)
            obtain ⟨b114, s115, f116⟩ := q111
            have f119 : zfr [12, 13, 14, 15, 29, 30] [19] h h4 := zfr_t (zfr_r _ _ _) f8 rfl rfl
            have f118 : zfr [12, 13, 14, 15, 29, 30] [19] h h29 := zfr_t f119 f34 rfl rfl
            have f117 : zfr [12, 13, 14, 15, 29, 30] [19] h h113 := zfr_t f118 f116 rfl rfl
            exact zj_iret rfl (zdk ttX11_readKin 35 rfl rfl) (Nat.le_refl _) (Nat.le_refl _) ⟨v112, rfl, by omega, s115, f117⟩
      · exact absurd c26 (by omega)
  · refine zj_iconst (zdk ttX11_readKin 12 rfl rfl) ?_
    have f120 : zfr [12, 13, 14, 15, 29, 30] [19] h h4 := zfr_t (zfr_r _ _ _) f8 rfl rfl
    exact zj_iret rfl (zdk ttX11_readKin 13 rfl rfl) (Nat.le_refl _) (Nat.le_refl _) ⟨(-1), rfl, by omega, s6, f120⟩

abbrev tX11_readAllKin : List (Nat × Instr × Nat) := [(0, .iconst 0, 1), (1, .istore_n 1, 1), (2, .iload_n 1, 1), (3, .bipush 18, 2), (5, .if_icmp .ge 19, 3), (8, .aload_n 0, 1), (9, .getfield 68, 3), (12, .bipush 18, 2), (14, .iload_n 1, 1), (15, .iadd, 1), (16, .iconst 0, 1), (17, .iastore, 1), (18, .iinc 1 1, 3), (21, .goto (-19), 3), (24, .iconst 0, 1), (25, .istore_n 1, 1), (26, .aload_n 0, 1), (27, .bipush 22, 2), (29, .invokevirtual 226, 3), (32, .ifCond .eq 32, 3), (35, .iload_n 1, 1), (36, .bipush 16, 2), (38, .if_icmp .ne 9, 3), (41, .aload_n 0, 1), (42, .iconst 3, 1), (43, .invokevirtual 197, 3), (46, .ireturn, 1), (47, .aload_n 0, 1), (48, .invokevirtual 267, 3), (51, .iconst (-1), 1), (52, .if_icmp .ne 5, 3), (55, .iconst (-1), 1), (56, .ireturn, 1), (57, .iload_n 1, 1), (58, .iconst 1, 1), (59, .iadd, 1), (60, .istore_n 1, 1), (61, .goto (-35), 3), (64, .aload_n 0, 1), (65, .getfield 166, 3), (68, .ifCond .ne 7, 3), (71, .iload_n 1, 1), (72, .goto 8, 3), (75, .aload_n 0, 1), (76, .iconst 1, 1), (77, .invokevirtual 197, 3), (80, .ireturn, 1)]
theorem ttX11_readAllKin : zdt cX11_readAllKin tX11_readAllKin = true := by decide +kernel
abbrev q_X11_readAllKin (h : zM) : Option zV → zM → Prop := zqi fun v h' => ((-1) ≤ v ∧ v ≤ 16) ∧ okM h' ∧ zfr [12, 13, 14, 15, 29, 30] [19] h h'
set_option maxRecDepth 100000 in
set_option maxHeartbeats 4000000 in
theorem s_X11_readAllKin (l : Launch) (h : zM) (s0 : okM h) : zT shM l yX11_readAllKin cX11_readAllKin 2 (some .int) (rmL 7) 0 0 [.inr 0] h (q_X11_readAllKin h) := by
  refine zT_of (by decide +kernel) (L0 := [some (.inr 0), none]) rfl (Nat.le_of_ble_eq_true rfl) ?_
  refine zj_iconst (zdk ttX11_readAllKin 0 rfl rfl) ?_
  refine zj_istore_n (L' := [some (.inr 0), some (.inl 0)]) (zdk ttX11_readAllKin 1 rfl rfl) (by decide) rfl ?_
  have lp32 : ∀ (n2 : Nat) (x1 : Int) (h2 : zM), (0 ≤ x1 ∧ x1 ≤ 18) → okM h2 → zfr [12, 13, 14, 15, 29, 30] [19] h h2 → (19 - x1).toNat < n2 → zJ shM l yX11_readAllKin cX11_readAllKin 2 (some .int) (rmL 7) 0 0 (q_X11_readAllKin h) 0 0 2 [some (.inr 0), some (.inl x1)] [] h2 := by
    intro n2
    induction n2 with
    | zero => intro x1 h2 b33 s3 f4 m34; exact absurd m34 (Nat.not_lt_zero _)
    | succ n2 ih35 =>
      intro x1 h2 b33 s3 f4 m34
      refine zj_iload_n (zdk ttX11_readAllKin 2 rfl rfl) rfl ?_
      refine zj_bipush (zdk ttX11_readAllKin 3 rfl rfl) (by decide) ?_
      refine zj_icmp_ge (t := 24) (zdk ttX11_readAllKin 4 rfl rfl) (by decide) (by omega) (by decide) (fun c36 => ?_) (fun c36 => ?_)
      · refine zj_iconst (zdk ttX11_readAllKin 14 rfl rfl) ?_
        refine zj_istore_n (L' := [some (.inr 0), some (.inl 0)]) (zdk ttX11_readAllKin 15 rfl rfl) (by decide) rfl ?_
        have lp155 : ∀ (n26 : Nat) (x39 : Int) (h40 : zM), (0 ≤ x39 ∧ x39 ≤ 16) → okM h40 → zfr [12, 13, 14, 15, 29, 30] [19] h h40 → (17 - x39).toNat < n26 → zJ shM l yX11_readAllKin cX11_readAllKin 2 (some .int) (rmL 7) 0 0 (q_X11_readAllKin h) 0 0 26 [some (.inr 0), some (.inl x39)] [] h40 := by
          intro n26
          induction n26 with
          | zero => intro x39 h40 b156 s41 f42 m157; exact absurd m157 (Nat.not_lt_zero _)
          | succ n26 ih158 =>
            intro x39 h40 b156 s41 f42 m157
            refine zj_aload_n (zdk ttX11_readAllKin 16 rfl rfl) rfl (by decide) ?_
            refine zj_bipush (zdk ttX11_readAllKin 17 rfl rfl) (by decide) ?_
            refine zj_callV (av := [.inl 22]) (st := []) (zdk ttX11_readAllKin 18 rfl rfl) mb_X11_isWord mv_RX11_226 (ci := 11) rfl rfl (k_M s41) rfl rfl (Nat.le_of_ble_eq_true rfl) (s_X11_isWord l h40 22 s41 (by omega)) (rm_ok (by decide) (by decide)) (zq_i fun v160 h161 q159 => ?_)
            obtain ⟨rfl, b163, b164, ⟨rfl, b162⟩ | ⟨rfl, b162⟩⟩ := q159
            · refine zj_if_eq (t := 64) (zdk ttX11_readAllKin 19 rfl rfl) (by decide) (by decide) (fun c165 => ?_) (fun c165 => ?_)
              · refine zj_aload_n (zdk ttX11_readAllKin 38 rfl rfl) rfl (by decide) ?_
                refine zj_geti (v := (h40.2 0 14)) (zdk ttX11_readAllKin 39 rfl rfl) zf_RX11_166 rfl (k_M s41) rfl ?_
                refine zj_if_ne (t := 75) (zdk ttX11_readAllKin 40 rfl rfl) (by decide) (by omega) (fun c166 => ?_) (fun c166 => ?_)
                · refine zj_aload_n (zdk ttX11_readAllKin 43 rfl rfl) rfl (by decide) ?_
                  refine zj_iconst (zdk ttX11_readAllKin 44 rfl rfl) ?_
                  refine zj_callV (av := [.inl 1]) (st := []) (zdk ttX11_readAllKin 45 rfl rfl) mb_X11_errs mv_RX11_197 (ci := 11) rfl rfl (k_M s41) rfl rfl (Nat.le_of_ble_eq_true rfl) (s_X11_errs l h40 1 s41 (by omega)) (rm_ok (by decide) (by decide)) (zq_i fun v168 h169 q167 => ?_)
                  obtain ⟨b170, s171, f172⟩ := q167
                  have f173 : zfr [12, 13, 14, 15, 29, 30] [19] h h169 := zfr_t f42 f172 rfl rfl
                  exact zj_iret rfl (zdk ttX11_readAllKin 46 rfl rfl) (Nat.le_refl _) (Nat.le_refl _) ⟨v168, rfl, by omega, s171, f173⟩
                · refine zj_iload_n (zdk ttX11_readAllKin 41 rfl rfl) rfl ?_
                  refine zj_goto (t := 80) (zdk ttX11_readAllKin 42 rfl rfl) (by decide) ?_
                  exact zj_iret rfl (zdk ttX11_readAllKin 46 rfl rfl) (Nat.le_refl _) (Nat.le_refl _) ⟨x39, rfl, by omega, s41, f42⟩
              · exact absurd c165 (by omega)
            · refine zj_if_eq (t := 64) (zdk ttX11_readAllKin 19 rfl rfl) (by decide) (by decide) (fun c174 => ?_) (fun c174 => ?_)
              · exact absurd c174 (by omega)
              · refine zj_iload_n (zdk ttX11_readAllKin 20 rfl rfl) rfl ?_
                refine zj_bipush (zdk ttX11_readAllKin 21 rfl rfl) (by decide) ?_
                refine zj_icmp_ne (t := 47) (zdk ttX11_readAllKin 22 rfl rfl) (by decide) (by omega) (by decide) (fun c175 => ?_) (fun c175 => ?_)
                · refine zj_aload_n (zdk ttX11_readAllKin 27 rfl rfl) rfl (by decide) ?_
                  refine zj_callV (av := []) (st := []) (zdk ttX11_readAllKin 28 rfl rfl) mb_X11_readKin mv_RX11_267 (ci := 11) rfl rfl (k_M s41) rfl rfl (Nat.le_of_ble_eq_true rfl) (s_X11_readKin l h40 s41) (rm_ok (by decide) (by decide)) (zq_i fun v177 h178 q176 => ?_)
                  obtain ⟨b179, s180, f181⟩ := q176
                  refine zj_iconst (zdk ttX11_readAllKin 29 rfl rfl) ?_
                  refine zj_icmp_ne (t := 57) (zdk ttX11_readAllKin 30 rfl rfl) (by decide) (by omega) (by decide) (fun c182 => ?_) (fun c182 => ?_)
                  · refine zj_iload_n (zdk ttX11_readAllKin 33 rfl rfl) rfl ?_
                    refine zj_iconst (zdk ttX11_readAllKin 34 rfl rfl) ?_
                    refine zj_iadd (zdk ttX11_readAllKin 35 rfl rfl) ?_
                    refine zj_istore_n (L' := [some (.inr 0), some (.inl (x39 + 1))]) (zdk ttX11_readAllKin 36 rfl rfl) (by decide) rfl ?_
                    refine zj_goto (t := 26) (zdk ttX11_readAllKin 37 rfl rfl) (by decide) ?_
                    have f183 : zfr [12, 13, 14, 15, 29, 30] [19] h h178 := zfr_t f42 f181 rfl rfl
                    exact ih158  (x39 + 1) h178 (by omega) s180 f183 (by omega)
                  · refine zj_iconst (zdk ttX11_readAllKin 31 rfl rfl) ?_
                    have f184 : zfr [12, 13, 14, 15, 29, 30] [19] h h178 := zfr_t f42 f181 rfl rfl
                    exact zj_iret rfl (zdk ttX11_readAllKin 32 rfl rfl) (Nat.le_refl _) (Nat.le_refl _) ⟨(-1), rfl, by omega, s180, f184⟩
                · refine zj_aload_n (zdk ttX11_readAllKin 23 rfl rfl) rfl (by decide) ?_
                  refine zj_iconst (zdk ttX11_readAllKin 24 rfl rfl) ?_
                  refine zj_callV (av := [.inl 3]) (st := []) (zdk ttX11_readAllKin 25 rfl rfl) mb_X11_errs mv_RX11_197 (ci := 11) rfl rfl (k_M s41) rfl rfl (Nat.le_of_ble_eq_true rfl) (s_X11_errs l h40 3 s41 (by omega)) (rm_ok (by decide) (by decide)) (zq_i fun v186 h187 q185 => ?_)
                  obtain ⟨b188, s189, f190⟩ := q185
                  have f191 : zfr [12, 13, 14, 15, 29, 30] [19] h h187 := zfr_t f42 f190 rfl rfl
                  exact zj_iret rfl (zdk ttX11_readAllKin 26 rfl rfl) (Nat.le_refl _) (Nat.le_refl _) ⟨v186, rfl, by omega, s189, f191⟩
        exact lp155 _ 0 h2 (by omega) s3 f4 (Nat.lt_succ_self _)
      · refine zj_aload_n (zdk ttX11_readAllKin 5 rfl rfl) rfl (by decide) ?_
        refine zj_getr (r := 19) (zdk ttX11_readAllKin 6 rfl rfl) zf_RX11_68 rfl (k_M s3) (rfM_38 s3) ?_
        refine zj_bipush (zdk ttX11_readAllKin 7 rfl rfl) (by decide) ?_
        refine zj_iload_n (zdk ttX11_readAllKin 8 rfl rfl) rfl ?_
        refine zj_iadd (zdk ttX11_readAllKin 9 rfl rfl) ?_
        refine zj_iconst (zdk ttX11_readAllKin 10 rfl rfl) ?_
        refine zj_iast (zdk ttX11_readAllKin 11 rfl rfl) (kaM_19 s3) (by decide) (by omega) (fun h192 e193 => ?_)
        refine zj_iinc (L' := [some (.inr 0), some (.inl (x1 + 1))]) (zdk ttX11_readAllKin 12 rfl rfl) rfl (by decide) rfl ?_
        refine zj_goto (t := 2) (zdk ttX11_readAllKin 13 rfl rfl) (by decide) ?_
        have s194 : okM h192 := awM_19 s3 e193 (by omega) (by unfold nsp; omega)
        have f195 : zfr [12, 13, 14, 15, 29, 30] [19] h h192 := zfr_wa f4 e193 rfl
        exact ih35  (x1 + 1) h192 (by omega) s194 f195 (by omega)
  exact lp32 _ 0 h (by omega) s0 (zfr_r _ _ _) (Nat.lt_succ_self _)
